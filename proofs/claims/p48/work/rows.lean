section
-- ===== PART A: goes FIRST, ahead of the names: the tables' words, and 'selects' of the private methods out of them =====
/-- a private method of a class that the tables say can be made, by its rows of tables_1 -/
def lw_okq (q : MethodName × Nat) : Prop := (q.1.cls ≠ "java/lang/invoke/MethodHandle" ∧ q.1.cls ≠ "java/lang/invoke/VarHandle") ∧ Cond.instantiable q.1.cls q.2 ∈ tables_1 ∧ Cond.privateMethod q.1 ∈ tables_1 ∧ Cond.instanceMethod q.1 ∈ tables_1
theorem lw_p0 : lw_okq (⟨"OrielChart", "freshRanks", "()LOrielChart$Ranks;"⟩, 6) := ⟨⟨by decide +kernel, by decide +kernel⟩, List.mem_of_getElem? (i := 18) (by decide +kernel), List.mem_of_getElem? (i := 330) (by decide +kernel), List.mem_of_getElem? (i := 331) (by decide +kernel)⟩
theorem lw_p1 : lw_okq (⟨"OrielChart", "freshFlow", "()LOrielChart$Flow;"⟩, 6) := ⟨⟨by decide +kernel, by decide +kernel⟩, List.mem_of_getElem? (i := 18) (by decide +kernel), List.mem_of_getElem? (i := 334) (by decide +kernel), List.mem_of_getElem? (i := 335) (by decide +kernel)⟩
theorem lw_p2 : lw_okq (⟨"OrielChart$Flow", "cut", "(IJ)V"⟩, 11) := ⟨⟨by decide +kernel, by decide +kernel⟩, List.mem_of_getElem? (i := 59) (by decide +kernel), List.mem_of_getElem? (i := 354) (by decide +kernel), List.mem_of_getElem? (i := 355) (by decide +kernel)⟩
theorem lw_p3 : lw_okq (⟨"OrielChart$Flow", "leave", "(LOrielChart$Code;I)V"⟩, 11) := ⟨⟨by decide +kernel, by decide +kernel⟩, List.mem_of_getElem? (i := 59) (by decide +kernel), List.mem_of_getElem? (i := 367) (by decide +kernel), List.mem_of_getElem? (i := 368) (by decide +kernel)⟩
theorem lw_p4 : lw_okq (⟨"OrielChart$Flow", "join", "(III)V"⟩, 11) := ⟨⟨by decide +kernel, by decide +kernel⟩, List.mem_of_getElem? (i := 59) (by decide +kernel), List.mem_of_getElem? (i := 371) (by decide +kernel), List.mem_of_getElem? (i := 372) (by decide +kernel)⟩
theorem lw_p5 : lw_okq (⟨"OrielChart$Ranks", "sortEdges", "(LOrielChart$Flow;)V"⟩, 7) := ⟨⟨by decide +kernel, by decide +kernel⟩, List.mem_of_getElem? (i := 124) (by decide +kernel), List.mem_of_getElem? (i := 405) (by decide +kernel), List.mem_of_getElem? (i := 406) (by decide +kernel)⟩
theorem lw_p6 : lw_okq (⟨"OrielChart$Ranks", "closeLoop", "(I)V"⟩, 7) := ⟨⟨by decide +kernel, by decide +kernel⟩, List.mem_of_getElem? (i := 124) (by decide +kernel), List.mem_of_getElem? (i := 415) (by decide +kernel), List.mem_of_getElem? (i := 416) (by decide +kernel)⟩
theorem lw_p7 : lw_okq (⟨"OrielChart", "freshLives", "()LOrielChart$Lives;"⟩, 6) := ⟨⟨by decide +kernel, by decide +kernel⟩, List.mem_of_getElem? (i := 18) (by decide +kernel), List.mem_of_getElem? (i := 419) (by decide +kernel), List.mem_of_getElem? (i := 420) (by decide +kernel)⟩
theorem lw_p8 : lw_okq (⟨"OrielChart$Lives", "passUp", "(LOrielChart$Code;LOrielChart$Flow;)Z"⟩, 3) := ⟨⟨by decide +kernel, by decide +kernel⟩, List.mem_of_getElem? (i := 155) (by decide +kernel), List.mem_of_getElem? (i := 428) (by decide +kernel), List.mem_of_getElem? (i := 429) (by decide +kernel)⟩
theorem lw_p9 : lw_okq (⟨"OrielChart$Lives", "behind", "(LOrielChart$Flow;I)I"⟩, 3) := ⟨⟨by decide +kernel, by decide +kernel⟩, List.mem_of_getElem? (i := 155) (by decide +kernel), List.mem_of_getElem? (i := 433) (by decide +kernel), List.mem_of_getElem? (i := 434) (by decide +kernel)⟩
theorem lw_p10 : lw_okq (⟨"OrielChart$Lives", "vainIn", "(LOrielChart$Code;LOrielChart$Flow;I)I"⟩, 3) := ⟨⟨by decide +kernel, by decide +kernel⟩, List.mem_of_getElem? (i := 155) (by decide +kernel), List.mem_of_getElem? (i := 442) (by decide +kernel), List.mem_of_getElem? (i := 443) (by decide +kernel)⟩
theorem lw_p11 : lw_okq (⟨"OrielChart", "freshReduction", "()LOrielChart$Reduction;"⟩, 6) := ⟨⟨by decide +kernel, by decide +kernel⟩, List.mem_of_getElem? (i := 18) (by decide +kernel), List.mem_of_getElem? (i := 446) (by decide +kernel), List.mem_of_getElem? (i := 447) (by decide +kernel)⟩
theorem lw_p12 : lw_okq (⟨"OrielChart$Reduction", "takeStep", "()Z"⟩, 8) := ⟨⟨by decide +kernel, by decide +kernel⟩, List.mem_of_getElem? (i := 173) (by decide +kernel), List.mem_of_getElem? (i := 458) (by decide +kernel), List.mem_of_getElem? (i := 459) (by decide +kernel)⟩
theorem lw_p13 : lw_okq (⟨"OrielChart$Reduction", "findEntries", "()V"⟩, 8) := ⟨⟨by decide +kernel, by decide +kernel⟩, List.mem_of_getElem? (i := 173) (by decide +kernel), List.mem_of_getElem? (i := 462) (by decide +kernel), List.mem_of_getElem? (i := 463) (by decide +kernel)⟩
theorem lw_p14 : lw_okq (⟨"OrielChart$Reduction", "ruleFor", "(I)I"⟩, 8) := ⟨⟨by decide +kernel, by decide +kernel⟩, List.mem_of_getElem? (i := 173) (by decide +kernel), List.mem_of_getElem? (i := 468) (by decide +kernel), List.mem_of_getElem? (i := 469) (by decide +kernel)⟩
theorem lw_p15 : lw_okq (⟨"OrielChart$Reduction", "isSingle", "(III)Z"⟩, 8) := ⟨⟨by decide +kernel, by decide +kernel⟩, List.mem_of_getElem? (i := 173) (by decide +kernel), List.mem_of_getElem? (i := 475) (by decide +kernel), List.mem_of_getElem? (i := 476) (by decide +kernel)⟩
def lw_privs_1 : List (MethodName × Nat) := [(⟨"OrielChart", "freshRanks", "()LOrielChart$Ranks;"⟩, 6), (⟨"OrielChart", "freshFlow", "()LOrielChart$Flow;"⟩, 6), (⟨"OrielChart$Flow", "cut", "(IJ)V"⟩, 11), (⟨"OrielChart$Flow", "leave", "(LOrielChart$Code;I)V"⟩, 11), (⟨"OrielChart$Flow", "join", "(III)V"⟩, 11), (⟨"OrielChart$Ranks", "sortEdges", "(LOrielChart$Flow;)V"⟩, 7), (⟨"OrielChart$Ranks", "closeLoop", "(I)V"⟩, 7), (⟨"OrielChart", "freshLives", "()LOrielChart$Lives;"⟩, 6), (⟨"OrielChart$Lives", "passUp", "(LOrielChart$Code;LOrielChart$Flow;)Z"⟩, 3), (⟨"OrielChart$Lives", "behind", "(LOrielChart$Flow;I)I"⟩, 3), (⟨"OrielChart$Lives", "vainIn", "(LOrielChart$Code;LOrielChart$Flow;I)I"⟩, 3), (⟨"OrielChart", "freshReduction", "()LOrielChart$Reduction;"⟩, 6), (⟨"OrielChart$Reduction", "takeStep", "()Z"⟩, 8), (⟨"OrielChart$Reduction", "findEntries", "()V"⟩, 8), (⟨"OrielChart$Reduction", "ruleFor", "(I)I"⟩, 8), (⟨"OrielChart$Reduction", "isSingle", "(III)Z"⟩, 8)]
theorem lw_r1 : ∀ q ∈ lw_privs_1, lw_okq q := List.forall_mem_cons.mpr ⟨lw_p0, List.forall_mem_cons.mpr ⟨lw_p1, List.forall_mem_cons.mpr ⟨lw_p2, List.forall_mem_cons.mpr ⟨lw_p3, List.forall_mem_cons.mpr ⟨lw_p4, List.forall_mem_cons.mpr ⟨lw_p5, List.forall_mem_cons.mpr ⟨lw_p6, List.forall_mem_cons.mpr ⟨lw_p7, List.forall_mem_cons.mpr ⟨lw_p8, List.forall_mem_cons.mpr ⟨lw_p9, List.forall_mem_cons.mpr ⟨lw_p10, List.forall_mem_cons.mpr ⟨lw_p11, List.forall_mem_cons.mpr ⟨lw_p12, List.forall_mem_cons.mpr ⟨lw_p13, List.forall_mem_cons.mpr ⟨lw_p14, List.forall_mem_cons.mpr ⟨lw_p15, fun _ h => absurd h List.not_mem_nil⟩⟩⟩⟩⟩⟩⟩⟩⟩⟩⟩⟩⟩⟩⟩⟩
theorem lw_p16 : lw_okq (⟨"OrielChart$Reduction", "isDouble", "(III)Z"⟩, 8) := ⟨⟨by decide +kernel, by decide +kernel⟩, List.mem_of_getElem? (i := 173) (by decide +kernel), List.mem_of_getElem? (i := 479) (by decide +kernel), List.mem_of_getElem? (i := 480) (by decide +kernel)⟩
theorem lw_p17 : lw_okq (⟨"OrielChart$Reduction", "apply", "(II)V"⟩, 8) := ⟨⟨by decide +kernel, by decide +kernel⟩, List.mem_of_getElem? (i := 173) (by decide +kernel), List.mem_of_getElem? (i := 483) (by decide +kernel), List.mem_of_getElem? (i := 484) (by decide +kernel)⟩
theorem lw_p18 : lw_okq (⟨"OrielChart$Reduction", "merge", "(JIZ)V"⟩, 8) := ⟨⟨by decide +kernel, by decide +kernel⟩, List.mem_of_getElem? (i := 173) (by decide +kernel), List.mem_of_getElem? (i := 487) (by decide +kernel), List.mem_of_getElem? (i := 488) (by decide +kernel)⟩
theorem lw_p19 : lw_okq (⟨"OrielChart", "freshPicture", "()LOrielChart$Picture;"⟩, 6) := ⟨⟨by decide +kernel, by decide +kernel⟩, List.mem_of_getElem? (i := 18) (by decide +kernel), List.mem_of_getElem? (i := 491) (by decide +kernel), List.mem_of_getElem? (i := 492) (by decide +kernel)⟩
theorem lw_p20 : lw_okq (⟨"OrielChart$Walk", "enter", "(LOrielChart$Flow;I)V"⟩, 9) := ⟨⟨by decide +kernel, by decide +kernel⟩, List.mem_of_getElem? (i := 215) (by decide +kernel), List.mem_of_getElem? (i := 504) (by decide +kernel), List.mem_of_getElem? (i := 505) (by decide +kernel)⟩
theorem lw_p21 : lw_okq (⟨"OrielChart$Walk", "goOn", "(LOrielChart$Flow;I)V"⟩, 9) := ⟨⟨by decide +kernel, by decide +kernel⟩, List.mem_of_getElem? (i := 215) (by decide +kernel), List.mem_of_getElem? (i := 510) (by decide +kernel), List.mem_of_getElem? (i := 511) (by decide +kernel)⟩
theorem lw_p22 : lw_okq (⟨"OrielChart$Picture", "setLayers", "()V"⟩, 16) := ⟨⟨by decide +kernel, by decide +kernel⟩, List.mem_of_getElem? (i := 209) (by decide +kernel), List.mem_of_getElem? (i := 516) (by decide +kernel), List.mem_of_getElem? (i := 517) (by decide +kernel)⟩
theorem lw_p23 : lw_okq (⟨"OrielChart$Picture", "pushDown", "()Z"⟩, 16) := ⟨⟨by decide +kernel, by decide +kernel⟩, List.mem_of_getElem? (i := 209) (by decide +kernel), List.mem_of_getElem? (i := 522) (by decide +kernel), List.mem_of_getElem? (i := 523) (by decide +kernel)⟩
theorem lw_p24 : lw_okq (⟨"OrielChart$Picture", "top", "(I)I"⟩, 16) := ⟨⟨by decide +kernel, by decide +kernel⟩, List.mem_of_getElem? (i := 209) (by decide +kernel), List.mem_of_getElem? (i := 531) (by decide +kernel), List.mem_of_getElem? (i := 532) (by decide +kernel)⟩
theorem lw_p25 : lw_okq (⟨"OrielChart$Picture", "numberBends", "()V"⟩, 16) := ⟨⟨by decide +kernel, by decide +kernel⟩, List.mem_of_getElem? (i := 209) (by decide +kernel), List.mem_of_getElem? (i := 538) (by decide +kernel), List.mem_of_getElem? (i := 539) (by decide +kernel)⟩
theorem lw_p26 : lw_okq (⟨"OrielChart$Picture", "bottom", "(I)I"⟩, 16) := ⟨⟨by decide +kernel, by decide +kernel⟩, List.mem_of_getElem? (i := 209) (by decide +kernel), List.mem_of_getElem? (i := 546) (by decide +kernel), List.mem_of_getElem? (i := 547) (by decide +kernel)⟩
theorem lw_p27 : lw_okq (⟨"OrielChart$Picture", "fill", "(II)I"⟩, 16) := ⟨⟨by decide +kernel, by decide +kernel⟩, List.mem_of_getElem? (i := 209) (by decide +kernel), List.mem_of_getElem? (i := 550) (by decide +kernel), List.mem_of_getElem? (i := 551) (by decide +kernel)⟩
theorem lw_p28 : lw_okq (⟨"OrielChart$Picture", "putPoint", "(III)V"⟩, 16) := ⟨⟨by decide +kernel, by decide +kernel⟩, List.mem_of_getElem? (i := 209) (by decide +kernel), List.mem_of_getElem? (i := 554) (by decide +kernel), List.mem_of_getElem? (i := 555) (by decide +kernel)⟩
theorem lw_p29 : lw_okq (⟨"OrielChart$Picture", "pointOn", "(II)I"⟩, 16) := ⟨⟨by decide +kernel, by decide +kernel⟩, List.mem_of_getElem? (i := 209) (by decide +kernel), List.mem_of_getElem? (i := 558) (by decide +kernel), List.mem_of_getElem? (i := 559) (by decide +kernel)⟩
theorem lw_p30 : lw_okq (⟨"OrielChart", "digestOfCode", "(J)J"⟩, 6) := ⟨⟨by decide +kernel, by decide +kernel⟩, List.mem_of_getElem? (i := 18) (by decide +kernel), List.mem_of_getElem? (i := 563) (by decide +kernel), List.mem_of_getElem? (i := 564) (by decide +kernel)⟩
theorem lw_p31 : lw_okq (⟨"OrielChart", "digestOfBlocks", "(J)J"⟩, 6) := ⟨⟨by decide +kernel, by decide +kernel⟩, List.mem_of_getElem? (i := 18) (by decide +kernel), List.mem_of_getElem? (i := 572) (by decide +kernel), List.mem_of_getElem? (i := 573) (by decide +kernel)⟩
def lw_privs_2 : List (MethodName × Nat) := [(⟨"OrielChart$Reduction", "isDouble", "(III)Z"⟩, 8), (⟨"OrielChart$Reduction", "apply", "(II)V"⟩, 8), (⟨"OrielChart$Reduction", "merge", "(JIZ)V"⟩, 8), (⟨"OrielChart", "freshPicture", "()LOrielChart$Picture;"⟩, 6), (⟨"OrielChart$Walk", "enter", "(LOrielChart$Flow;I)V"⟩, 9), (⟨"OrielChart$Walk", "goOn", "(LOrielChart$Flow;I)V"⟩, 9), (⟨"OrielChart$Picture", "setLayers", "()V"⟩, 16), (⟨"OrielChart$Picture", "pushDown", "()Z"⟩, 16), (⟨"OrielChart$Picture", "top", "(I)I"⟩, 16), (⟨"OrielChart$Picture", "numberBends", "()V"⟩, 16), (⟨"OrielChart$Picture", "bottom", "(I)I"⟩, 16), (⟨"OrielChart$Picture", "fill", "(II)I"⟩, 16), (⟨"OrielChart$Picture", "putPoint", "(III)V"⟩, 16), (⟨"OrielChart$Picture", "pointOn", "(II)I"⟩, 16), (⟨"OrielChart", "digestOfCode", "(J)J"⟩, 6), (⟨"OrielChart", "digestOfBlocks", "(J)J"⟩, 6)]
theorem lw_r2 : ∀ q ∈ lw_privs_2, lw_okq q := List.forall_mem_cons.mpr ⟨lw_p16, List.forall_mem_cons.mpr ⟨lw_p17, List.forall_mem_cons.mpr ⟨lw_p18, List.forall_mem_cons.mpr ⟨lw_p19, List.forall_mem_cons.mpr ⟨lw_p20, List.forall_mem_cons.mpr ⟨lw_p21, List.forall_mem_cons.mpr ⟨lw_p22, List.forall_mem_cons.mpr ⟨lw_p23, List.forall_mem_cons.mpr ⟨lw_p24, List.forall_mem_cons.mpr ⟨lw_p25, List.forall_mem_cons.mpr ⟨lw_p26, List.forall_mem_cons.mpr ⟨lw_p27, List.forall_mem_cons.mpr ⟨lw_p28, List.forall_mem_cons.mpr ⟨lw_p29, List.forall_mem_cons.mpr ⟨lw_p30, List.forall_mem_cons.mpr ⟨lw_p31, fun _ h => absurd h List.not_mem_nil⟩⟩⟩⟩⟩⟩⟩⟩⟩⟩⟩⟩⟩⟩⟩⟩
theorem lw_p32 : lw_okq (⟨"OrielChart", "digestOfEdges", "(J)J"⟩, 6) := ⟨⟨by decide +kernel, by decide +kernel⟩, List.mem_of_getElem? (i := 18) (by decide +kernel), List.mem_of_getElem? (i := 593) (by decide +kernel), List.mem_of_getElem? (i := 594) (by decide +kernel)⟩
theorem lw_p33 : lw_okq (⟨"OrielChart", "digestOfSteps", "(J)J"⟩, 6) := ⟨⟨by decide +kernel, by decide +kernel⟩, List.mem_of_getElem? (i := 18) (by decide +kernel), List.mem_of_getElem? (i := 612) (by decide +kernel), List.mem_of_getElem? (i := 613) (by decide +kernel)⟩
theorem lw_p34 : lw_okq (⟨"OrielChart", "digestOfLayers", "(J)J"⟩, 6) := ⟨⟨by decide +kernel, by decide +kernel⟩, List.mem_of_getElem? (i := 18) (by decide +kernel), List.mem_of_getElem? (i := 616) (by decide +kernel), List.mem_of_getElem? (i := 617) (by decide +kernel)⟩
theorem lw_p35 : lw_okq (⟨"OrielChart$Picture", "crossingsUnder", "(I)I"⟩, 16) := ⟨⟨by decide +kernel, by decide +kernel⟩, List.mem_of_getElem? (i := 209) (by decide +kernel), List.mem_of_getElem? (i := 632) (by decide +kernel), List.mem_of_getElem? (i := 633) (by decide +kernel)⟩
theorem lw_p36 : lw_okq (⟨"OrielChart$Picture", "leaves", "(II)Z"⟩, 16) := ⟨⟨by decide +kernel, by decide +kernel⟩, List.mem_of_getElem? (i := 209) (by decide +kernel), List.mem_of_getElem? (i := 636) (by decide +kernel), List.mem_of_getElem? (i := 637) (by decide +kernel)⟩
theorem lw_p37 : lw_okq (⟨"java/lang/Throwable", "fillInStackTrace", "(I)Ljava/lang/Throwable;"⟩, 6) := ⟨⟨by decide +kernel, by decide +kernel⟩, List.mem_of_getElem? (i := 704) (by decide +kernel), List.mem_of_getElem? (i := 702) (by decide +kernel), List.mem_of_getElem? (i := 703) (by decide +kernel)⟩
theorem lw_p38 : lw_okq (⟨"OrielChart$Code", "shiftTargets", "(II)V"⟩, 5) := ⟨⟨by decide +kernel, by decide +kernel⟩, List.mem_of_getElem? (i := 26) (by decide +kernel), List.mem_of_getElem? (i := 760) (by decide +kernel), List.mem_of_getElem? (i := 761) (by decide +kernel)⟩
theorem lw_p39 : lw_okq (⟨"OrielChart$Code", "copy", "(II)V"⟩, 5) := ⟨⟨by decide +kernel, by decide +kernel⟩, List.mem_of_getElem? (i := 26) (by decide +kernel), List.mem_of_getElem? (i := 769) (by decide +kernel), List.mem_of_getElem? (i := 770) (by decide +kernel)⟩
theorem lw_p40 : lw_okq (⟨"OrielChart", "forget", "()V"⟩, 6) := ⟨⟨by decide +kernel, by decide +kernel⟩, List.mem_of_getElem? (i := 18) (by decide +kernel), List.mem_of_getElem? (i := 773) (by decide +kernel), List.mem_of_getElem? (i := 774) (by decide +kernel)⟩
theorem lw_p41 : lw_okq (⟨"OrielChart", "needInstruction", "(I)V"⟩, 6) := ⟨⟨by decide +kernel, by decide +kernel⟩, List.mem_of_getElem? (i := 18) (by decide +kernel), List.mem_of_getElem? (i := 781) (by decide +kernel), List.mem_of_getElem? (i := 782) (by decide +kernel)⟩
theorem lw_p42 : lw_okq (⟨"OrielChart$Picture", "arrange", "(II)V"⟩, 16) := ⟨⟨by decide +kernel, by decide +kernel⟩, List.mem_of_getElem? (i := 209) (by decide +kernel), List.mem_of_getElem? (i := 837) (by decide +kernel), List.mem_of_getElem? (i := 838) (by decide +kernel)⟩
theorem lw_p43 : lw_okq (⟨"OrielChart$Picture", "weigh", "(III)V"⟩, 16) := ⟨⟨by decide +kernel, by decide +kernel⟩, List.mem_of_getElem? (i := 209) (by decide +kernel), List.mem_of_getElem? (i := 842) (by decide +kernel), List.mem_of_getElem? (i := 843) (by decide +kernel)⟩
theorem lw_p44 : lw_okq (⟨"OrielChart$Picture", "isAhead", "(II)Z"⟩, 16) := ⟨⟨by decide +kernel, by decide +kernel⟩, List.mem_of_getElem? (i := 209) (by decide +kernel), List.mem_of_getElem? (i := 847) (by decide +kernel), List.mem_of_getElem? (i := 848) (by decide +kernel)⟩
theorem lw_p45 : lw_okq (⟨"OrielChart", "needBlock", "(I)V"⟩, 6) := ⟨⟨by decide +kernel, by decide +kernel⟩, List.mem_of_getElem? (i := 18) (by decide +kernel), List.mem_of_getElem? (i := 877) (by decide +kernel), List.mem_of_getElem? (i := 878) (by decide +kernel)⟩
theorem lw_p46 : lw_okq (⟨"OrielChart", "needEdge", "(I)V"⟩, 6) := ⟨⟨by decide +kernel, by decide +kernel⟩, List.mem_of_getElem? (i := 18) (by decide +kernel), List.mem_of_getElem? (i := 931) (by decide +kernel), List.mem_of_getElem? (i := 932) (by decide +kernel)⟩
theorem lw_p47 : lw_okq (⟨"OrielChart", "needLayer", "(I)V"⟩, 6) := ⟨⟨by decide +kernel, by decide +kernel⟩, List.mem_of_getElem? (i := 18) (by decide +kernel), List.mem_of_getElem? (i := 971) (by decide +kernel), List.mem_of_getElem? (i := 972) (by decide +kernel)⟩
def lw_privs_3 : List (MethodName × Nat) := [(⟨"OrielChart", "digestOfEdges", "(J)J"⟩, 6), (⟨"OrielChart", "digestOfSteps", "(J)J"⟩, 6), (⟨"OrielChart", "digestOfLayers", "(J)J"⟩, 6), (⟨"OrielChart$Picture", "crossingsUnder", "(I)I"⟩, 16), (⟨"OrielChart$Picture", "leaves", "(II)Z"⟩, 16), (⟨"java/lang/Throwable", "fillInStackTrace", "(I)Ljava/lang/Throwable;"⟩, 6), (⟨"OrielChart$Code", "shiftTargets", "(II)V"⟩, 5), (⟨"OrielChart$Code", "copy", "(II)V"⟩, 5), (⟨"OrielChart", "forget", "()V"⟩, 6), (⟨"OrielChart", "needInstruction", "(I)V"⟩, 6), (⟨"OrielChart$Picture", "arrange", "(II)V"⟩, 16), (⟨"OrielChart$Picture", "weigh", "(III)V"⟩, 16), (⟨"OrielChart$Picture", "isAhead", "(II)Z"⟩, 16), (⟨"OrielChart", "needBlock", "(I)V"⟩, 6), (⟨"OrielChart", "needEdge", "(I)V"⟩, 6), (⟨"OrielChart", "needLayer", "(I)V"⟩, 6)]
theorem lw_r3 : ∀ q ∈ lw_privs_3, lw_okq q := List.forall_mem_cons.mpr ⟨lw_p32, List.forall_mem_cons.mpr ⟨lw_p33, List.forall_mem_cons.mpr ⟨lw_p34, List.forall_mem_cons.mpr ⟨lw_p35, List.forall_mem_cons.mpr ⟨lw_p36, List.forall_mem_cons.mpr ⟨lw_p37, List.forall_mem_cons.mpr ⟨lw_p38, List.forall_mem_cons.mpr ⟨lw_p39, List.forall_mem_cons.mpr ⟨lw_p40, List.forall_mem_cons.mpr ⟨lw_p41, List.forall_mem_cons.mpr ⟨lw_p42, List.forall_mem_cons.mpr ⟨lw_p43, List.forall_mem_cons.mpr ⟨lw_p44, List.forall_mem_cons.mpr ⟨lw_p45, List.forall_mem_cons.mpr ⟨lw_p46, List.forall_mem_cons.mpr ⟨lw_p47, fun _ h => absurd h List.not_mem_nil⟩⟩⟩⟩⟩⟩⟩⟩⟩⟩⟩⟩⟩⟩⟩⟩
def lw_privs : List (MethodName × Nat) := lw_privs_1 ++ (lw_privs_2 ++ (lw_privs_3))
def lw_tbl : List Cond := k2_sels lw_privs ++ tables_1
theorem lw_privs_ok : ∀ q ∈ lw_privs, lw_okq q := by
  show ∀ q ∈ lw_privs_1 ++ (lw_privs_2 ++ (lw_privs_3)), lw_okq q
  exact List.forall_mem_append.mpr ⟨lw_r1, List.forall_mem_append.mpr ⟨lw_r2, lw_r3⟩⟩
/-- the streams that the claim lets the run draw from -/
abbrev lw_cs : List Choice := [Jvm.Choice.named "NaN.bits"]
theorem lw_bits : nanBits ∈ lw_cs := by first | decide | exact List.mem_cons_self | simp [lw_cs, nanBits]
end
section
/-! ===== BEGIN words of one list among another's, by their places ===== -/
theorem goodIn_r {big : List Cond} (ws : List Cond) (ps : List Nat) (hp : ws = ps.filterMap (fun i => big[i]?)) (h : ws.all goodWord = true) : GoodIn big ws := by
  intro w hw
  have h1 := List.all_eq_true.mp h w hw
  rw [hp] at hw
  obtain ⟨i, -, hi⟩ := List.mem_filterMap.mp hw
  have hm : w ∈ big := by first | exact List.mem_of_getElem? hi | exact List.getElem?_mem hi
  exact ⟨hm, good_of_word h1⟩
theorem goodIn_app {big a b : List Cond} (ha : GoodIn big a) (hb : GoodIn big b) : GoodIn big (a ++ b) := fun w h => (List.mem_append.mp h).elim (ha w) (hb w)
theorem goodIn_ca {big a b : List Cond} {c : Cond} (ha : GoodIn big (c :: a)) (hb : GoodIn big b) : GoodIn big (c :: (a ++ b)) := fun w h => (List.mem_cons.mp h).elim (fun e => ha w (List.mem_cons.mpr (Or.inl e))) (fun h => (List.mem_append.mp h).elim (fun h => ha w (List.mem_cons.mpr (Or.inr h))) (hb w))
theorem goodIn_sub {big ws : List Cond} (hm : ∀ w ∈ ws, w ∈ big) (h : ws.all goodWord = true) : GoodIn big ws := fun w hw => ⟨hm w hw, good_of_word (List.all_eq_true.mp h w hw)⟩
/-! ===== END ===== -/

/-! ===== BEGIN exceptions that leave a method, and their catching by the caller (launches without stack traces) ===== -/
section VXA
/-! The laws vx_back, vx_callV, vx_callS, vx_callSW, vx_throw0, vx_throwS follow proofs of the library, with one case more: JvmDerived/Free/Laws.lean (Back.of_free), Shelf42/LK1.lean (callV, callS), Shelf/KitTraced.lean (throwNew0V, throwNewS). -/
/-- where a method has thrown q: the class by its name, the cell, what was written, the world -/
def vx_T (XC : String → State → State → Prop) (st : State) (q : Addr) (t : State) (mc ms : Nat) (free : Addr → Prop) : Prop :=
  ∃ (E : String) (ce : Cell) (L : List Loc), XC E st t ∧ t.heap[q]? = some ce ∧ ce.vm = .none ∧ st.vm.findClass E = some ce.cls ∧ st.WarmedH t.vm ∧ st.sameButNew ({ t with vm := st.vm } : State) L mc ms ∧ ∀ z ∈ L, free z.base
def vx_Q (Qc : Array Value → State → Outcome → State → Prop) (XC : String → State → State → Prop) (mc ms : Nat) (free : Addr → Prop) : Array Value → State → Outcome → State → Prop := fun a st o t =>
  (Qc a st o t ∧ ∃ L, FrameEnd st o t L mc ms ∧ ∀ q ∈ L, free q.base) ∨ ∃ q, o = .threw q ∧ vx_T XC st q t mc ms free
/-- a callee that returns or throws -/
def vx_Met (l : Launch) (y : MethodName) (ws : List Cond) (rm : Room) (Pc : Array Value → State → Prop) (Qc : Array Value → State → Outcome → State → Prop) (XC : String → State → State → Prop) (mc ms : Nat) (free : Addr → Prop) : Prop :=
  MetFree l y (headSpec ws rm) Pc (fun _ _ _ _ _ => True) (vx_Q Qc XC mc ms free)
def vx_Post (XC : String → State → State → Prop) (mc ms : Nat) (free : Addr → Prop) : Pt → Array Value → Addr → Pt → Prop := fun A a q B =>
  ∃ (g : JFrame) (mk : MethodId) (t : State) (L : List Loc) (E : String) (ce : Cell), B.U.heap = t.heap ∧ B.U.vm = t.vm ∧ XC E (A.U.calling g mk a) t ∧ t.heap[q]? = some ce ∧ ce.vm = .none ∧ A.U.vm.findClass E = some ce.cls ∧ B.locs = A.locs ++ L ∧ (∀ z ∈ L, free z.base) ∧ B.cells = A.cells + mc ∧ B.slots = A.slots + ms
def vx_Back (l : Launch) (R : Room) (p : Program) (e : Env) (below : List Frame) (s : State) (sargs : Array Value) (y : MethodName) (len W9 : Nat)
    (Pre : Pt → Array Value → Prop) (Post : Pt → Array Value → Option Value → Pt → Prop) (PostX : Pt → Array Value → Addr → Pt → Prop) : Prop :=
  ∀ (m : MethodId) (meth : Method) (c : Code) (A : Pt) (g : JFrame) (ig : Instr) (mk : MethodId) (a : Array Value),
    Stand p l e R s m sargs below meth c A.U A.locs A.cells A.slots → g.method = m → g.locals.size = c.maxLocals → decode c.code g.pc = .ok (ig, len) →
    2 * g.monitorRoom + (g.stack.map fun v => v.category).sum ≤ W9 → A.U.methodNamed? y = some mk → Pre A a →
    (∃ (v : Option Value) (B : Pt), Stand p l e R s m sargs below meth c B.U B.locs B.cells B.slots ∧ Post A a v B ∧
      Steps p.tables e below (doInvoke e (A.U.setTop g) [] mk a).1 (B.U.setTop { g with pc := g.pc + len, stack := v.toList ++ g.stack })) ∨
    (∃ (q : Addr) (B : Pt), Stand p l e R s m sargs below meth c B.U B.locs B.cells B.slots ∧ PostX A a q B ∧
      Steps p.tables e below (doInvoke e (A.U.setTop g) [] mk a).1 ((B.U.setTop g).pushFrame (.throwing q)))
section Payer
variable {l : Launch} {R : Room} {p : Program} {e : Env} {below : List Frame} {s : State} {sargs : Array Value} {y : MethodName} {len W9 : Nat}
theorem vx_back {ws : List Cond} {rm : Room} {Pc : Array Value → State → Prop} {Qc : Array Value → State → Outcome → State → Prop} {XC : String → State → State → Prop} {mc ms : Nat} {free : Addr → Prop} {bytes : ByteArray} {maxL : Nat} {ret : Option FieldType}
    (hM : vx_Met l y ws rm Pc Qc XC mc ms free) (hblind : FrameBlind Pc) (hrc : rm.cells = mc) (hrs : rm.slots = ms)
    (hframes : rm.frames + 1 ≤ R.frames) (hlocals : W9 + (maxL + 11) + rm.locals ≤ R.locals)
    (hws : ∀ w ∈ ws, ∀ a' U, s.WarmedH U.vm → w.before a' U = true) (hcode : Cond.code y bytes maxL ret ∈ ws) (hinit : ∀ a' U, s.WarmedH U.vm → (Cond.initialized y.cls).before a' U = true) :
    vx_Back l R p e below s sargs y len W9 (PreOf R mc ms Pc) (PostOf Qc mc ms free) (vx_Post XC mc ms free) := by
  intro m meth c A g ig mk a X hg hsize hdg hW hn hp
  have h1 : (headSpec ws rm).pre.before a A.U = true := atoms_intro fun w hw => hws w hw _ _ X.warmed
  have h2 : (Cond.code y bytes maxL ret).before a A.U = true := hws _ hcode _ _ X.warmed
  have h3 : (Cond.initialized y.cls).before a A.U = true := hinit _ _ X.warmed
  have h4 : A.cells + (headSpec ws rm).room.cells ≤ R.cells := by rw [show (headSpec ws rm).room.cells = mc from hrc]; exact hp.1
  have h5 : A.slots + (headSpec ws rm).room.slots ≤ R.slots := by rw [show (headSpec ws rm).room.slots = ms from hrs]; exact hp.2.1
  have hPc : Pc a (A.U.calling g mk a) := hblind _ _ _ _ hp.2.2
  obtain ⟨U, Ls, c0, s0⟩ := A
  dsimp only [Pt.U, Pt.locs, Pt.cells, Pt.slots] at h1 h2 h3 h4 h5 X hn hPc ⊢
  obtain ⟨methY, cY, hmY, hcY, -, hlY, -, -, -, -⟩ := Cond.code_spec hn h2
  obtain ⟨kY, hkY, -⟩ := className_of_methodNamed hn
  have hinitY : kY.init = .initialized := Cond.initialized_spec (findClass_of_methodNamed hn) hkY h3
  have h : At U g.method c below := by rw [hg]; exact X.here
  have hlocals9 : W9 + (maxL + 11) + (headSpec ws rm).room.locals ≤ R.locals := hlocals
  have happ : (headSpec ws rm).appliesLoose y e.platform (U.calling g mk a) = true :=
    Spec.appliesLoose_calling (g := g) h hdg hn hkY hinitY
      (X.room_calling (g := g) (R' := (headSpec ws rm).room) hsize hmY hcY hframes (by rw [hlY]; omega) h4 h5) h1
  obtain ⟨mid, hmid⟩ := h.above
  have hfr : (U.setTop g).frames = (.java g :: mid) ++ below := by rw [State.frames_setTop' g h.top, hmid]; rfl
  obtain ⟨o, s₂, hsteps, -, hend, hq⟩ := Steps.callFree hM p X.admits X.cas X.clock (acts := []) hfr happ hPc trivial
  have hq' : vx_Q Qc XC mc ms free a (U.calling g mk a) o s₂ := hq
  rw [State.frames_setTop' g h.top] at hend
  obtain ⟨g₀, hg0⟩ := Option.isSome_iff_exists.mp h.top
  obtain ⟨r, hr⟩ := State.topJava?_eq_some.mp hg0
  have hr' : (({ U with heap := s₂.heap, slotsUsed := s₂.slotsUsed } : State).setVm s₂.vm).frames = .java g₀ :: r := hr
  rcases hq' with ⟨hqc, L, hfe, hL⟩ | ⟨q, rfl, E, ce, L, hx, hce, hcv, hcl, hW₂, hsm, hL⟩
  · obtain ⟨⟨v, rfl⟩, hW₂, e2, q2, q3, q4, q5, q6⟩ := id hfe
    have e3 : s₂ = ({ (U.calling g mk a).setFrames s₂.frames with heap := s₂.heap, slotsUsed := s₂.slotsUsed } : State).setVm s₂.vm := by
      have : s₂ = ({ s₂ with vm := (U.calling g mk a).vm } : State).setVm s₂.vm := rfl
      rw [e2] at this
      exact this
    obtain ⟨c₂, i₂, len₂, hc₂, hd₂, hf₂⟩ := hend
    have hW' : U.WarmedH s₂.vm := hW₂
    have hcc : c₂ = c := by
      have h1 : s₂.code? g.method = U.code? g.method := by
        rw [State.code?_eq, State.code?_eq, hW'.alike.method?]
      exact Option.some.inj (hc₂.symm.trans (h1.trans h.code))
    subst hcc
    have hlen : len₂ = len := by rw [hdg] at hd₂; cases hd₂; rfl
    subst hlen
    have hs₂ : s₂ = (({ U with heap := s₂.heap, slotsUsed := s₂.slotsUsed } : State).setVm s₂.vm).setTop { g with pc := g.pc + len₂, stack := v.toList ++ g.stack } := by
      refine e3.trans ?_
      rw [hf₂, State.calling_eq h.top, State.setFrames_setFrames, State.setTop_of_frames _ hr', hr]
      rfl
    have hsame : U.sameButNew ({ U with heap := s₂.heap, slotsUsed := s₂.slotsUsed } : State) L mc ms := by
      refine ⟨?_, q2, q3, q4, q5, q6⟩
      obtain ⟨t, ht, -⟩ := State.frames_cons hr
      show ({ U with heap := s₂.heap, slotsUsed := s₂.slotsUsed } : State) = { U.setFrames U.frames with heap := s₂.heap, slotsUsed := s₂.slotsUsed }
      rw [State.setFrames_self ht]
    subst hg
    refine Or.inl ⟨v, ⟨(({ U with heap := s₂.heap, slotsUsed := s₂.slotsUsed } : State).setVm s₂.vm), Ls ++ L, c0 + mc, s0 + ms⟩,
      ⟨X.admits, X.cas, X.clock, X.frames, X.room, X.hears, X.method, X.code, (X.here.setHeapUsed s₂.heap s₂.slotsUsed).setVm hW'.alike, X.tail, State.WarmedH.trans X.warmed hW', X.limits, X.bytes, X.same.trans (hsame.setVm s.vm)⟩,
      ⟨g, mk, s₂, L, rfl, rfl, hqc, rfl, hL, rfl, rfl⟩, ?_⟩
    show Steps p.tables e below _ ((({ U with heap := s₂.heap, slotsUsed := s₂.slotsUsed } : State).setVm s₂.vm).setTop { g with pc := g.pc + len₂, stack := v.toList ++ g.stack })
    rw [← hs₂]
    exact hsteps
  · obtain ⟨e2, q2, q3, q4, q5, q6⟩ := id hsm
    have e3 : s₂ = ({ (U.calling g mk a).setFrames s₂.frames with heap := s₂.heap, slotsUsed := s₂.slotsUsed } : State).setVm s₂.vm := by
      have : s₂ = ({ s₂ with vm := (U.calling g mk a).vm } : State).setVm s₂.vm := rfl
      rw [e2] at this
      exact this
    have hf₂ : s₂.frames = .throwing q :: .java g :: U.frames.tail := hend
    have hW' : U.WarmedH s₂.vm := hW₂
    have hs₂ : s₂ = ((({ U with heap := s₂.heap, slotsUsed := s₂.slotsUsed } : State).setVm s₂.vm).setTop g).pushFrame (.throwing q) := by
      refine e3.trans ?_
      rw [hf₂, State.calling_eq h.top, State.setFrames_setFrames, State.pushFrame, State.frames_setTop _ hr', State.setTop_of_frames _ hr', State.setFrames_setFrames, hr]
      rfl
    have hsame : U.sameButNew ({ U with heap := s₂.heap, slotsUsed := s₂.slotsUsed } : State) L mc ms := by
      refine ⟨?_, q2, q3, q4, q5, q6⟩
      obtain ⟨t, ht, -⟩ := State.frames_cons hr
      show ({ U with heap := s₂.heap, slotsUsed := s₂.slotsUsed } : State) = { U.setFrames U.frames with heap := s₂.heap, slotsUsed := s₂.slotsUsed }
      rw [State.setFrames_self ht]
    subst hg
    refine Or.inr ⟨q, ⟨(({ U with heap := s₂.heap, slotsUsed := s₂.slotsUsed } : State).setVm s₂.vm), Ls ++ L, c0 + mc, s0 + ms⟩,
      ⟨X.admits, X.cas, X.clock, X.frames, X.room, X.hears, X.method, X.code, (X.here.setHeapUsed s₂.heap s₂.slotsUsed).setVm hW'.alike, X.tail, State.WarmedH.trans X.warmed hW', X.limits, X.bytes, X.same.trans (hsame.setVm s.vm)⟩,
      ⟨g, mk, s₂, L, E, ce, rfl, rfl, hx, hce, hcv, hcl, rfl, hL, rfl, rfl⟩, ?_⟩
    show Steps p.tables e below _ (((({ U with heap := s₂.heap, slotsUsed := s₂.slotsUsed } : State).setVm s₂.vm).setTop g).pushFrame (.throwing q))
    rw [← hs₂]
    exact hsteps
end Payer
section Calls
variable {p : Program} {l : Launch} {e : Env} {R : Room} {s : State} {m : MethodId} {args : Array Value} {below : List Frame} {meth : Method} {c : Code} {T : State} {locs : List Loc} {cells slots : Nat}
theorem vx_callV (X : Stand p l e R s m args below meth c T locs cells slots) (hexec : p.tables.exec = Jvm.exec) {own C : String} {index : Nat} {y : MethodName} {bytes : ByteArray} {maxL : Nat} {ret : Option FieldType}
    (hown : s.vm.findClass own = some m.cls) (hlink : (Cond.methodLink own index y).before args s = true) (hinst : (Cond.instanceMethod y).before args s = true) (hsel : (Cond.selects C y y).before args s = true)
    (hcode : (Cond.code y bytes maxL ret).before args s = true) (hy : y.cls ≠ "java/lang/invoke/MethodHandle" ∧ y.cls ≠ "java/lang/invoke/VarHandle")
    {W9 : Nat} {Pre : Pt → Array Value → Prop} {Post : Pt → Array Value → Option Value → Pt → Prop} {PostX : Pt → Array Value → Addr → Pt → Prop} (hK : vx_Back l R p e below s args y 3 W9 Pre Post PostX)
    {b : Addr} {cellB : Cell} (hcell : T.heap[b]? = some cellB) (hobj : cellB.vm.isStatics = false) (hcls : s.vm.findClass C = some cellB.cls)
    {g : JFrame} (hg : g.method = m) (hsize : g.locals.size = c.maxLocals) {argsL rest : List Value} (hlen : ∀ sig, parseMethodDescriptor y.desc = some sig → argsL.length = sig.parameters.length)
    (hstack : g.stack = argsL.reverse ++ .ref b :: rest) (hW : 2 * g.monitorRoom + (rest.map fun v => v.category).sum ≤ W9) (hdg : decode c.code g.pc = .ok (.invokevirtual index, 3))
    (hpre : ∀ vm₁, s.WarmedH vm₁ → Pre ⟨T.setVm vm₁, locs, cells, slots⟩ (Value.ref b :: argsL).toArray) :
    (∃ (v : Option Value) (vm₁ : Vm) (B : Pt), s.WarmedH vm₁ ∧ Stand p l e R s m args below meth c B.U B.locs B.cells B.slots ∧ Post ⟨T.setVm vm₁, locs, cells, slots⟩ (Value.ref b :: argsL).toArray v B ∧
      ∀ target, Steps p.tables e below (B.U.setTop { g with pc := g.pc + 3, stack := v.toList ++ rest }) target → Steps p.tables e below (T.setTop g) target) ∨
    (∃ (q : Addr) (vm₁ : Vm) (B : Pt), s.WarmedH vm₁ ∧ Stand p l e R s m args below meth c B.U B.locs B.cells B.slots ∧ PostX ⟨T.setVm vm₁, locs, cells, slots⟩ (Value.ref b :: argsL).toArray q B ∧
      Steps p.tables e below (T.setTop g) ((B.U.setTop { g with stack := rest }).pushFrame (.throwing q))) := by
  obtain ⟨mk, methM, hnamed, hmethM, hstM, habM⟩ := Cond.instanceMethod_spec hinst
  obtain ⟨methM', cM, hmethM', -, -, -, -, -, -, hsigM⟩ := Cond.code_spec hnamed hcode
  cases hmethM.symm.trans hmethM'
  obtain ⟨c2, r2, m2, q1, q2, q3, q4, kP, hkP, hkPi⟩ := Cond.selects_spec hsel
  cases hcls.symm.trans q1
  cases (State.methodFound?_of_named hnamed hy).symm.trans q2
  cases hnamed.symm.trans q3
  have hselP : selectMethod e.platform s.vm cellB.cls mk = .method mk := by rw [Launch.admits_selectMethod X.admits]; exact q4
  obtain ⟨vm₁, X₁, hstep₁⟩ := X.invokevirtual hexec hown hlink hnamed hmethM hstM hkP hkPi hy (a := b) (cell := cellB) hcell
    (fun z h => by rw [h] at hobj; cases hobj) hselP hmethM habM hkP hkPi (g := g) hg (argsL := argsL) (rest := rest) (hlen _ hsigM) hstack hdg
  rcases hK m meth c ⟨T.setVm vm₁, locs, cells, slots⟩ { g with stack := rest } (.invokevirtual index) mk (Value.ref b :: argsL).toArray X₁ hg hsize hdg hW (X₁.named hnamed) (hpre vm₁ X₁.warmed) with ⟨v, B, X', hpost, hsteps⟩ | ⟨q, B, X', hpost, hsteps⟩
  · exact Or.inl ⟨v, vm₁, B, X₁.warmed, X', hpost, fun target h => hstep₁ _ fun acts => by rw [doInvoke_state]; exact hsteps.trans h⟩
  · exact Or.inr ⟨q, vm₁, B, X₁.warmed, X', hpost, hstep₁ _ fun acts => by rw [doInvoke_state]; exact hsteps⟩
theorem vx_callS (X : Stand p l e R s m args below meth c T locs cells slots) (hexec : p.tables.exec = Jvm.exec) {own : String} {index : Nat} {y : MethodName} {bytes : ByteArray} {maxL : Nat} {ret : Option FieldType}
    (hown : s.vm.findClass own = some m.cls) (hlink : (Cond.methodLink own index y).before args s = true) (hstat : (Cond.static y).before args s = true) (hinit : (Cond.initialized y.cls).before args s = true)
    (hcode : (Cond.code y bytes maxL ret).before args s = true) (hy : y.cls ≠ "java/lang/invoke/MethodHandle" ∧ y.cls ≠ "java/lang/invoke/VarHandle")
    {W9 : Nat} {Pre : Pt → Array Value → Prop} {Post : Pt → Array Value → Option Value → Pt → Prop} {PostX : Pt → Array Value → Addr → Pt → Prop} (hK : vx_Back l R p e below s args y 3 W9 Pre Post PostX)
    {g : JFrame} (hg : g.method = m) (hsize : g.locals.size = c.maxLocals) {argsL rest : List Value} (hlen : ∀ sig, parseMethodDescriptor y.desc = some sig → argsL.length = sig.parameters.length)
    (hstack : g.stack = argsL.reverse ++ rest) (hW : 2 * g.monitorRoom + (rest.map fun v => v.category).sum ≤ W9) (hdg : decode c.code g.pc = .ok (.invokestatic index, 3))
    (hpre : ∀ vm₁, s.WarmedH vm₁ → Pre ⟨T.setVm vm₁, locs, cells, slots⟩ argsL.toArray) :
    (∃ (v : Option Value) (vm₁ : Vm) (B : Pt), s.WarmedH vm₁ ∧ Stand p l e R s m args below meth c B.U B.locs B.cells B.slots ∧ Post ⟨T.setVm vm₁, locs, cells, slots⟩ argsL.toArray v B ∧
      ∀ target, Steps p.tables e below (B.U.setTop { g with pc := g.pc + 3, stack := v.toList ++ rest }) target → Steps p.tables e below (T.setTop g) target) ∨
    (∃ (q : Addr) (vm₁ : Vm) (B : Pt), s.WarmedH vm₁ ∧ Stand p l e R s m args below meth c B.U B.locs B.cells B.slots ∧ PostX ⟨T.setVm vm₁, locs, cells, slots⟩ argsL.toArray q B ∧
      Steps p.tables e below (T.setTop g) ((B.U.setTop { g with stack := rest }).pushFrame (.throwing q))) := by
  obtain ⟨mk, hnamed⟩ := Cond.code_named hcode
  obtain ⟨methM, cM, hmethM, -, -, -, -, -, -, hsigM⟩ := Cond.code_spec hnamed hcode
  have hstatic : methM.isStatic = true := Cond.static_spec hnamed hmethM hstat
  obtain ⟨kP, hkP, -⟩ := className_of_methodNamed hnamed
  have hinitP : kP.init = .initialized := Cond.initialized_spec (findClass_of_methodNamed hnamed) hkP hinit
  obtain ⟨vm₁, X₁, hstep₁⟩ := X.invokestatic hexec hown hlink hnamed hmethM hstatic hkP hinitP hy (g := g) hg (argsL := argsL) (rest := rest) (hlen _ hsigM) hstack hdg
  rcases hK m meth c ⟨T.setVm vm₁, locs, cells, slots⟩ { g with stack := rest } (.invokestatic index) mk argsL.toArray X₁ hg hsize hdg hW (X₁.named hnamed) (hpre vm₁ X₁.warmed) with ⟨v, B, X', hpost, hsteps⟩ | ⟨q, B, X', hpost, hsteps⟩
  · exact Or.inl ⟨v, vm₁, B, X₁.warmed, X', hpost, fun target h => hstep₁ _ fun acts => by rw [doInvoke_state]; exact hsteps.trans h⟩
  · exact Or.inr ⟨q, vm₁, B, X₁.warmed, X', hpost, hstep₁ _ fun acts => by rw [doInvoke_state]; exact hsteps⟩
end Calls
theorem vx_cls {s : State} {T : State} {vm₁ : Vm} {E : String} {k : ClassId} (hW : s.WarmedH vm₁) (h : (T.setVm vm₁).vm.findClass E = some k) : s.vm.findClass E = some k := by
  have h1 : vm₁.findClass E = some k := h
  rw [hW.alike.findClass] at h1
  exact h1
/-- the method's frame g, with q thrown over it -/
def vx_W (p : Program) (l : Launch) (e : Env) (R : Room) (s : State) (m : MethodId) (args : Array Value) (below : List Frame) (meth : Method) (c : Code) (H : Heap) (locs : List Loc) (cells slots : Nat) (Q : State → Prop) (g : JFrame) (q : Addr) : Prop :=
  ∀ T : State, T.heap = H → Stand p l e R s m args below meth c T locs cells slots → ∃ t, Steps p.tables e below ((T.setTop g).pushFrame (.throwing q)) t ∧ Q t
def vx_Run (p : Program) (l : Launch) (e : Env) (R : Room) (s : State) (m : MethodId) (args : Array Value) (below : List Frame) (meth : Method) (c : Code) (H : Heap) (locs : List Loc) (cells slots mc ms : Nat) (g : JFrame) (rest : List Value) (Qa : State → Outcome → State → Prop) (XC : String → State → State → Prop) (free : Addr → Prop) : Prop :=
  ∀ T : State, T.heap = H → Stand p l e R s m args below meth c T locs cells slots →
    (∃ (v : Option Value) (st₀ t T' : State) (L : List Loc), st₀.heap = H ∧ Stand p l e R s m args below meth c T' (locs ++ L) (cells + mc) (slots + ms) ∧ (∀ q ∈ L, free q.base) ∧ T'.heap = t.heap ∧ T'.vm = t.vm ∧ Qa st₀ (.returned v) t ∧
      Goes p e below T g T' { g with pc := g.pc + 3, stack := v.toList ++ rest }) ∨
    (∃ (q : Addr) (st₀ t T' : State) (L : List Loc) (E : String) (ce : Cell), st₀.heap = H ∧ Stand p l e R s m args below meth c T' (locs ++ L) (cells + mc) (slots + ms) ∧ (∀ z ∈ L, free z.base) ∧ T'.heap = t.heap ∧ T'.vm = t.vm ∧ XC E st₀ t ∧ t.heap[q]? = some ce ∧ ce.vm = .none ∧ s.vm.findClass E = some ce.cls ∧
      Steps p.tables e below (T.setTop g) ((T'.setTop { g with stack := rest }).pushFrame (.throwing q)))
def vx_X {S : Type} (px : S → Prop) (B : String → S → State → Prop) (A : Nat → Prop) : String → State → State → Prop := fun E st t => ∃ u : S, px u ∧ B E u t ∧ va_F A st t
section Runs
variable {p : Program} {l : Launch} {e : Env} {R : Room} {s : State} {m : MethodId} {args : Array Value} {below : List Frame} {meth : Method} {c : Code} {H : Heap} {locs : List Loc} {cells slots : Nat}
variable {y : MethodName} {bytes cc : ByteArray} {maxL nL mc ms n index : Nat} {ret : Option FieldType} {ws : List Cond} {rm : Room} {Pc : Array Value → State → Prop} {Qc : Array Value → State → Outcome → State → Prop} {XC : String → State → State → Prop} {free : Addr → Prop} {Ts : List Cond} {own C : String} {b : Addr} {As rest : List Value} {g : JFrame}
theorem vx_callBack (cb : CallB R s args own index y bytes maxL ret ws rm mc ms n) (hM : vx_Met l y ws rm Pc Qc XC mc ms free) (hbl : FrameBlind Pc) : vx_Back l R p e below s args y 3 8 (PreOf R mc ms Pc) (PostOf Qc mc ms free) (vx_Post XC mc ms free) := by
  obtain ⟨hrc, hrs, hfr, hlo, hws, hcw, -, hini, -⟩ := cb
  exact vx_back (bytes := bytes) (maxL := maxL) (ret := ret) hM hbl hrc hrs hfr hlo hws hcw (fun a' U hW => word_at hW (Or.inl (by first | rfl | simp [Cond.onTables, Cond.keeps, Cond.steady])) hini)
theorem vx_runV (S : CallFix p m c cc nL s args Ts own) (hM : vx_Met l y ws rm Pc Qc XC mc ms free) (cw : CallW R s args own C index y bytes maxL ret ws rm mc ms n) (hp : PreV s H C b Pc As)
    (hg : g.method = m) (hn : As.length = n) (hsize : g.locals.size = nL) (hstack : g.stack = As.reverse ++ .ref b :: rest) (hW : 2 * g.monitorRoom + (rest.map fun v => v.category).sum ≤ 8) (hdg : decode cc g.pc = .ok (.invokevirtual index, 3)) (hf : cells + mc ≤ R.cells ∧ slots + ms ≤ R.slots) :
    vx_Run p l e R s m args below meth c H locs cells slots mc ms g rest (Qc (Value.ref b :: As).toArray) XC free := by
  have hK : vx_Back l R p e below s args y 3 8 (PreOf R mc ms Pc) (PostOf Qc mc ms free) (vx_Post XC mc ms free) := vx_callBack cw.1 hM hp.1
  obtain ⟨⟨-, -, -, -, -, -, hcode, -, hy, hlen, hl⟩, hin, hse⟩ := cw
  obtain ⟨hx, hb, hml, ho, -⟩ := S
  obtain ⟨-, ⟨cellB, hcB, hoB, hclB⟩, hPc⟩ := hp
  intro T hT X
  rcases vx_callV X hx (C := C) (bytes := bytes) (maxL := maxL) (ret := ret) ho hl hin hse hcode hy hK (by rw [hT]; exact hcB) hoB hclB hg (hsize.trans hml.symm) (argsL := As) (rest := rest) (fun sig h => hn.trans (hlen sig h)) hstack hW (by rw [hb]; exact hdg)
    (fun vm₁ hW₁ => ⟨hf.1, hf.2, hPc (T.setVm vm₁) hT hW₁⟩) with ⟨v, vm₁, ⟨U', l2, c2, s2⟩, hW₁, X', ⟨g', mk, t, L, e1, e2, hq, h1, hL, h2, h3⟩, st⟩ | ⟨q, vm₁, ⟨U', l2, c2, s2⟩, hW₁, X', ⟨g', mk, t, L, E, ce, e1, e2, hq, hce, hcv, hcl, h1, hL, h2, h3⟩, st⟩
  · dsimp only [Pt.U, Pt.locs, Pt.cells, Pt.slots] at X' e1 e2 h1 h2 h3 st
    subst h1; subst h2; subst h3
    exact Or.inl ⟨v, (T.setVm vm₁).calling g' mk (Value.ref b :: As).toArray, t, U', L, hT, X', hL, e1, e2, hq, st⟩
  · dsimp only [Pt.U, Pt.locs, Pt.cells, Pt.slots] at X' e1 e2 h1 h2 h3 st hcl
    subst h1; subst h2; subst h3
    exact Or.inr ⟨q, (T.setVm vm₁).calling g' mk (Value.ref b :: As).toArray, t, U', L, E, ce, hT, X', hL, e1, e2, hq, hce, hcv, vx_cls hW₁ hcl, st⟩
theorem vx_runS (S : CallFix p m c cc nL s args Ts own) (hM : vx_Met l y ws rm Pc Qc XC mc ms free) (cw : CallB R s args own index y bytes maxL ret ws rm mc ms n ∧ (Cond.static y).before args s = true) (hp : PreS s H Pc As)
    (hg : g.method = m) (hn : As.length = n) (hsize : g.locals.size = nL) (hstack : g.stack = As.reverse ++ rest) (hW : 2 * g.monitorRoom + (rest.map fun v => v.category).sum ≤ 8) (hdg : decode cc g.pc = .ok (.invokestatic index, 3)) (hf : cells + mc ≤ R.cells ∧ slots + ms ≤ R.slots) :
    vx_Run p l e R s m args below meth c H locs cells slots mc ms g rest (Qc As.toArray) XC free := by
  have hK : vx_Back l R p e below s args y 3 8 (PreOf R mc ms Pc) (PostOf Qc mc ms free) (vx_Post XC mc ms free) := vx_callBack cw.1 hM hp.1
  obtain ⟨⟨-, -, -, -, -, -, hcode, hini, hy, hlen, hl⟩, hstt⟩ := cw
  obtain ⟨hx, hb, hml, ho, -⟩ := S
  intro T hT X
  rcases vx_callS X hx (bytes := bytes) (maxL := maxL) (ret := ret) ho hl hstt hini hcode hy hK hg (hsize.trans hml.symm) (argsL := As) (rest := rest) (fun sig h => hn.trans (hlen sig h)) hstack hW (by rw [hb]; exact hdg)
    (fun vm₁ hW₁ => ⟨hf.1, hf.2, hp.2 (T.setVm vm₁) hT hW₁⟩) with ⟨v, vm₁, ⟨U', l2, c2, s2⟩, hW₁, X', ⟨g', mk, t, L, e1, e2, hq, h1, hL, h2, h3⟩, st⟩ | ⟨q, vm₁, ⟨U', l2, c2, s2⟩, hW₁, X', ⟨g', mk, t, L, E, ce, e1, e2, hq, hce, hcv, hcl, h1, hL, h2, h3⟩, st⟩
  · dsimp only [Pt.U, Pt.locs, Pt.cells, Pt.slots] at X' e1 e2 h1 h2 h3 st
    subst h1; subst h2; subst h3
    exact Or.inl ⟨v, (T.setVm vm₁).calling g' mk As.toArray, t, U', L, hT, X', hL, e1, e2, hq, st⟩
  · dsimp only [Pt.U, Pt.locs, Pt.cells, Pt.slots] at X' e1 e2 h1 h2 h3 st hcl
    subst h1; subst h2; subst h3
    exact Or.inr ⟨q, (T.setVm vm₁).calling g' mk As.toArray, t, U', L, E, ce, hT, X', hL, e1, e2, hq, hce, hcv, vx_cls hW₁ hcl, st⟩
end Runs
section Rows
variable {p : Program} {l : Launch} {e : Env} {R : Room} {s : State} {m : MethodId} {args : Array Value} {below : List Frame} {meth : Method} {c : Code} {H : Heap} {locs : List Loc} {cells slots : Nat} {Q : State → Prop}
variable {mc ms : Nat} {free : Addr → Prop} {A0 A1 : Nat → Prop} {H0 : Heap} {a : Array Value} {pc : Nat} {ls : Array Slot} {st0 rest : List Value}
theorem vx_keep {st₀ t T' : State} {L : List Loc} (h0 : st₀.heap = H) (e1 : T'.heap = t.heap) (hS : va_S A0 H0 H locs) (hA : ∀ q, q < H.size → A1 q → A0 q) (hf : ∀ q, free q → A0 q) (hL : ∀ q ∈ L, free q.base) (hF : va_F A1 st₀ t) :
    H.size ≤ T'.heap.size ∧ (∀ q : Nat, q < H.size → ¬ A1 q → T'.heap[q]? = H[q]?) ∧ va_S A0 H0 T'.heap (locs ++ L) := by
  obtain ⟨hz, hk⟩ := hF
  rw [h0] at hz hk
  exact ⟨by rw [e1]; exact hz, fun q h1 h2 => by rw [e1]; exact hk q h1 h2,
    ⟨Nat.le_trans hS.1 (by rw [e1]; exact hz), fun q h1 h2 => by rw [e1, hk q (Nat.lt_of_lt_of_le h1 hS.1) (fun z => h2 (hA q (Nat.lt_of_lt_of_le h1 hS.1) z))]; exact hS.2.1 q h1 h2, fun q hq => by
      rcases List.mem_append.mp hq with h | h
      · exact hS.2.2 q h
      · exact hf _ (hL q h)⟩⟩
theorem vx_calli {S SX : Type} {post : Int32 → S → Prop} {px : SX → Prop} {B : S → State → Prop} {BX : String → SX → State → Prop} {AX : Nat → Prop} (hr : vx_Run p l e R s m args below meth c H locs cells slots mc ms (F0 m pc ls st0) rest (va_Qi post B A1 a) (vx_X px BX AX) free) (hS : va_S A0 H0 H locs) (hA : ∀ q, q < H.size → A1 q → A0 q) (hf : ∀ q, free q → A0 q) (hAX : ∀ q, q < H.size → AX q → A0 q)
    (kx : ∀ (E : String) (ce : Cell) (q9 : Addr) (u : SX) (t : State) (H1 : Heap) (locs1 : List Loc), t.heap = H1 → s.vm.Alike t.vm → px u → BX E u t → H.size ≤ H1.size → (∀ q : Nat, q < H.size → ¬ AX q → H1[q]? = H[q]?) → va_S A0 H0 H1 locs1 → H1[q9]? = some ce → ce.vm = .none → s.vm.findClass E = some ce.cls → vx_W p l e R s m args below meth c H1 locs1 (cells + mc) (slots + ms) Q (F0 m pc ls rest) q9)
    (kk : ∀ (r : Int32) (u : S) (t : State) (H1 : Heap) (locs1 : List Loc), t.heap = H1 → s.vm.Alike t.vm → post r u → B u t → H.size ≤ H1.size → (∀ q : Nat, q < H.size → ¬ A1 q → H1[q]? = H[q]?) → va_S A0 H0 H1 locs1 → W p l e R s m args below meth c H1 locs1 (cells + mc) (slots + ms) Q (F0 m (pc + 3) ls (.int r :: rest))) : W p l e R s m args below meth c H locs cells slots Q (F0 m pc ls st0) := by
  intro T hT X
  rcases hr T hT X with ⟨v, st₀, t, T', L, h0, X', hL, e1, e2, ⟨⟨r, u, hv, hp, hb⟩, hF⟩, st⟩ | ⟨q, st₀, t, T', L, E, ce, h0, X', hL, e1, e2, ⟨u, hp, hb, hF⟩, hce, hcv, hcl, st⟩
  · cases hv
    obtain ⟨k1, k2, k3⟩ := vx_keep h0 e1 hS hA hf hL hF
    obtain ⟨t2, a1, b1⟩ := kk r u t T'.heap (locs ++ L) e1.symm (by rw [← e2]; exact X'.warmed.alike) hp hb k1 k2 k3 T' rfl X'
    exact ⟨t2, st t2 a1, b1⟩
  · obtain ⟨k1, k2, k3⟩ := vx_keep h0 e1 hS hAX hf hL hF
    obtain ⟨t2, a1, b1⟩ := kx E ce q u t T'.heap (locs ++ L) e1.symm (by rw [← e2]; exact X'.warmed.alike) hp hb k1 k2 k3 (by rw [e1]; exact hce) hcv hcl T' rfl X'
    exact ⟨t2, st.trans a1, b1⟩
theorem vx_calll {S SX : Type} {post : Int64 → S → Prop} {px : SX → Prop} {B : S → State → Prop} {BX : String → SX → State → Prop} {AX : Nat → Prop} (hr : vx_Run p l e R s m args below meth c H locs cells slots mc ms (F0 m pc ls st0) rest (va_Ql post B A1 a) (vx_X px BX AX) free) (hS : va_S A0 H0 H locs) (hA : ∀ q, q < H.size → A1 q → A0 q) (hf : ∀ q, free q → A0 q) (hAX : ∀ q, q < H.size → AX q → A0 q)
    (kx : ∀ (E : String) (ce : Cell) (q9 : Addr) (u : SX) (t : State) (H1 : Heap) (locs1 : List Loc), t.heap = H1 → s.vm.Alike t.vm → px u → BX E u t → H.size ≤ H1.size → (∀ q : Nat, q < H.size → ¬ AX q → H1[q]? = H[q]?) → va_S A0 H0 H1 locs1 → H1[q9]? = some ce → ce.vm = .none → s.vm.findClass E = some ce.cls → vx_W p l e R s m args below meth c H1 locs1 (cells + mc) (slots + ms) Q (F0 m pc ls rest) q9)
    (kk : ∀ (r : Int64) (u : S) (t : State) (H1 : Heap) (locs1 : List Loc), t.heap = H1 → s.vm.Alike t.vm → post r u → B u t → H.size ≤ H1.size → (∀ q : Nat, q < H.size → ¬ A1 q → H1[q]? = H[q]?) → va_S A0 H0 H1 locs1 → W p l e R s m args below meth c H1 locs1 (cells + mc) (slots + ms) Q (F0 m (pc + 3) ls (.long r :: rest))) : W p l e R s m args below meth c H locs cells slots Q (F0 m pc ls st0) := by
  intro T hT X
  rcases hr T hT X with ⟨v, st₀, t, T', L, h0, X', hL, e1, e2, ⟨⟨r, u, hv, hp, hb⟩, hF⟩, st⟩ | ⟨q, st₀, t, T', L, E, ce, h0, X', hL, e1, e2, ⟨u, hp, hb, hF⟩, hce, hcv, hcl, st⟩
  · cases hv
    obtain ⟨k1, k2, k3⟩ := vx_keep h0 e1 hS hA hf hL hF
    obtain ⟨t2, a1, b1⟩ := kk r u t T'.heap (locs ++ L) e1.symm (by rw [← e2]; exact X'.warmed.alike) hp hb k1 k2 k3 T' rfl X'
    exact ⟨t2, st t2 a1, b1⟩
  · obtain ⟨k1, k2, k3⟩ := vx_keep h0 e1 hS hAX hf hL hF
    obtain ⟨t2, a1, b1⟩ := kx E ce q u t T'.heap (locs ++ L) e1.symm (by rw [← e2]; exact X'.warmed.alike) hp hb k1 k2 k3 (by rw [e1]; exact hce) hcv hcl T' rfl X'
    exact ⟨t2, st.trans a1, b1⟩
theorem vx_callf {S SX : Type} {post : UInt32 → S → Prop} {px : SX → Prop} {B : S → State → Prop} {BX : String → SX → State → Prop} {AX : Nat → Prop} (hr : vx_Run p l e R s m args below meth c H locs cells slots mc ms (F0 m pc ls st0) rest (va_Qf post B A1 a) (vx_X px BX AX) free) (hS : va_S A0 H0 H locs) (hA : ∀ q, q < H.size → A1 q → A0 q) (hf : ∀ q, free q → A0 q) (hAX : ∀ q, q < H.size → AX q → A0 q)
    (kx : ∀ (E : String) (ce : Cell) (q9 : Addr) (u : SX) (t : State) (H1 : Heap) (locs1 : List Loc), t.heap = H1 → s.vm.Alike t.vm → px u → BX E u t → H.size ≤ H1.size → (∀ q : Nat, q < H.size → ¬ AX q → H1[q]? = H[q]?) → va_S A0 H0 H1 locs1 → H1[q9]? = some ce → ce.vm = .none → s.vm.findClass E = some ce.cls → vx_W p l e R s m args below meth c H1 locs1 (cells + mc) (slots + ms) Q (F0 m pc ls rest) q9)
    (kk : ∀ (r : UInt32) (u : S) (t : State) (H1 : Heap) (locs1 : List Loc), t.heap = H1 → s.vm.Alike t.vm → post r u → B u t → H.size ≤ H1.size → (∀ q : Nat, q < H.size → ¬ A1 q → H1[q]? = H[q]?) → va_S A0 H0 H1 locs1 → W p l e R s m args below meth c H1 locs1 (cells + mc) (slots + ms) Q (F0 m (pc + 3) ls (.float r :: rest))) : W p l e R s m args below meth c H locs cells slots Q (F0 m pc ls st0) := by
  intro T hT X
  rcases hr T hT X with ⟨v, st₀, t, T', L, h0, X', hL, e1, e2, ⟨⟨r, u, hv, hp, hb⟩, hF⟩, st⟩ | ⟨q, st₀, t, T', L, E, ce, h0, X', hL, e1, e2, ⟨u, hp, hb, hF⟩, hce, hcv, hcl, st⟩
  · cases hv
    obtain ⟨k1, k2, k3⟩ := vx_keep h0 e1 hS hA hf hL hF
    obtain ⟨t2, a1, b1⟩ := kk r u t T'.heap (locs ++ L) e1.symm (by rw [← e2]; exact X'.warmed.alike) hp hb k1 k2 k3 T' rfl X'
    exact ⟨t2, st t2 a1, b1⟩
  · obtain ⟨k1, k2, k3⟩ := vx_keep h0 e1 hS hAX hf hL hF
    obtain ⟨t2, a1, b1⟩ := kx E ce q u t T'.heap (locs ++ L) e1.symm (by rw [← e2]; exact X'.warmed.alike) hp hb k1 k2 k3 (by rw [e1]; exact hce) hcv hcl T' rfl X'
    exact ⟨t2, st.trans a1, b1⟩
theorem vx_calld {S SX : Type} {post : UInt64 → S → Prop} {px : SX → Prop} {B : S → State → Prop} {BX : String → SX → State → Prop} {AX : Nat → Prop} (hr : vx_Run p l e R s m args below meth c H locs cells slots mc ms (F0 m pc ls st0) rest (va_Qd post B A1 a) (vx_X px BX AX) free) (hS : va_S A0 H0 H locs) (hA : ∀ q, q < H.size → A1 q → A0 q) (hf : ∀ q, free q → A0 q) (hAX : ∀ q, q < H.size → AX q → A0 q)
    (kx : ∀ (E : String) (ce : Cell) (q9 : Addr) (u : SX) (t : State) (H1 : Heap) (locs1 : List Loc), t.heap = H1 → s.vm.Alike t.vm → px u → BX E u t → H.size ≤ H1.size → (∀ q : Nat, q < H.size → ¬ AX q → H1[q]? = H[q]?) → va_S A0 H0 H1 locs1 → H1[q9]? = some ce → ce.vm = .none → s.vm.findClass E = some ce.cls → vx_W p l e R s m args below meth c H1 locs1 (cells + mc) (slots + ms) Q (F0 m pc ls rest) q9)
    (kk : ∀ (r : UInt64) (u : S) (t : State) (H1 : Heap) (locs1 : List Loc), t.heap = H1 → s.vm.Alike t.vm → post r u → B u t → H.size ≤ H1.size → (∀ q : Nat, q < H.size → ¬ A1 q → H1[q]? = H[q]?) → va_S A0 H0 H1 locs1 → W p l e R s m args below meth c H1 locs1 (cells + mc) (slots + ms) Q (F0 m (pc + 3) ls (.double r :: rest))) : W p l e R s m args below meth c H locs cells slots Q (F0 m pc ls st0) := by
  intro T hT X
  rcases hr T hT X with ⟨v, st₀, t, T', L, h0, X', hL, e1, e2, ⟨⟨r, u, hv, hp, hb⟩, hF⟩, st⟩ | ⟨q, st₀, t, T', L, E, ce, h0, X', hL, e1, e2, ⟨u, hp, hb, hF⟩, hce, hcv, hcl, st⟩
  · cases hv
    obtain ⟨k1, k2, k3⟩ := vx_keep h0 e1 hS hA hf hL hF
    obtain ⟨t2, a1, b1⟩ := kk r u t T'.heap (locs ++ L) e1.symm (by rw [← e2]; exact X'.warmed.alike) hp hb k1 k2 k3 T' rfl X'
    exact ⟨t2, st t2 a1, b1⟩
  · obtain ⟨k1, k2, k3⟩ := vx_keep h0 e1 hS hAX hf hL hF
    obtain ⟨t2, a1, b1⟩ := kx E ce q u t T'.heap (locs ++ L) e1.symm (by rw [← e2]; exact X'.warmed.alike) hp hb k1 k2 k3 (by rw [e1]; exact hce) hcv hcl T' rfl X'
    exact ⟨t2, st.trans a1, b1⟩
theorem vx_callv {S SX : Type} {post : S → Prop} {px : SX → Prop} {B : S → State → Prop} {BX : String → SX → State → Prop} {AX : Nat → Prop} (hr : vx_Run p l e R s m args below meth c H locs cells slots mc ms (F0 m pc ls st0) rest (va_Qv post B A1 a) (vx_X px BX AX) free) (hS : va_S A0 H0 H locs) (hA : ∀ q, q < H.size → A1 q → A0 q) (hf : ∀ q, free q → A0 q) (hAX : ∀ q, q < H.size → AX q → A0 q)
    (kx : ∀ (E : String) (ce : Cell) (q9 : Addr) (u : SX) (t : State) (H1 : Heap) (locs1 : List Loc), t.heap = H1 → s.vm.Alike t.vm → px u → BX E u t → H.size ≤ H1.size → (∀ q : Nat, q < H.size → ¬ AX q → H1[q]? = H[q]?) → va_S A0 H0 H1 locs1 → H1[q9]? = some ce → ce.vm = .none → s.vm.findClass E = some ce.cls → vx_W p l e R s m args below meth c H1 locs1 (cells + mc) (slots + ms) Q (F0 m pc ls rest) q9)
    (kk : ∀ (u : S) (t : State) (H1 : Heap) (locs1 : List Loc), t.heap = H1 → s.vm.Alike t.vm → post u → B u t → H.size ≤ H1.size → (∀ q : Nat, q < H.size → ¬ A1 q → H1[q]? = H[q]?) → va_S A0 H0 H1 locs1 → W p l e R s m args below meth c H1 locs1 (cells + mc) (slots + ms) Q (F0 m (pc + 3) ls (rest))) : W p l e R s m args below meth c H locs cells slots Q (F0 m pc ls st0) := by
  intro T hT X
  rcases hr T hT X with ⟨v, st₀, t, T', L, h0, X', hL, e1, e2, ⟨⟨u, hv, hp, hb⟩, hF⟩, st⟩ | ⟨q, st₀, t, T', L, E, ce, h0, X', hL, e1, e2, ⟨u, hp, hb, hF⟩, hce, hcv, hcl, st⟩
  · cases hv
    obtain ⟨k1, k2, k3⟩ := vx_keep h0 e1 hS hA hf hL hF
    obtain ⟨t2, a1, b1⟩ := kk u t T'.heap (locs ++ L) e1.symm (by rw [← e2]; exact X'.warmed.alike) hp hb k1 k2 k3 T' rfl X'
    exact ⟨t2, st t2 a1, b1⟩
  · obtain ⟨k1, k2, k3⟩ := vx_keep h0 e1 hS hAX hf hL hF
    obtain ⟨t2, a1, b1⟩ := kx E ce q u t T'.heap (locs ++ L) e1.symm (by rw [← e2]; exact X'.warmed.alike) hp hb k1 k2 k3 (by rw [e1]; exact hce) hcv hcl T' rfl X'
    exact ⟨t2, st.trans a1, b1⟩
/-- caught by the row x of this method's table; the rows ahead don't take it -/
theorem vx_catch {own name : String} {E : String} {ce : Cell} {q : Addr} (hown : s.vm.findClass own = some m.cls) (pre : List ExceptionTableEntry) (x : ExceptionTableEntry) (suf : List ExceptionTableEntry) (hsplit : c.exceptionTable.toList = pre ++ x :: suf)
    (hpass : ∀ z ∈ pre, covers z pc = false ∨ (z.catchType ≠ 0 ∧ ∃ nm : String, (Cond.classLink own z.catchType nm).before args s = true ∧ va_Nc E nm s)) (hx : covers x pc = true) (h0 : x.catchType ≠ 0)
    (hlink : (Cond.classLink own x.catchType name).before args s = true) (hcast : (Cond.castable E name).before args s = true) (hcell : H[q]? = some ce) (hv : ce.vm = .none) (hcl : s.vm.findClass E = some ce.cls)
    (kk : W p l e R s m args below meth c H locs cells slots Q (F0 m x.handlerPc ls [.ref q])) : vx_W p l e R s m args below meth c H locs cells slots Q (F0 m pc ls rest) q := by
  intro T hT X
  have hpl : e.platform.magicAccessors = ({} : Platform).magicAccessors := by rw [X.admits.platform]
  obtain ⟨c3, c4, hc3, hc4, hasg⟩ := Cond.castable_spec hcast
  cases Option.some.inj (hc3.symm.trans hcl)
  obtain ⟨c5, hc5, hcl5⟩ := Cond.classLink_spec hown hlink e.platform hpl
  cases Option.some.inj (hc4.symm.trans hc5)
  obtain ⟨vm', X', st⟩ := X.thenCaughtThrough q (g := F0 m pc ls rest) rfl (Steps.refl _) (by rw [hT]; exact hcell) (by rw [hv]; rfl) (by obtain ⟨k9, h9, -⟩ := Vm.findClass_spec hcl; exact ⟨k9, h9⟩) pre x suf hsplit
    (fun z hz => by
      rcases hpass z hz with h | ⟨hz0, nm, hl1, hn1⟩
      · exact Or.inl h
      · obtain ⟨c6, hc6, hcl6⟩ := Cond.classLink_spec hown hl1 e.platform hpl
        obtain ⟨a8, b8, h1, h2, h3⟩ := hn1
        cases Option.some.inj (h1.symm.trans hcl)
        cases Option.some.inj (h2.symm.trans hc6)
        exact Or.inr ⟨hz0, _, hcl6, h3⟩) hx (Or.inr ⟨h0, c4, hcl5, hasg⟩)
  obtain ⟨t, a1, b1⟩ := kk (T.setVm vm') hT X'
  exact ⟨t, st.trans a1, b1⟩
end Rows
section Ends
variable {p : Program} {l : Launch} {e : Env} {R : Room} {s : State} {m : MethodId} {args : Array Value} {below : List Frame} {meth : Method} {c : Code} {H : Heap} {locs : List Loc} {cells slots : Nat} {Q : State → Prop}
variable {mc ms : Nat} {free : Addr → Prop} {A0 A1 : Nat → Prop} {H0 : Heap} {a : Array Value} {ls : Array Slot} {st0 rest : List Value}
variable {Qc : Array Value → State → Outcome → State → Prop} {XC : String → State → State → Prop}
/-- what a body that may throw owes at its end -/
def vx_MQ (below : List Frame) (Qc : Array Value → State → Outcome → State → Prop) (XC : String → State → State → Prop) (a : Array Value) (s : State) (mc ms : Nat) (free : Addr → Prop) : State → Prop := fun t =>
  ∃ o, t.status = .running ∧ Ended t below o ∧ vx_Q Qc XC mc ms free a s o t
theorem vx_ret {g : JFrame} {mc ms : Nat} (k : W p l e R s m args below meth c H locs cells slots (MQ below Qc args s mc ms free) g) : W p l e R s m args below meth c H locs cells slots (vx_MQ below Qc XC args s mc ms free) g := by
  intro T hT X
  obtain ⟨t, a1, o, b1, b2, b3, b4⟩ := k T hT X
  exact ⟨t, a1, o, b1, b2, Or.inl ⟨b3, b4⟩⟩
/-- not caught here: it goes on to the caller -/
theorem vx_widen {g : JFrame} {q : Addr} {k n : Nat} (h1 : cells ≤ k) (h2 : slots ≤ n) (kk : vx_W p l e R s m args below meth c H locs k n Q g q) : vx_W p l e R s m args below meth c H locs cells slots Q g q := fun T hT X => kk T hT (stand_widen X h1 h2)
theorem vx_out {pc : Nat} {E : String} {ce : Cell} {q : Addr} {mc ms : Nat} (hout : ∀ x ∈ c.exceptionTable.toList, covers x pc = false) (hlocks : meth.locks = false) (hcell : H[q]? = some ce) (hv : ce.vm = .none) (hcl : s.vm.findClass E = some ce.cls)
    (hx : ∀ t : State, t.heap = H → s.vm.Alike t.vm → XC E s t) (hf : ∀ z ∈ locs, free z.base) (hc : cells ≤ mc) (hs : slots ≤ ms) :
    vx_W p l e R s m args below meth c H locs cells slots (vx_MQ below Qc XC args s mc ms free) (F0 m pc ls rest) q := by
  intro T hT X
  obtain ⟨st1, hrun, hend, hW, hsm⟩ := X.leaveThrown q (g := F0 m pc ls rest) rfl rfl rfl hout hlocks
  have hcell9 : (T.setFrames (.throwing q :: below)).heap[q]? = some ce := by
    show T.heap[q]? = some ce
    rw [hT]; exact hcell
  exact ⟨_, st1, .threw q, hrun, hend, Or.inr ⟨q, rfl, E, ce, locs, hx _ hT hW.alike, hcell9, hv, hcl, hW, hsm.mono hc hs, hf⟩⟩
theorem vx_frame {U : State} {k n : Nat} (h : s.sameButNew ({ U with vm := s.vm } : State) locs k n) : s.heap.size ≤ U.heap.size ∧ ∀ q : Nat, q < s.heap.size → (∀ z ∈ locs, z.base ≠ q) → U.heap[q]? = s.heap[q]? := by
  obtain ⟨-, h2, -, -, -, h6⟩ := h
  refine ⟨h2, fun q hq hz => ?_⟩
  obtain ⟨c9, e1, e2, e3, e4⟩ := h6 q _ (Array.getElem?_eq_getElem hq)
  have hs : c9.slots = (s.heap[q]).slots := Array.ext_getElem? fun i => e4 i fun hm => hz _ hm rfl
  have h9 : c9 = s.heap[q] := by
    rw [hs] at e2
    exact e2
  have e5 : U.heap[q]? = some c9 := e1
  rw [e5, h9, Array.getElem?_eq_getElem hq]
/-- the words of a throw but the four that speak of the heap -/
def vx_no (w : Cond) : Bool := decide (w ≠ .isRef (.static Bundle.tN "UNASSIGNED_STACK" Bundle.steD)) && decide (w ≠ .isRef (.static Bundle.tN "SUPPRESSED_SENTINEL" Bundle.listD)) && decide (w ≠ .laysStatic Bundle.tN "UNASSIGNED_STACK" Bundle.steD) && decide (w ≠ .laysStatic Bundle.tN "SUPPRESSED_SENTINEL" Bundle.listD)
def vx_at0 (own : String) (ic : Nat) (X : String) (names : List String) : List Cond := (Bundle.ownAtoms0 own ic X names).filter vx_no
def vx_atS (own : String) (ic : Nat) (X : String) (names : List String) : List Cond := (Bundle.ownAtoms own ic X names).filter vx_no
/-- a word that the tables alone decide, or a good one -/
def vx_ot (w : Cond) : Bool := w.onTables || goodWord w
theorem vx_ot_at {args a' : Array Value} {s U : State} {w : Cond} (hW : s.WarmedH U.vm) (hvm : s.vm = U.vm) (hg : vx_ot w = true) (h : w.before args s = true) : w.before a' U = true := by
  simp only [vx_ot, Bool.or_eq_true] at hg
  rcases hg with hg | hg
  · exact va_tabs hg hvm h
  · exact word_at hW (good_of_word hg) h
/-- a list's words: the good ones out of the method's own list, the others by premises of their own -/
theorem vx_hat {args : Array Value} {s : State} {L B : List Cond} (h1 : ∀ w ∈ L.filter goodWord, w.before args s = true) (h2 : ∀ w ∈ L.filter (fun w => !goodWord w), w ∈ B) (h3 : ∀ w ∈ B, w.before args s = true) : ∀ w ∈ L, w.before args s = true := by
  intro w hw
  by_cases g : goodWord w = true
  · exact h1 w (List.mem_filter.mpr ⟨hw, g⟩)
  · refine h3 w (h2 w (List.mem_filter.mpr ⟨hw, ?_⟩))
    show (!goodWord w) = true
    cases hgw : goodWord w
    · rfl
    · exact absurd hgw g
theorem vx_c {args : Array Value} {s : State} {w : Cond} {B : List Cond} (h : w.before args s = true) (t : ∀ w ∈ B, w.before args s = true) : ∀ w' ∈ w :: B, w'.before args s = true := fun w' h' => (List.mem_cons.mp h').elim (fun e => by rw [e]; exact h) (t w')
theorem vx_n {args : Array Value} {s : State} : ∀ w ∈ ([] : List Cond), w.before args s = true := fun _ h => nomatch h
theorem vx_own {args : Array Value} {s : State} {L : List Cond} (h1 : ∀ w ∈ L.filter vx_no, w.before args s = true)
    (hU : (Cond.isRef (.static Bundle.tN "UNASSIGNED_STACK" Bundle.steD)).before args s = true) (hN : (Cond.isRef (.static Bundle.tN "SUPPRESSED_SENTINEL" Bundle.listD)).before args s = true)
    (lU : (Cond.laysStatic Bundle.tN "UNASSIGNED_STACK" Bundle.steD).before args s = true) (lN : (Cond.laysStatic Bundle.tN "SUPPRESSED_SENTINEL" Bundle.listD).before args s = true) : ∀ w ∈ L, w.before args s = true := by
  intro w hw
  by_cases e1 : w = .isRef (.static Bundle.tN "UNASSIGNED_STACK" Bundle.steD)
  · rw [e1]; exact hU
  · by_cases e2 : w = .isRef (.static Bundle.tN "SUPPRESSED_SENTINEL" Bundle.listD)
    · rw [e2]; exact hN
    · by_cases e3 : w = .laysStatic Bundle.tN "UNASSIGNED_STACK" Bundle.steD
      · rw [e3]; exact lU
      · by_cases e4 : w = .laysStatic Bundle.tN "SUPPRESSED_SENTINEL" Bundle.listD
        · rw [e4]; exact lN
        · exact h1 w (List.mem_filter.mpr ⟨hw, by unfold vx_no; rw [decide_eq_true e1, decide_eq_true e2, decide_eq_true e3, decide_eq_true e4]; rfl⟩)
/-- where a static field lies, its class's statics cell in H -/
def vx_L (C n d : String) (A : Nat → Prop) (U : State) (H : Heap) : Prop := ∃ (c : ClassId) (k : Class) (i : Nat) (f : Field) (a : Nat) (cell : Cell), U.vm.findClass C = some c ∧ U.fieldFound? C n d = some (c, k, i, f) ∧ f.isStatic = true ∧ k.statics = some a ∧ H[a]? = some cell ∧ cell.vm.isStatics = true ∧ cell.cls = c ∧ f.slot < cell.slots.size ∧ k.staticTypes[f.slot]? = some f.type ∧ ¬ A a
theorem vx_L.moved {C n d : String} {A : Nat → Prop} {u U : State} {H : Heap} (hvm : u.vm.Alike U.vm) (h : vx_L C n d A u H) : vx_L C n d A U H := by
  obtain ⟨c, k, i, f, a, cell, h1, h2, h3, h4, h5, h6, h7, h8, h9, h10⟩ := h
  obtain ⟨k', hi', he⟩ := State.fieldFound?_setVm hvm h2
  exact ⟨c, k', i, f, a, cell, by rw [hvm.findClass]; exact h1, hi', h3, by rw [he]; exact h4, h5, h6, h7, h8, by rw [he]; exact h9, h10⟩
theorem vx_L.kept {C n d : String} {A : Nat → Prop} {U : State} {H H1 : Heap} (h : vx_L C n d A U H) (hq : ∀ a : Nat, a < H.size → ¬ A a → H1[a]? = H[a]?) : vx_L C n d A U H1 := by
  obtain ⟨c, k, i, f, a, cell, h1, h2, h3, h4, h5, h6, h7, h8, h9, h10⟩ := h
  exact ⟨c, k, i, f, a, cell, h1, h2, h3, h4, by rw [hq a (Array.getElem?_eq_some_iff.mp h5).1 h10]; exact h5, h6, h7, h8, h9, h10⟩
theorem vx_L.narrow {C n d : String} {A B : Nat → Prop} {U : State} {H : Heap} (h : vx_L C n d A U H) (hAB : ∀ q, B q → A q) : vx_L C n d B U H := by
  obtain ⟨c, k, i, f, a, cell, h1, h2, h3, h4, h5, h6, h7, h8, h9, h10⟩ := h
  exact ⟨c, k, i, f, a, cell, h1, h2, h3, h4, h5, h6, h7, h8, h9, fun z => h10 (hAB _ z)⟩
theorem vx_L.word {C n d : String} {A : Nat → Prop} {s : State} {args : Array Value} (h : vx_L C n d A s s.heap) : (Cond.laysStatic C n d).before args s = true := by
  obtain ⟨c, k, i, f, a, cell, h1, h2, h3, h4, h5, h6, h7, h8, h9, -⟩ := h
  show (Cond.laysStatic C n d).holds args s none s [] = true
  exact Cond.laysStatic_of h1 h2 h3 h4 h5 h6 h7 h8 h9
/-- .. and what it holds: null or some reference -/
def vx_Zq (C n d : String) (A : Nat → Prop) (U : State) (H : Heap) : Prop := va_Zq C n d A U H ∧ vx_L C n d A U H
theorem vx_Zq.moved {C n d : String} {A : Nat → Prop} {u U : State} {H : Heap} (hvm : u.vm.Alike U.vm) (h : vx_Zq C n d A u H) : vx_Zq C n d A U H := ⟨va_Zq.moved hvm h.1, vx_L.moved hvm h.2⟩
theorem vx_Zq.kept {C n d : String} {A : Nat → Prop} {U : State} {H H1 : Heap} (h : vx_Zq C n d A U H) (hq : ∀ a : Nat, a < H.size → ¬ A a → H1[a]? = H[a]?) : vx_Zq C n d A U H1 := ⟨va_Zq.kept h.1 hq, vx_L.kept h.2 hq⟩
theorem vx_Zq.narrow {C n d : String} {A B : Nat → Prop} {U : State} {H : Heap} (h : vx_Zq C n d A U H) (hAB : ∀ q, B q → A q) : vx_Zq C n d B U H := ⟨va_Zq.narrow h.1 hAB, vx_L.narrow h.2 hAB⟩
theorem vx_Zqof {args : Array Value} {s : State} {C n d : String} {A : Nat → Prop} (hl : (Cond.laysStatic C n d).before args s = true) (hini : (Cond.initialized C).before args s = true) (h : (Cond.isRef (.static C n d)).before args s = true) (hA : ∀ a : Nat, a < s.heap.size → ¬ A a) : vx_Zq C n d A s s.heap := by
  refine ⟨va_Zqof hl hini h hA, ?_⟩
  obtain ⟨c, k, i, f, a, cell, h1, h2, h3, h4, h5, h6, h7, h8, h9⟩ := Cond.laysStatic_spec hl
  exact ⟨c, k, i, f, a, cell, h1, h2, h3, h4, h5, h6, h7, h8, h9, hA a (Array.getElem?_eq_some_iff.mp h5).1⟩
theorem vx_isRef {C n d : String} {v : Value} {A : Nat → Prop} {s : State} {args : Array Value} (h : va_Z C n d v A s s.heap) (hv : v.isRef = true) : (Cond.isRef (.static C n d)).before args s = true := by
  obtain ⟨cf, kf, fi, f, a, cell, h1, h2, h3, h4, h5, h6, h7, -⟩ := h
  have he : (Term.static C n d).eval args s none [] s = some v := by
    simp [Term.eval, State.fieldNamed?, h1, h2, h4, h5, h6, h7]
  simp only [Cond.before, Cond.holds, Cond.value, he]
  cases v <;> simp_all [Value.isRef]
theorem vx_isRefq {C n d : String} {A : Nat → Prop} {s : State} {args : Array Value} (h : va_Zq C n d A s s.heap) : (Cond.isRef (.static C n d)).before args s = true := by
  rcases h with h | ⟨t, h⟩
  · exact vx_isRef h rfl
  · exact vx_isRef h rfl
/-- the same frame, seen from here: as if the method were called anew in this heap -/
theorem vx_rebase {T : State} (X : Stand p l e R s m args below meth c T locs cells slots) {R' : Room} (hf : R'.frames ≤ R.frames) (hl : R'.locals ≤ R.locals) (hc : cells + R'.cells ≤ R.cells) (hs : slots + R'.slots ≤ R.slots) :
    Stand p l e R' ((T.setVm s.vm).setFrames (.invoking m args :: below)) m args below meth c T [] 0 0 := by
  have htop : (T.setVm s.vm).topJava?.isSome := X.here.top
  have hF : ((T.setVm s.vm).setFrames (.invoking m args :: below)).frames = .invoking m args :: below := State.frames_setFrames _ (State.cur_lt_of_top htop)
  obtain ⟨g₀, hg0⟩ := Option.isSome_iff_exists.mp htop
  obtain ⟨r, hr⟩ := State.topJava?_eq_some.mp hg0
  have hl9 : e.platform.stackLimits (T.setVm s.vm).me = e.platform.stackLimits s.me := X.limits
  have hb9 : (T.setVm s.vm).me.stackBytes = s.me.stackBytes := X.bytes
  refine ⟨X.admits, X.cas, X.clock, hF, ?_, X.hears, X.method, X.code, X.here, X.tail, X.warmed, ?_, ?_, ?_⟩
  · have h := X.room
    have hU : ((T.setVm s.vm).setFrames (.invoking m args :: below)).localsInUse = s.localsInUse := by
      rw [State.localsInUse_invoking hF (meth := meth) (c := c) X.method X.code, State.localsInUse_invoking X.frames X.method X.code]
    simp only [State.hasRoom, Bool.and_eq_true, decide_eq_true_eq] at h ⊢
    obtain ⟨⟨⟨⟨h1, h2, h3, h4, h5, h6⟩, h7⟩, h8⟩, h9⟩ := h
    rw [X.frames, List.length_cons] at h2 h3
    have q1 := X.heapSize
    have q2 := X.used
    simp only [hF, hU, List.length_cons, State.stackLimits_setFrames, State.stackBytes_setFrames, hl9, hb9]
    refine ⟨⟨⟨⟨by omega, by omega, by omega, by omega, by omega, h6⟩, ?_⟩, ?_⟩, X.book⟩
    · show T.heap.size + R'.cells ≤ e.platform.maxCells
      omega
    · show T.slotsUsed + R'.slots ≤ e.platform.maxSlots
      omega
  · rw [State.stackLimits_setFrames]; rfl
  · rw [State.stackBytes_setFrames]; rfl
  · refine ⟨?_, Nat.le_refl _, Nat.le_refl _, ?_, ?_, fun a c9 h9 => ⟨c9, h9, rfl, rfl, fun _ _ => rfl⟩⟩
    · obtain ⟨t, ht, -⟩ := State.frames_cons hr
      show T.setVm s.vm = { ((T.setVm s.vm).setFrames (.invoking m args :: below)).setFrames (T.setVm s.vm).frames with heap := T.heap, slotsUsed := T.slotsUsed }
      rw [State.setFrames_setFrames, State.setFrames_self ht]
      rfl
    · show T.slotsUsed = T.slotsUsed + ((T.heap.toList.drop T.heap.size).map (·.slots.size)).sum
      rw [List.drop_eq_nil_of_le (Nat.le_of_eq Array.length_toList)]
      rfl
    · show ((T.heap.toList.drop T.heap.size).map (·.slots.size)).sum ≤ 0
      rw [List.drop_eq_nil_of_le (Nat.le_of_eq Array.length_toList)]
      exact Nat.le_refl _
/-- 'throw new E()': new; dup; invokespecial; athrow -/
theorem vx_throw0 {cc : ByteArray} {pc : Nat} (hexec : p.tables.exec = Jvm.exec) (hb : c.code = cc) (hl : l.stackTraces = false) {own cls : String} {names : List String} {ik ic mc ms : Nat} {A : Nat → Prop}
    (hown : s.vm.findClass own = some m.cls) (hcls : Bundle.fit cls = true) (hnames : ∀ n ∈ names, Bundle.fit n = true)
    (hk : (Cond.classLink own ik cls).before args s = true) (hini : (Cond.initialized cls).before args s = true) (hat : ∀ w ∈ vx_at0 own ic cls names, w.before args s = true)
    (hgood : ∀ w ∈ Cond.classLink own ik cls :: Cond.initialized cls :: vx_at0 own ic cls names, vx_ot w = true)
    (hU : vx_Zq Bundle.tN "UNASSIGNED_STACK" Bundle.steD A s s.heap) (hN : vx_Zq Bundle.tN "SUPPRESSED_SENTINEL" Bundle.listD A s s.heap) (hS : va_S A s.heap H locs) (hsize : ls.size = c.maxLocals)
    (d0 : decode cc pc = .ok (.new ik, 3)) (d3 : decode cc (pc + 3) = .ok (.dup, 1)) (d4 : decode cc (pc + 4) = .ok (.invokespecial ic, 3)) (d7 : decode cc (pc + 7) = .ok (.athrow, 1))
    (hout : ∀ x ∈ c.exceptionTable.toList, covers x (pc + 7) = false)
    (hRframes : names.length + 3 < R.frames) (hRlocals : (rest.map fun v => v.category).sum + (13 * (names.length + 1) + 42) ≤ R.locals) (hRcells : cells + 1 ≤ R.cells) (hRslots : slots + 6 ≤ R.slots) (hlocks : meth.locks = false)
    (hx : ∀ t : State, s.vm.Alike t.vm → H.size ≤ t.heap.size → (∀ q : Nat, q < H.size → t.heap[q]? = H[q]?) → XC cls s t)
    (hf : ∀ z ∈ locs, free z.base) (hc : cells + 1 ≤ mc) (hs : slots + 6 ≤ ms) :
    W p l e R s m args below meth c H locs cells slots (vx_MQ below Qc XC args s mc ms free) (F0 m pc ls rest) := by
  intro T hT X
  have htr : e.platform.stackTraces = false := (show e.platform.stackTraces = l.stackTraces by rw [X.admits.platform]).trans hl
  have Y := vx_rebase X (R' := { frames := R.frames, locals := R.locals, cells := 1, slots := 6 }) (Nat.le_refl _) (Nat.le_refl _) hRcells hRslots
  obtain ⟨s', hA⟩ : ∃ z, z = (T.setVm s.vm).setFrames (.invoking m args :: below) := ⟨_, rfl⟩
  rw [← hA] at Y
  have hvm : s'.vm = s.vm := by rw [hA]; rfl
  have hhp : s'.heap = H := by rw [hA]; exact hT
  have hW0 : s.WarmedH s'.vm := by rw [hvm]; exact State.WarmedH.refl s
  have hat' : ∀ w ∈ vx_at0 own ic cls names, w.before args s' = true := fun w hw => vx_ot_at hW0 hvm.symm (hgood w (List.mem_cons_of_mem _ (List.mem_cons_of_mem _ hw))) (hat w hw)
  have hk' : (Cond.classLink own ik cls).before args s' = true := vx_ot_at hW0 hvm.symm (hgood _ List.mem_cons_self) hk
  have hini' : (Cond.initialized cls).before args s' = true := vx_ot_at hW0 hvm.symm (hgood _ (List.mem_cons_of_mem _ List.mem_cons_self)) hini
  have hU' : vx_Zq Bundle.tN "UNASSIGNED_STACK" Bundle.steD A s' s'.heap := by rw [hhp]; exact vx_Zq.moved hW0.alike (hU.kept hS.2.1)
  have hN' : vx_Zq Bundle.tN "SUPPRESSED_SENTINEL" Bundle.listD A s' s'.heap := by rw [hhp]; exact vx_Zq.moved hW0.alike (hN.kept hS.2.1)
  have h : ∀ w ∈ Bundle.ownAtoms0 own ic cls names, w.before args s' = true := vx_own hat' (vx_isRefq hU'.1) (vx_isRefq hN'.1) hU'.2.word hN'.2.word
  have hown' : s'.vm.findClass own = some m.cls := by rw [hvm]; exact hown
  have hins : (Cond.instantiable cls 6).before args s' = true := h _ (by simp [Bundle.ownAtoms0])
  obtain ⟨vm₁, cX, kX, hfX, hkX, -, -, X₁, st1⟩ := Y.newCold hexec (own := own) (C := cls) (index := ik) (n := 6) hown' hk' hins hini'
    (g := F0 m pc ls rest) rfl (by rw [hb]; exact d0) (Nat.le_refl _) (Nat.le_refl _)
  generalize hT1 : (T.setVm vm₁).pushCell { cls := cX, slots := kX.instanceTypes.map defaultValue, vm := .none } = T1 at X₁ st1
  have hcat : (Value.ref T.heap.size).category = 1 := rfl
  have hcellA : T1.heap[T.heap.size]? = some (freshCell cX kX) := by rw [← hT1]; exact State.heap_pushCell_size _ _
  have d3' : decode c.code (pc + 3) = .ok (.dup, 1) := by rw [hb]; exact d3
  obtain ⟨U, hsteps, hrun, hend, hW, hsame, ce, hce, hO⟩ := X₁.ctorThrow0 hexec htr (own := own) (cls := cls) (names := names) (ic := ic) hown' hcls hnames h (fun x hx => nomatch hx) hfX hkX hcellA (by rw [hhp, hT]; exact Nat.le_refl _)
    (g := { method := m, pc := pc + 4, locals := ls, stack := .ref T.heap.size :: .ref T.heap.size :: rest, locked := none }) rfl hsize rfl rfl (rest := rest) rfl
    (by rw [hb]; exact d4) (by rw [hb]; exact d7) hout hRframes (by simp only [List.map_cons, List.sum_cons, hcat]; omega) hlocks
  obtain ⟨f1, f2⟩ := vx_frame hsame
  rw [hhp] at f1 f2
  have hWs : s.WarmedH U.vm := State.WarmedH.trans hW0 hW
  have hcl : s.vm.findClass cls = some ce.cls := by
    have h9 := hO.cls
    rw [hvm] at h9
    exact h9
  have hall : s.sameButNew ({ U with vm := s.vm } : State) locs mc ms := by
    subst hA
    obtain ⟨e1, e2⟩ := hsame
    rw [State.setFrames_setFrames] at e1
    have h2 : (T.setVm s.vm).sameButNew ({ U with vm := s.vm } : State) [] (0 + 1) (0 + 6) := ⟨e1, e2⟩
    have h3 := X.same.trans h2
    rw [List.append_nil] at h3
    exact h3.mono hc hs
  refine ⟨U, ?_, .threw T.heap.size, hrun, hend, Or.inr ⟨T.heap.size, rfl, cls, ce, locs, hx U hWs.alike f1 (fun q hq => f2 q hq (fun z hz => nomatch hz)), hce, hO.vm, hcl, hWs, hall, hf⟩⟩
  refine st1 _ ?_
  show Steps p.tables e below (T1.setTop { method := m, pc := pc + 3, locals := ls, stack := .ref T.heap.size :: rest, locked := none }) _
  jvm_step X₁.here [X₁.here.top, hexec, d3', Value.category]
  exact hsteps
/-- 'throw new E("text")': new; dup; ldc; invokespecial; athrow -/
theorem vx_throwS {cc : ByteArray} {pc : Nat} (hexec : p.tables.exec = Jvm.exec) (hb : c.code = cc) (hl : l.stackTraces = false) {own cls text : String} {names : List String} {ik is ic mc ms sa : Nat} {A : Nat → Prop}
    (hown : s.vm.findClass own = some m.cls) (hcls : Bundle.fit cls = true) (hnames : ∀ n ∈ names, Bundle.fit n = true)
    (hk : (Cond.classLink own ik cls).before args s = true) (hini : (Cond.initialized cls).before args s = true) (hstr : vk_R own is text sa s) (hat : ∀ w ∈ vx_atS own ic cls names, w.before args s = true)
    (hgood : ∀ w ∈ Cond.classLink own ik cls :: Cond.initialized cls :: vx_atS own ic cls names, vx_ot w = true)
    (hU : vx_Zq Bundle.tN "UNASSIGNED_STACK" Bundle.steD A s s.heap) (hN : vx_Zq Bundle.tN "SUPPRESSED_SENTINEL" Bundle.listD A s s.heap) (hS : va_S A s.heap H locs) (hsize : ls.size = c.maxLocals)
    (d0 : decode cc pc = .ok (.new ik, 3)) (d3 : decode cc (pc + 3) = .ok (.dup, 1)) (d4 : decode cc (pc + 4) = .ok (.ldc is, 2)) (d6 : decode cc (pc + 6) = .ok (.invokespecial ic, 3)) (d9 : decode cc (pc + 9) = .ok (.athrow, 1))
    (hout : ∀ x ∈ c.exceptionTable.toList, covers x (pc + 9) = false)
    (hRframes : names.length + 3 < R.frames) (hRlocals : (rest.map fun v => v.category).sum + (13 * (names.length + 1) + 43) ≤ R.locals) (hRcells : cells + 1 ≤ R.cells) (hRslots : slots + 6 ≤ R.slots) (hlocks : meth.locks = false)
    (hx : ∀ t : State, s.vm.Alike t.vm → H.size ≤ t.heap.size → (∀ q : Nat, q < H.size → t.heap[q]? = H[q]?) → XC cls s t)
    (hf : ∀ z ∈ locs, free z.base) (hc : cells + 1 ≤ mc) (hs : slots + 6 ≤ ms) :
    W p l e R s m args below meth c H locs cells slots (vx_MQ below Qc XC args s mc ms free) (F0 m pc ls rest) := by
  intro T hT X
  have htr : e.platform.stackTraces = false := (show e.platform.stackTraces = l.stackTraces by rw [X.admits.platform]).trans hl
  have Y := vx_rebase X (R' := { frames := R.frames, locals := R.locals, cells := 1, slots := 6 }) (Nat.le_refl _) (Nat.le_refl _) hRcells hRslots
  obtain ⟨s', hA⟩ : ∃ z, z = (T.setVm s.vm).setFrames (.invoking m args :: below) := ⟨_, rfl⟩
  rw [← hA] at Y
  have hvm : s'.vm = s.vm := by rw [hA]; rfl
  have hhp : s'.heap = H := by rw [hA]; exact hT
  have hW0 : s.WarmedH s'.vm := by rw [hvm]; exact State.WarmedH.refl s
  have hat' : ∀ w ∈ vx_atS own ic cls names, w.before args s' = true := fun w hw => vx_ot_at hW0 hvm.symm (hgood w (List.mem_cons_of_mem _ (List.mem_cons_of_mem _ hw))) (hat w hw)
  have hk' : (Cond.classLink own ik cls).before args s' = true := vx_ot_at hW0 hvm.symm (hgood _ List.mem_cons_self) hk
  have hini' : (Cond.initialized cls).before args s' = true := vx_ot_at hW0 hvm.symm (hgood _ (List.mem_cons_of_mem _ List.mem_cons_self)) hini
  have hU' : vx_Zq Bundle.tN "UNASSIGNED_STACK" Bundle.steD A s' s'.heap := by rw [hhp]; exact vx_Zq.moved hW0.alike (hU.kept hS.2.1)
  have hN' : vx_Zq Bundle.tN "SUPPRESSED_SENTINEL" Bundle.listD A s' s'.heap := by rw [hhp]; exact vx_Zq.moved hW0.alike (hN.kept hS.2.1)
  have h : ∀ w ∈ Bundle.ownAtoms own ic cls names, w.before args s' = true := vx_own hat' (vx_isRefq hU'.1) (vx_isRefq hN'.1) hU'.2.word hN'.2.word
  have hown' : s'.vm.findClass own = some m.cls := by rw [hvm]; exact hown
  have hins : (Cond.instantiable cls 6).before args s' = true := h _ (by simp [Bundle.ownAtoms])
  obtain ⟨vm₁, cX, kX, hfX, hkX, -, -, X₁, st1⟩ := Y.newCold hexec (own := own) (C := cls) (index := ik) (n := 6) hown' hk' hins hini'
    (g := F0 m pc ls rest) rfl (by rw [hb]; exact d0) (Nat.le_refl _) (Nat.le_refl _)
  generalize hT1 : (T.setVm vm₁).pushCell { cls := cX, slots := kX.instanceTypes.map defaultValue, vm := .none } = T1 at X₁ st1
  have hcat : (Value.ref T.heap.size).category = 1 := rfl
  have hcellA : T1.heap[T.heap.size]? = some (freshCell cX kX) := by rw [← hT1]; exact State.heap_pushCell_size _ _
  have d3' : decode c.code (pc + 3) = .ok (.dup, 1) := by rw [hb]; exact d3
  have d4' : decode c.code (pc + 4) = .ok (.ldc is, 2) := by rw [hb]; exact d4
  have hstr' : vk_R own is text sa s' := vk_R.warm hW0 hstr
  obtain ⟨U, hsteps, hrun, hend, hW, hsame, ce, hce, hO⟩ := X₁.ctorThrowS hexec htr (own := own) (cls := cls) (names := names) (ic := ic) hown' hcls hnames h (fun x hx => nomatch hx) hfX hkX hcellA (by rw [hhp, hT]; exact Nat.le_refl _) (msg := .ref sa) rfl
    (g := { method := m, pc := pc + 6, locals := ls, stack := .ref sa :: .ref T.heap.size :: .ref T.heap.size :: rest, locked := none }) rfl hsize rfl rfl (rest := rest) rfl
    (by rw [hb]; exact d6) (by rw [hb]; exact d9) hout hRframes (by simp only [List.map_cons, List.sum_cons, hcat]; omega) hlocks
  obtain ⟨f1, f2⟩ := vx_frame hsame
  rw [hhp] at f1 f2
  have hWs : s.WarmedH U.vm := State.WarmedH.trans hW0 hW
  have hcl : s.vm.findClass cls = some ce.cls := by
    have h9 := hO.cls
    rw [hvm] at h9
    exact h9
  have hall : s.sameButNew ({ U with vm := s.vm } : State) locs mc ms := by
    subst hA
    obtain ⟨e1, e2⟩ := hsame
    rw [State.setFrames_setFrames] at e1
    have h2 : (T.setVm s.vm).sameButNew ({ U with vm := s.vm } : State) [] (0 + 1) (0 + 6) := ⟨e1, e2⟩
    have h3 := X.same.trans h2
    rw [List.append_nil] at h3
    exact h3.mono hc hs
  refine ⟨U, ?_, .threw T.heap.size, hrun, hend, Or.inr ⟨T.heap.size, rfl, cls, ce, locs, hx U hWs.alike f1 (fun q hq => f2 q hq (fun z hz => nomatch hz)), hce, hO.vm, hcl, hWs, hall, hf⟩⟩
  refine st1 _ ?_
  show Steps p.tables e below (T1.setTop { method := m, pc := pc + 3, locals := ls, stack := .ref T.heap.size :: rest, locked := none }) _
  jvm_step X₁.here [X₁.here.top, hexec, d3', Value.category]
  exact X₁.ldcString hexec (own := own) (text := text) (index := is) (a := sa) hown' hstr'.1 hstr'.2
    (g := { method := m, pc := pc + 4, locals := ls, stack := .ref T.heap.size :: .ref T.heap.size :: rest, locked := none }) rfl d4' _ hsteps
/-- 'throw new E("text")', the text by a wide index -/
theorem vx_throwSW {cc : ByteArray} {pc : Nat} (hexec : p.tables.exec = Jvm.exec) (hb : c.code = cc) (hl : l.stackTraces = false) {own cls text : String} {names : List String} {ik is ic mc ms sa : Nat} {A : Nat → Prop}
    (hown : s.vm.findClass own = some m.cls) (hcls : Bundle.fit cls = true) (hnames : ∀ n ∈ names, Bundle.fit n = true)
    (hk : (Cond.classLink own ik cls).before args s = true) (hini : (Cond.initialized cls).before args s = true) (hstr : vk_R own is text sa s) (hat : ∀ w ∈ vx_atS own ic cls names, w.before args s = true)
    (hgood : ∀ w ∈ Cond.classLink own ik cls :: Cond.initialized cls :: vx_atS own ic cls names, vx_ot w = true)
    (hU : vx_Zq Bundle.tN "UNASSIGNED_STACK" Bundle.steD A s s.heap) (hN : vx_Zq Bundle.tN "SUPPRESSED_SENTINEL" Bundle.listD A s s.heap) (hS : va_S A s.heap H locs) (hsize : ls.size = c.maxLocals)
    (d0 : decode cc pc = .ok (.new ik, 3)) (d3 : decode cc (pc + 3) = .ok (.dup, 1)) (d4 : decode cc (pc + 4) = .ok (.ldc_w is, 3)) (d7 : decode cc (pc + 7) = .ok (.invokespecial ic, 3)) (d10 : decode cc (pc + 10) = .ok (.athrow, 1))
    (hout : ∀ x ∈ c.exceptionTable.toList, covers x (pc + 10) = false)
    (hRframes : names.length + 3 < R.frames) (hRlocals : (rest.map fun v => v.category).sum + (13 * (names.length + 1) + 43) ≤ R.locals) (hRcells : cells + 1 ≤ R.cells) (hRslots : slots + 6 ≤ R.slots) (hlocks : meth.locks = false)
    (hx : ∀ t : State, s.vm.Alike t.vm → H.size ≤ t.heap.size → (∀ q : Nat, q < H.size → t.heap[q]? = H[q]?) → XC cls s t)
    (hf : ∀ z ∈ locs, free z.base) (hc : cells + 1 ≤ mc) (hs : slots + 6 ≤ ms) :
    W p l e R s m args below meth c H locs cells slots (vx_MQ below Qc XC args s mc ms free) (F0 m pc ls rest) := by
  intro T hT X
  have htr : e.platform.stackTraces = false := (show e.platform.stackTraces = l.stackTraces by rw [X.admits.platform]).trans hl
  have Y := vx_rebase X (R' := { frames := R.frames, locals := R.locals, cells := 1, slots := 6 }) (Nat.le_refl _) (Nat.le_refl _) hRcells hRslots
  obtain ⟨s', hA⟩ : ∃ z, z = (T.setVm s.vm).setFrames (.invoking m args :: below) := ⟨_, rfl⟩
  rw [← hA] at Y
  have hvm : s'.vm = s.vm := by rw [hA]; rfl
  have hhp : s'.heap = H := by rw [hA]; exact hT
  have hW0 : s.WarmedH s'.vm := by rw [hvm]; exact State.WarmedH.refl s
  have hat' : ∀ w ∈ vx_atS own ic cls names, w.before args s' = true := fun w hw => vx_ot_at hW0 hvm.symm (hgood w (List.mem_cons_of_mem _ (List.mem_cons_of_mem _ hw))) (hat w hw)
  have hk' : (Cond.classLink own ik cls).before args s' = true := vx_ot_at hW0 hvm.symm (hgood _ List.mem_cons_self) hk
  have hini' : (Cond.initialized cls).before args s' = true := vx_ot_at hW0 hvm.symm (hgood _ (List.mem_cons_of_mem _ List.mem_cons_self)) hini
  have hU' : vx_Zq Bundle.tN "UNASSIGNED_STACK" Bundle.steD A s' s'.heap := by rw [hhp]; exact vx_Zq.moved hW0.alike (hU.kept hS.2.1)
  have hN' : vx_Zq Bundle.tN "SUPPRESSED_SENTINEL" Bundle.listD A s' s'.heap := by rw [hhp]; exact vx_Zq.moved hW0.alike (hN.kept hS.2.1)
  have h : ∀ w ∈ Bundle.ownAtoms own ic cls names, w.before args s' = true := vx_own hat' (vx_isRefq hU'.1) (vx_isRefq hN'.1) hU'.2.word hN'.2.word
  have hown' : s'.vm.findClass own = some m.cls := by rw [hvm]; exact hown
  have hins : (Cond.instantiable cls 6).before args s' = true := h _ (by simp [Bundle.ownAtoms])
  obtain ⟨vm₁, cX, kX, hfX, hkX, -, -, X₁, st1⟩ := Y.newCold hexec (own := own) (C := cls) (index := ik) (n := 6) hown' hk' hins hini'
    (g := F0 m pc ls rest) rfl (by rw [hb]; exact d0) (Nat.le_refl _) (Nat.le_refl _)
  generalize hT1 : (T.setVm vm₁).pushCell { cls := cX, slots := kX.instanceTypes.map defaultValue, vm := .none } = T1 at X₁ st1
  have hcat : (Value.ref T.heap.size).category = 1 := rfl
  have hcellA : T1.heap[T.heap.size]? = some (freshCell cX kX) := by rw [← hT1]; exact State.heap_pushCell_size _ _
  have d3' : decode c.code (pc + 3) = .ok (.dup, 1) := by rw [hb]; exact d3
  have d4' : decode c.code (pc + 4) = .ok (.ldc_w is, 3) := by rw [hb]; exact d4
  have hstr' : vk_R own is text sa s' := vk_R.warm hW0 hstr
  obtain ⟨U, hsteps, hrun, hend, hW, hsame, ce, hce, hO⟩ := X₁.ctorThrowS hexec htr (own := own) (cls := cls) (names := names) (ic := ic) hown' hcls hnames h (fun x hx => nomatch hx) hfX hkX hcellA (by rw [hhp, hT]; exact Nat.le_refl _) (msg := .ref sa) rfl
    (g := { method := m, pc := pc + 7, locals := ls, stack := .ref sa :: .ref T.heap.size :: .ref T.heap.size :: rest, locked := none }) rfl hsize rfl rfl (rest := rest) rfl
    (by rw [hb]; exact d7) (by rw [hb]; exact d10) hout hRframes (by simp only [List.map_cons, List.sum_cons, hcat]; omega) hlocks
  obtain ⟨f1, f2⟩ := vx_frame hsame
  rw [hhp] at f1 f2
  have hWs : s.WarmedH U.vm := State.WarmedH.trans hW0 hW
  have hcl : s.vm.findClass cls = some ce.cls := by
    have h9 := hO.cls
    rw [hvm] at h9
    exact h9
  have hall : s.sameButNew ({ U with vm := s.vm } : State) locs mc ms := by
    subst hA
    obtain ⟨e1, e2⟩ := hsame
    rw [State.setFrames_setFrames] at e1
    have h2 : (T.setVm s.vm).sameButNew ({ U with vm := s.vm } : State) [] (0 + 1) (0 + 6) := ⟨e1, e2⟩
    have h3 := X.same.trans h2
    rw [List.append_nil] at h3
    exact h3.mono hc hs
  refine ⟨U, ?_, .threw T.heap.size, hrun, hend, Or.inr ⟨T.heap.size, rfl, cls, ce, locs, hx U hWs.alike f1 (fun q hq => f2 q hq (fun z hz => nomatch hz)), hce, hO.vm, hcl, hWs, hall, hf⟩⟩
  refine st1 _ ?_
  show Steps p.tables e below (T1.setTop { method := m, pc := pc + 3, locals := ls, stack := .ref T.heap.size :: rest, locked := none }) _
  jvm_step X₁.here [X₁.here.top, hexec, d3', Value.category]
  exact X₁.ldcStringW hexec (own := own) (text := text) (index := is) (a := sa) hown' hstr'.1 hstr'.2
    (g := { method := m, pc := pc + 4, locals := ls, stack := .ref T.heap.size :: .ref T.heap.size :: rest, locked := none }) rfl d4' _ hsteps
end Ends
section Bodies
variable {l : Launch}
theorem vx_ofW {y : MethodName} {ws ws' : List Cond} {rm : Room} {Pc : Array Value → State → Prop} {Qc : Array Value → State → Outcome → State → Prop} {XC : String → State → State → Prop} {mc ms : Nat} {free : Addr → Prop} {cc : ByteArray} {maxL : Nat} {ret : Option FieldType}
    (hy : plainName y.cls = true) (hw : ws = Cond.code y cc maxL ret :: ws')
    (body : ∀ p e s m args below meth c s₁, BodyLoose p l y (headSpec ws rm) cc maxL ret e s m args below meth c s₁ → c.maxLocals = maxL → (∀ x ∈ c.exceptionTable.toList, False) → Pc args s →
      W p l e (headSpec ws rm).room s m args below meth c s.heap [] 0 0 (vx_MQ below Qc XC args s mc ms free) (entryFrame m args maxL)) : vx_Met l y ws rm Pc Qc XC mc ms free := by
  refine MetFree.of_bodyS (code := cc) (maxLocals := maxL) (ret := ret) hy ?_ ?_
  · intro args s m h hn
    obtain ⟨meth, c, h1, h2, h3, h4, h5, h6, -, -⟩ := Cond.code_spec hn (atoms_spec (ws := ws) h _ (by rw [hw]; exact List.mem_cons_self))
    exact ⟨meth, c, h1, h2, h3, h4, h5, h6⟩
  · intro p e s m args below meth c s₁ B hml hP _
    have hh0 : s₁.heap = s.heap := by rw [B.state]; rfl
    have ht : ∀ x ∈ c.exceptionTable.toList, False := by
      obtain ⟨meth9, c9, h1, h2, -, -, -, -, h7, -⟩ := Cond.code_spec B.named (atoms_spec (ws := ws) B.pre _ (by rw [hw]; exact List.mem_cons_self))
      cases Option.some.inj (h1.symm.trans B.method)
      cases Option.some.inj (h2.symm.trans (Stand.of_body B).code)
      intro x hx
      rw [Array.isEmpty_iff.mp h7] at hx
      cases hx
    obtain ⟨t, a1, o, b1, b2, b3⟩ := body p e s m args below meth c s₁ B hml ht hP s₁ hh0 (Stand.of_body B)
    exact ⟨t, o, a1, b1, b2, b3⟩
/-- the table of a body with handlers -/
theorem vx_table {p : Program} {x y : MethodName} {S : Spec} {cc bytes : ByteArray} {maxL maxL' : Nat} {ret ret' : Option FieldType} {e : Env} {s s₁ : State} {m : MethodId} {args : Array Value} {below : List Frame} {meth : Method} {c : Code} {hh : List (Nat × Nat × Nat × Nat)}
    (B : BodyLoose p l y S cc maxL ret e s m args below meth c s₁) (h : (Cond.codeWith y bytes maxL' ret' hh).before args s = true) : c.exceptionTable.toList = tableOf hh := by
  obtain ⟨m9, meth9, c9, hn9, h1, h2, -, -, h6, -⟩ := Cond.codeWith_spec h
  cases Option.some.inj (hn9.symm.trans B.named)
  cases Option.some.inj (h1.symm.trans B.method)
  cases Option.some.inj (h2.symm.trans (Stand.of_body B).code)
  rw [← h6, table_eq]
end Bodies
end VXA
/-! ===== END ===== -/
/-! ===== BEGIN a static call of a method with an exception table ===== -/
section VXS
variable {p : Program} {l : Launch} {e : Env} {R : Room} {s : State} {m : MethodId} {args : Array Value} {below : List Frame} {meth : Method} {c : Code} {T : State} {H : Heap} {locs : List Loc} {cells slots : Nat}
abbrev vx_CSW (R : Room) (s : State) (args : Array Value) (own : String) (index : Nat) (y : MethodName) (bytes : ByteArray) (maxL : Nat) (ret : Option FieldType) (hh : List (Nat × Nat × Nat × Nat)) (ws : List Cond) (rm : Room) (mc ms n : Nat) : Prop :=
  (rm.cells = mc ∧ rm.slots = ms ∧ rm.frames + 1 ≤ R.frames ∧ 8 + (maxL + 11) + rm.locals ≤ R.locals ∧ (∀ w ∈ ws, ∀ (a' : Array Value) (U : State), s.WarmedH U.vm → w.before a' U = true) ∧ Cond.codeWith y bytes maxL ret hh ∈ ws) ∧
  (Cond.codeWith y bytes maxL ret hh).before args s = true ∧ (Cond.initialized y.cls).before args s = true ∧ (y.cls ≠ "java/lang/invoke/MethodHandle" ∧ y.cls ≠ "java/lang/invoke/VarHandle") ∧
  (∀ sig, parseMethodDescriptor y.desc = some sig → n = sig.parameters.length) ∧ (Cond.methodLink own index y).before args s = true ∧ (Cond.static y).before args s = true
theorem vx_cwSW {own : String} {index maxL mc ms : Nat} {y : MethodName} {bytes : ByteArray} {ret : Option FieldType} {hh : List (Nat × Nat × Nat × Nat)} {Ts ws ws' : List Cond} {rm : Room} (n : Nat) (ht : ∀ w ∈ Ts, w.before args s = true) (hT : GoodIn Ts (va_wsS own index y ws)) (hw : ws = Cond.codeWith y bytes maxL ret hh :: ws') (hrc : rm.cells = mc) (hrs : rm.slots = ms)
    (hd : y.cls ≠ "java/lang/invoke/MethodHandle" ∧ y.cls ≠ "java/lang/invoke/VarHandle" ∧ (parseMethodDescriptor y.desc).map (fun d => d.parameters.length) = some n) (hR : rm.frames + 1 ≤ R.frames ∧ 8 + (maxL + 11) + rm.locals ≤ R.locals) :
    vx_CSW R s args own index y bytes maxL ret hh ws rm mc ms n := by
  have ok : ∀ w ∈ va_wsS own index y ws, w.before args s = true := fun w h => ht w (hT w h).1
  have hG : GoodIn Ts ws := fun w h => hT w (by unfold va_wsS; exact List.mem_append_right _ h)
  have hc : Cond.codeWith y bytes maxL ret hh ∈ ws := by rw [hw]; exact List.mem_cons_self
  refine ⟨⟨hrc, hrs, hR.1, hR.2, pay_in ht hG, hc⟩, ht _ (hG _ hc).1, ok _ (by simp [va_wsS]), ⟨hd.1, hd.2.1⟩, fun sig h => ?_, ok _ (by simp [va_wsS]), ok _ (by simp [va_wsS])⟩
  have h2 := hd.2.2
  rw [h] at h2
  exact (Option.some.inj h2).symm
theorem vx_callSW (X : Stand p l e R s m args below meth c T locs cells slots) (hexec : p.tables.exec = Jvm.exec) {own : String} {index : Nat} {y : MethodName} {bytes : ByteArray} {maxL : Nat} {ret : Option FieldType} {hh : List (Nat × Nat × Nat × Nat)}
    (hown : s.vm.findClass own = some m.cls) (hlink : (Cond.methodLink own index y).before args s = true) (hstat : (Cond.static y).before args s = true) (hinit : (Cond.initialized y.cls).before args s = true)
    (hcode : (Cond.codeWith y bytes maxL ret hh).before args s = true) (hy : y.cls ≠ "java/lang/invoke/MethodHandle" ∧ y.cls ≠ "java/lang/invoke/VarHandle")
    {W9 : Nat} {Pre : Pt → Array Value → Prop} {Post : Pt → Array Value → Option Value → Pt → Prop} (hK : Back l R p e below s args y 3 W9 Pre Post)
    {g : JFrame} (hg : g.method = m) (hsize : g.locals.size = c.maxLocals) {argsL rest : List Value} (hlen : ∀ sig, parseMethodDescriptor y.desc = some sig → argsL.length = sig.parameters.length)
    (hstack : g.stack = argsL.reverse ++ rest) (hW : 2 * g.monitorRoom + (rest.map fun v => v.category).sum ≤ W9) (hdg : decode c.code g.pc = .ok (.invokestatic index, 3))
    (hpre : ∀ vm₁, s.WarmedH vm₁ → Pre ⟨T.setVm vm₁, locs, cells, slots⟩ argsL.toArray) :
    ∃ (v : Option Value) (vm₁ : Vm) (B : Pt), s.WarmedH vm₁ ∧ Stand p l e R s m args below meth c B.U B.locs B.cells B.slots ∧ Post ⟨T.setVm vm₁, locs, cells, slots⟩ argsL.toArray v B ∧
      ∀ target, Steps p.tables e below (B.U.setTop { g with pc := g.pc + 3, stack := v.toList ++ rest }) target → Steps p.tables e below (T.setTop g) target := by
  obtain ⟨mk, methM, cM, hnamed, hmethM, -, -, -, -, -, -, hsigM⟩ := Cond.codeWith_spec hcode
  have hstatic : methM.isStatic = true := Cond.static_spec hnamed hmethM hstat
  obtain ⟨kP, hkP, -⟩ := className_of_methodNamed hnamed
  have hinitP : kP.init = .initialized := Cond.initialized_spec (findClass_of_methodNamed hnamed) hkP hinit
  obtain ⟨vm₁, X₁, hstep₁⟩ := X.invokestatic hexec hown hlink hnamed hmethM hstatic hkP hinitP hy (g := g) hg (argsL := argsL) (rest := rest) (hlen _ hsigM) hstack hdg
  obtain ⟨v, B, X', hpost, hsteps⟩ := hK m meth c ⟨T.setVm vm₁, locs, cells, slots⟩ { g with stack := rest } (.invokestatic index) mk argsL.toArray X₁ hg hsize hdg hW (X₁.named hnamed) (hpre vm₁ X₁.warmed)
  exact ⟨v, vm₁, B, X₁.warmed, X', hpost, fun target h => hstep₁ _ fun acts => by rw [doInvoke_state]; exact hsteps.trans h⟩
theorem vx_runSW {y : MethodName} {bytes cc : ByteArray} {maxL nL mc ms n index : Nat} {ret : Option FieldType} {hh : List (Nat × Nat × Nat × Nat)} {ws : List Cond} {rm : Room} {Pc : Array Value → State → Prop} {Qc : Array Value → State → Outcome → State → Prop} {free : Addr → Prop} {Ts : List Cond} {own : String} {As rest : List Value} {g : JFrame}
    (S : CallFix p m c cc nL s args Ts own) (hM : Met l y ws rm Pc Qc mc ms free) (cw : vx_CSW R s args own index y bytes maxL ret hh ws rm mc ms n) (hp : PreS s H Pc As)
    (hg : g.method = m) (hn : As.length = n) (hsize : g.locals.size = nL) (hstack : g.stack = As.reverse ++ rest) (hW : 2 * g.monitorRoom + (rest.map fun v => v.category).sum ≤ 8) (hdg : decode cc g.pc = .ok (.invokestatic index, 3)) (hf : cells + mc ≤ R.cells ∧ slots + ms ≤ R.slots) :
    va_Run p l e R s m args below meth c H locs cells slots mc ms g rest (Qc As.toArray) (free) := by
  obtain ⟨⟨hrc, hrs, hfr, hlo, hws, hcw⟩, hcode, hini, hy, hlen, hl, hstt⟩ := cw
  have hK : Back l R p e below s args y 3 8 (PreOf R mc ms Pc) (PostOf Qc mc ms free) := va_backW (hh := hh) (bytes := bytes) (maxL := maxL) (ret := ret) hM hp.1 hrc hrs hfr hlo hws hcw (fun a' U hW => word_at hW (Or.inl (by first | rfl | simp [Cond.onTables, Cond.keeps, Cond.steady])) hini)
  obtain ⟨hx, hb, hml, ho, -⟩ := S
  intro T hT X
  obtain ⟨v, vm₁, ⟨U', l2, c2, s2⟩, hW₁, X', ⟨g', mk, t, L, e1, e2, hq, h1, hL, h2, h3⟩, st⟩ := vx_callSW X hx (hh := hh) (bytes := bytes) (maxL := maxL) (ret := ret) ho hl hstt hini hcode hy hK hg (hsize.trans hml.symm) (argsL := As) (rest := rest) (fun sig h => hn.trans (hlen sig h)) hstack hW (by rw [hb]; exact hdg)
    (fun vm₁ hW₁ => ⟨hf.1, hf.2, hp.2 (T.setVm vm₁) hT hW₁⟩)
  dsimp only [Pt.U, Pt.locs, Pt.cells, Pt.slots] at X' e1 e2 h1 h2 h3 st
  subst h1; subst h2; subst h3
  exact ⟨v, (T.setVm vm₁).calling g' mk As.toArray, t, U', L, hT, X', hL, e1, e2, hq, st⟩
/-- not caught here, past rows that name other classes: it goes on to the caller -/
theorem vx_outP {p : Program} {l : Launch} {e : Env} {R : Room} {s : State} {m : MethodId} {args : Array Value} {below : List Frame} {meth : Method} {c : Code} {H : Heap} {locs : List Loc} {cells slots : Nat} {free : Addr → Prop} {ls : Array Slot} {rest : List Value} {Qc : Array Value → State → Outcome → State → Prop} {XC : String → State → State → Prop}
    {pc : Nat} {own E : String} {ce : Cell} {q : Addr} {mc ms : Nat} (hown : s.vm.findClass own = some m.cls) (hlocks : meth.locks = false)
    (hpass : ∀ z ∈ c.exceptionTable.toList, covers z pc = false ∨ (z.catchType ≠ 0 ∧ ∃ nm : String, (Cond.classLink own z.catchType nm).before args s = true ∧ va_Nc E nm s)) (hcell : H[q]? = some ce) (hv : ce.vm = .none) (hcl : s.vm.findClass E = some ce.cls)
    (hx : ∀ t : State, t.heap = H → s.vm.Alike t.vm → XC E s t) (hf : ∀ z ∈ locs, free z.base) (hc : cells ≤ mc) (hs : slots ≤ ms) :
    vx_W p l e R s m args below meth c H locs cells slots (vx_MQ below Qc XC args s mc ms free) (F0 m pc ls rest) q := by
  intro T hT X
  have hpl : e.platform.magicAccessors = ({} : Platform).magicAccessors := by rw [X.admits.platform]
  obtain ⟨vm', hW', X', st⟩ := X.outThrough hlocks q (g := F0 m pc ls rest) rfl rfl rfl (cell := ce) (by rw [hT]; exact hcell) (by rw [hv]; rfl)
    (by obtain ⟨k9, h9, -⟩ := Vm.findClass_spec hcl; exact ⟨k9, h9⟩) (fun z hz => by
      rcases hpass z hz with h | ⟨hz0, nm, hl1, hn1⟩
      · exact Or.inl h
      · obtain ⟨c6, hc6, hcl6⟩ := Cond.classLink_spec hown hl1 e.platform hpl
        obtain ⟨a8, b8, h1, h2, h3⟩ := hn1
        cases Option.some.inj (h1.symm.trans hcl)
        cases Option.some.inj (h2.symm.trans hc6)
        exact Or.inr ⟨hz0, _, hcl6, h3⟩)
  obtain ⟨g₀, hfr⟩ := X'.frames_eq
  have hcell9 : ((T.setVm vm').setFrames (.throwing q :: below)).heap[q]? = some ce := by
    show T.heap[q]? = some ce
    rw [hT]; exact hcell
  have hend : Ended ((T.setVm vm').setFrames (.throwing q :: below)) below (.threw q) := State.frames_setFrames _ (State.cur_lt_of_frames hfr)
  refine ⟨(T.setVm vm').setFrames (.throwing q :: below), ?_, .threw q, X'.here.running, hend, Or.inr ⟨q, rfl, E, ce, locs, hx _ hT (X'.ends _).1.alike, hcell9, hv, hcl, (X'.ends _).1, (X'.ends _).2.mono hc hs, hf⟩⟩
  rw [X.pushThrowing_eq]
  exact st
/-- a thing of a world lies in the heap -/
theorem vx_lt {D : va_G} {cl : List vw_C} {ws : va_W} {H1 : Heap} (h : va_P D cl ws H1) {k : Nat} {q : Nat × va_E} (hk : ws[k]? = some q) : q.1 < H1.size := (h k q hk).lt
end VXS
/-! ===== END ===== -/
/-! ===== BEGIN methods with a table of their own: called by a name, returning or throwing ===== -/
section VXH
/-! vx_backW, vx_callVX, vx_callSX, vx_callVW, vx_runVW, vx_runVX, vx_runSX, vx_ofWH follow the same proofs as their sisters above (Free/Laws.lean, Shelf42/LK1.lean); vx_outP calls Shelf42/NT130.lean (outThrough). -/
section
variable {l : Launch} {R : Room} {p : Program} {e : Env} {below : List Frame} {s : State} {sargs : Array Value} {y : MethodName} {len W9 : Nat}
theorem vx_backW {ws : List Cond} {rm : Room} {Pc : Array Value → State → Prop} {Qc : Array Value → State → Outcome → State → Prop} {XC : String → State → State → Prop} {mc ms : Nat} {free : Addr → Prop} {bytes : ByteArray} {maxL : Nat} {ret : Option FieldType} {hh : List (Nat × Nat × Nat × Nat)}
    (hM : vx_Met l y ws rm Pc Qc XC mc ms free) (hblind : FrameBlind Pc) (hrc : rm.cells = mc) (hrs : rm.slots = ms)
    (hframes : rm.frames + 1 ≤ R.frames) (hlocals : W9 + (maxL + 11) + rm.locals ≤ R.locals)
    (hws : ∀ w ∈ ws, ∀ a' U, s.WarmedH U.vm → w.before a' U = true) (hcode : Cond.codeWith y bytes maxL ret hh ∈ ws) (hinit : ∀ a' U, s.WarmedH U.vm → (Cond.initialized y.cls).before a' U = true) :
    vx_Back l R p e below s sargs y len W9 (PreOf R mc ms Pc) (PostOf Qc mc ms free) (vx_Post XC mc ms free) := by
  intro m meth c A g ig mk a X hg hsize hdg hW hn hp
  have h1 : (headSpec ws rm).pre.before a A.U = true := atoms_intro fun w hw => hws w hw _ _ X.warmed
  have h2 : (Cond.codeWith y bytes maxL ret hh).before a A.U = true := hws _ hcode _ _ X.warmed
  have h3 : (Cond.initialized y.cls).before a A.U = true := hinit _ _ X.warmed
  have h4 : A.cells + (headSpec ws rm).room.cells ≤ R.cells := by rw [show (headSpec ws rm).room.cells = mc from hrc]; exact hp.1
  have h5 : A.slots + (headSpec ws rm).room.slots ≤ R.slots := by rw [show (headSpec ws rm).room.slots = ms from hrs]; exact hp.2.1
  have hPc : Pc a (A.U.calling g mk a) := hblind _ _ _ _ hp.2.2
  obtain ⟨U, Ls, c0, s0⟩ := A
  dsimp only [Pt.U, Pt.locs, Pt.cells, Pt.slots] at h1 h2 h3 h4 h5 X hn hPc ⊢
  obtain ⟨m9, methY, cY, hn9, hmY, hcY, -, hlY, -⟩ := Cond.codeWith_spec h2
  cases Option.some.inj (hn9.symm.trans hn)
  obtain ⟨kY, hkY, -⟩ := className_of_methodNamed hn
  have hinitY : kY.init = .initialized := Cond.initialized_spec (findClass_of_methodNamed hn) hkY h3
  have h : At U g.method c below := by rw [hg]; exact X.here
  have hlocals9 : W9 + (maxL + 11) + (headSpec ws rm).room.locals ≤ R.locals := hlocals
  have happ : (headSpec ws rm).appliesLoose y e.platform (U.calling g mk a) = true :=
    Spec.appliesLoose_calling (g := g) h hdg hn hkY hinitY
      (X.room_calling (g := g) (R' := (headSpec ws rm).room) hsize hmY hcY hframes (by rw [hlY]; omega) h4 h5) h1
  obtain ⟨mid, hmid⟩ := h.above
  have hfr : (U.setTop g).frames = (.java g :: mid) ++ below := by rw [State.frames_setTop' g h.top, hmid]; rfl
  obtain ⟨o, s₂, hsteps, -, hend, hq⟩ := Steps.callFree hM p X.admits X.cas X.clock (acts := []) hfr happ hPc trivial
  have hq' : vx_Q Qc XC mc ms free a (U.calling g mk a) o s₂ := hq
  rw [State.frames_setTop' g h.top] at hend
  obtain ⟨g₀, hg0⟩ := Option.isSome_iff_exists.mp h.top
  obtain ⟨r, hr⟩ := State.topJava?_eq_some.mp hg0
  have hr' : (({ U with heap := s₂.heap, slotsUsed := s₂.slotsUsed } : State).setVm s₂.vm).frames = .java g₀ :: r := hr
  rcases hq' with ⟨hqc, L, hfe, hL⟩ | ⟨q, rfl, E, ce, L, hx, hce, hcv, hcl, hW₂, hsm, hL⟩
  · obtain ⟨⟨v, rfl⟩, hW₂, e2, q2, q3, q4, q5, q6⟩ := id hfe
    have e3 : s₂ = ({ (U.calling g mk a).setFrames s₂.frames with heap := s₂.heap, slotsUsed := s₂.slotsUsed } : State).setVm s₂.vm := by
      have : s₂ = ({ s₂ with vm := (U.calling g mk a).vm } : State).setVm s₂.vm := rfl
      rw [e2] at this
      exact this
    obtain ⟨c₂, i₂, len₂, hc₂, hd₂, hf₂⟩ := hend
    have hW' : U.WarmedH s₂.vm := hW₂
    have hcc : c₂ = c := by
      have h1 : s₂.code? g.method = U.code? g.method := by
        rw [State.code?_eq, State.code?_eq, hW'.alike.method?]
      exact Option.some.inj (hc₂.symm.trans (h1.trans h.code))
    subst hcc
    have hlen : len₂ = len := by rw [hdg] at hd₂; cases hd₂; rfl
    subst hlen
    have hs₂ : s₂ = (({ U with heap := s₂.heap, slotsUsed := s₂.slotsUsed } : State).setVm s₂.vm).setTop { g with pc := g.pc + len₂, stack := v.toList ++ g.stack } := by
      refine e3.trans ?_
      rw [hf₂, State.calling_eq h.top, State.setFrames_setFrames, State.setTop_of_frames _ hr', hr]
      rfl
    have hsame : U.sameButNew ({ U with heap := s₂.heap, slotsUsed := s₂.slotsUsed } : State) L mc ms := by
      refine ⟨?_, q2, q3, q4, q5, q6⟩
      obtain ⟨t, ht, -⟩ := State.frames_cons hr
      show ({ U with heap := s₂.heap, slotsUsed := s₂.slotsUsed } : State) = { U.setFrames U.frames with heap := s₂.heap, slotsUsed := s₂.slotsUsed }
      rw [State.setFrames_self ht]
    subst hg
    refine Or.inl ⟨v, ⟨(({ U with heap := s₂.heap, slotsUsed := s₂.slotsUsed } : State).setVm s₂.vm), Ls ++ L, c0 + mc, s0 + ms⟩,
      ⟨X.admits, X.cas, X.clock, X.frames, X.room, X.hears, X.method, X.code, (X.here.setHeapUsed s₂.heap s₂.slotsUsed).setVm hW'.alike, X.tail, State.WarmedH.trans X.warmed hW', X.limits, X.bytes, X.same.trans (hsame.setVm s.vm)⟩,
      ⟨g, mk, s₂, L, rfl, rfl, hqc, rfl, hL, rfl, rfl⟩, ?_⟩
    show Steps p.tables e below _ ((({ U with heap := s₂.heap, slotsUsed := s₂.slotsUsed } : State).setVm s₂.vm).setTop { g with pc := g.pc + len₂, stack := v.toList ++ g.stack })
    rw [← hs₂]
    exact hsteps
  · obtain ⟨e2, q2, q3, q4, q5, q6⟩ := id hsm
    have e3 : s₂ = ({ (U.calling g mk a).setFrames s₂.frames with heap := s₂.heap, slotsUsed := s₂.slotsUsed } : State).setVm s₂.vm := by
      have : s₂ = ({ s₂ with vm := (U.calling g mk a).vm } : State).setVm s₂.vm := rfl
      rw [e2] at this
      exact this
    have hf₂ : s₂.frames = .throwing q :: .java g :: U.frames.tail := hend
    have hW' : U.WarmedH s₂.vm := hW₂
    have hs₂ : s₂ = ((({ U with heap := s₂.heap, slotsUsed := s₂.slotsUsed } : State).setVm s₂.vm).setTop g).pushFrame (.throwing q) := by
      refine e3.trans ?_
      rw [hf₂, State.calling_eq h.top, State.setFrames_setFrames, State.pushFrame, State.frames_setTop _ hr', State.setTop_of_frames _ hr', State.setFrames_setFrames, hr]
      rfl
    have hsame : U.sameButNew ({ U with heap := s₂.heap, slotsUsed := s₂.slotsUsed } : State) L mc ms := by
      refine ⟨?_, q2, q3, q4, q5, q6⟩
      obtain ⟨t, ht, -⟩ := State.frames_cons hr
      show ({ U with heap := s₂.heap, slotsUsed := s₂.slotsUsed } : State) = { U.setFrames U.frames with heap := s₂.heap, slotsUsed := s₂.slotsUsed }
      rw [State.setFrames_self ht]
    subst hg
    refine Or.inr ⟨q, ⟨(({ U with heap := s₂.heap, slotsUsed := s₂.slotsUsed } : State).setVm s₂.vm), Ls ++ L, c0 + mc, s0 + ms⟩,
      ⟨X.admits, X.cas, X.clock, X.frames, X.room, X.hears, X.method, X.code, (X.here.setHeapUsed s₂.heap s₂.slotsUsed).setVm hW'.alike, X.tail, State.WarmedH.trans X.warmed hW', X.limits, X.bytes, X.same.trans (hsame.setVm s.vm)⟩,
      ⟨g, mk, s₂, L, E, ce, rfl, rfl, hx, hce, hcv, hcl, rfl, hL, rfl, rfl⟩, ?_⟩
    show Steps p.tables e below _ (((({ U with heap := s₂.heap, slotsUsed := s₂.slotsUsed } : State).setVm s₂.vm).setTop g).pushFrame (.throwing q))
    rw [← hs₂]
    exact hsteps
end
variable {p : Program} {l : Launch} {e : Env} {R : Room} {s : State} {m : MethodId} {args : Array Value} {below : List Frame} {meth : Method} {c : Code} {T : State} {H : Heap} {locs : List Loc} {cells slots : Nat}
theorem vx_callVX (X : Stand p l e R s m args below meth c T locs cells slots) (hexec : p.tables.exec = Jvm.exec) {own C : String} {index : Nat} {y : MethodName} {bytes : ByteArray} {maxL : Nat} {ret : Option FieldType} {hh : List (Nat × Nat × Nat × Nat)}
    (hown : s.vm.findClass own = some m.cls) (hlink : (Cond.methodLink own index y).before args s = true) (hinst : (Cond.instanceMethod y).before args s = true) (hsel : (Cond.selects C y y).before args s = true)
    (hcode : (Cond.codeWith y bytes maxL ret hh).before args s = true) (hy : y.cls ≠ "java/lang/invoke/MethodHandle" ∧ y.cls ≠ "java/lang/invoke/VarHandle")
    {W9 : Nat} {Pre : Pt → Array Value → Prop} {Post : Pt → Array Value → Option Value → Pt → Prop} {PostX : Pt → Array Value → Addr → Pt → Prop} (hK : vx_Back l R p e below s args y 3 W9 Pre Post PostX)
    {b : Addr} {cellB : Cell} (hcell : T.heap[b]? = some cellB) (hobj : cellB.vm.isStatics = false) (hcls : s.vm.findClass C = some cellB.cls)
    {g : JFrame} (hg : g.method = m) (hsize : g.locals.size = c.maxLocals) {argsL rest : List Value} (hlen : ∀ sig, parseMethodDescriptor y.desc = some sig → argsL.length = sig.parameters.length)
    (hstack : g.stack = argsL.reverse ++ .ref b :: rest) (hW : 2 * g.monitorRoom + (rest.map fun v => v.category).sum ≤ W9) (hdg : decode c.code g.pc = .ok (.invokevirtual index, 3))
    (hpre : ∀ vm₁, s.WarmedH vm₁ → Pre ⟨T.setVm vm₁, locs, cells, slots⟩ (Value.ref b :: argsL).toArray) :
    (∃ (v : Option Value) (vm₁ : Vm) (B : Pt), s.WarmedH vm₁ ∧ Stand p l e R s m args below meth c B.U B.locs B.cells B.slots ∧ Post ⟨T.setVm vm₁, locs, cells, slots⟩ (Value.ref b :: argsL).toArray v B ∧
      ∀ target, Steps p.tables e below (B.U.setTop { g with pc := g.pc + 3, stack := v.toList ++ rest }) target → Steps p.tables e below (T.setTop g) target) ∨
    (∃ (q : Addr) (vm₁ : Vm) (B : Pt), s.WarmedH vm₁ ∧ Stand p l e R s m args below meth c B.U B.locs B.cells B.slots ∧ PostX ⟨T.setVm vm₁, locs, cells, slots⟩ (Value.ref b :: argsL).toArray q B ∧
      Steps p.tables e below (T.setTop g) ((B.U.setTop { g with stack := rest }).pushFrame (.throwing q))) := by
  obtain ⟨mk, methM, hnamed, hmethM, hstM, habM⟩ := Cond.instanceMethod_spec hinst
  obtain ⟨m8, methM', cM, hn8, hmethM', -, -, -, -, -, -, hsigM⟩ := Cond.codeWith_spec hcode
  cases Option.some.inj (hn8.symm.trans hnamed)
  cases hmethM.symm.trans hmethM'
  obtain ⟨c2, r2, m2, q1, q2, q3, q4, kP, hkP, hkPi⟩ := Cond.selects_spec hsel
  cases hcls.symm.trans q1
  cases (State.methodFound?_of_named hnamed hy).symm.trans q2
  cases hnamed.symm.trans q3
  have hselP : selectMethod e.platform s.vm cellB.cls mk = .method mk := by rw [Launch.admits_selectMethod X.admits]; exact q4
  obtain ⟨vm₁, X₁, hstep₁⟩ := X.invokevirtual hexec hown hlink hnamed hmethM hstM hkP hkPi hy (a := b) (cell := cellB) hcell
    (fun z h => by rw [h] at hobj; cases hobj) hselP hmethM habM hkP hkPi (g := g) hg (argsL := argsL) (rest := rest) (hlen _ hsigM) hstack hdg
  rcases hK m meth c ⟨T.setVm vm₁, locs, cells, slots⟩ { g with stack := rest } (.invokevirtual index) mk (Value.ref b :: argsL).toArray X₁ hg hsize hdg hW (X₁.named hnamed) (hpre vm₁ X₁.warmed) with ⟨v, B, X', hpost, hsteps⟩ | ⟨q, B, X', hpost, hsteps⟩
  · exact Or.inl ⟨v, vm₁, B, X₁.warmed, X', hpost, fun target h => hstep₁ _ fun acts => by rw [doInvoke_state]; exact hsteps.trans h⟩
  · exact Or.inr ⟨q, vm₁, B, X₁.warmed, X', hpost, hstep₁ _ fun acts => by rw [doInvoke_state]; exact hsteps⟩
theorem vx_callSX (X : Stand p l e R s m args below meth c T locs cells slots) (hexec : p.tables.exec = Jvm.exec) {own : String} {index : Nat} {y : MethodName} {bytes : ByteArray} {maxL : Nat} {ret : Option FieldType} {hh : List (Nat × Nat × Nat × Nat)}
    (hown : s.vm.findClass own = some m.cls) (hlink : (Cond.methodLink own index y).before args s = true) (hstat : (Cond.static y).before args s = true) (hinit : (Cond.initialized y.cls).before args s = true)
    (hcode : (Cond.codeWith y bytes maxL ret hh).before args s = true) (hy : y.cls ≠ "java/lang/invoke/MethodHandle" ∧ y.cls ≠ "java/lang/invoke/VarHandle")
    {W9 : Nat} {Pre : Pt → Array Value → Prop} {Post : Pt → Array Value → Option Value → Pt → Prop} {PostX : Pt → Array Value → Addr → Pt → Prop} (hK : vx_Back l R p e below s args y 3 W9 Pre Post PostX)
    {g : JFrame} (hg : g.method = m) (hsize : g.locals.size = c.maxLocals) {argsL rest : List Value} (hlen : ∀ sig, parseMethodDescriptor y.desc = some sig → argsL.length = sig.parameters.length)
    (hstack : g.stack = argsL.reverse ++ rest) (hW : 2 * g.monitorRoom + (rest.map fun v => v.category).sum ≤ W9) (hdg : decode c.code g.pc = .ok (.invokestatic index, 3))
    (hpre : ∀ vm₁, s.WarmedH vm₁ → Pre ⟨T.setVm vm₁, locs, cells, slots⟩ argsL.toArray) :
    (∃ (v : Option Value) (vm₁ : Vm) (B : Pt), s.WarmedH vm₁ ∧ Stand p l e R s m args below meth c B.U B.locs B.cells B.slots ∧ Post ⟨T.setVm vm₁, locs, cells, slots⟩ argsL.toArray v B ∧
      ∀ target, Steps p.tables e below (B.U.setTop { g with pc := g.pc + 3, stack := v.toList ++ rest }) target → Steps p.tables e below (T.setTop g) target) ∨
    (∃ (q : Addr) (vm₁ : Vm) (B : Pt), s.WarmedH vm₁ ∧ Stand p l e R s m args below meth c B.U B.locs B.cells B.slots ∧ PostX ⟨T.setVm vm₁, locs, cells, slots⟩ argsL.toArray q B ∧
      Steps p.tables e below (T.setTop g) ((B.U.setTop { g with stack := rest }).pushFrame (.throwing q))) := by
  obtain ⟨mk, methM, cM, hnamed, hmethM, -, -, -, -, -, -, hsigM⟩ := Cond.codeWith_spec hcode
  have hstatic : methM.isStatic = true := Cond.static_spec hnamed hmethM hstat
  obtain ⟨kP, hkP, -⟩ := className_of_methodNamed hnamed
  have hinitP : kP.init = .initialized := Cond.initialized_spec (findClass_of_methodNamed hnamed) hkP hinit
  obtain ⟨vm₁, X₁, hstep₁⟩ := X.invokestatic hexec hown hlink hnamed hmethM hstatic hkP hinitP hy (g := g) hg (argsL := argsL) (rest := rest) (hlen _ hsigM) hstack hdg
  rcases hK m meth c ⟨T.setVm vm₁, locs, cells, slots⟩ { g with stack := rest } (.invokestatic index) mk argsL.toArray X₁ hg hsize hdg hW (X₁.named hnamed) (hpre vm₁ X₁.warmed) with ⟨v, B, X', hpost, hsteps⟩ | ⟨q, B, X', hpost, hsteps⟩
  · exact Or.inl ⟨v, vm₁, B, X₁.warmed, X', hpost, fun target h => hstep₁ _ fun acts => by rw [doInvoke_state]; exact hsteps.trans h⟩
  · exact Or.inr ⟨q, vm₁, B, X₁.warmed, X', hpost, hstep₁ _ fun acts => by rw [doInvoke_state]; exact hsteps⟩
theorem vx_callVW (X : Stand p l e R s m args below meth c T locs cells slots) (hexec : p.tables.exec = Jvm.exec) {own C : String} {index : Nat} {y : MethodName} {bytes : ByteArray} {maxL : Nat} {ret : Option FieldType} {hh : List (Nat × Nat × Nat × Nat)}
    (hown : s.vm.findClass own = some m.cls) (hlink : (Cond.methodLink own index y).before args s = true) (hinst : (Cond.instanceMethod y).before args s = true) (hsel : (Cond.selects C y y).before args s = true)
    (hcode : (Cond.codeWith y bytes maxL ret hh).before args s = true) (hy : y.cls ≠ "java/lang/invoke/MethodHandle" ∧ y.cls ≠ "java/lang/invoke/VarHandle")
    {W9 : Nat} {Pre : Pt → Array Value → Prop} {Post : Pt → Array Value → Option Value → Pt → Prop} (hK : Back l R p e below s args y 3 W9 Pre Post)
    {b : Addr} {cellB : Cell} (hcell : T.heap[b]? = some cellB) (hobj : cellB.vm.isStatics = false) (hcls : s.vm.findClass C = some cellB.cls)
    {g : JFrame} (hg : g.method = m) (hsize : g.locals.size = c.maxLocals) {argsL rest : List Value} (hlen : ∀ sig, parseMethodDescriptor y.desc = some sig → argsL.length = sig.parameters.length)
    (hstack : g.stack = argsL.reverse ++ .ref b :: rest) (hW : 2 * g.monitorRoom + (rest.map fun v => v.category).sum ≤ W9) (hdg : decode c.code g.pc = .ok (.invokevirtual index, 3))
    (hpre : ∀ vm₁, s.WarmedH vm₁ → Pre ⟨T.setVm vm₁, locs, cells, slots⟩ (Value.ref b :: argsL).toArray) :
    ∃ (v : Option Value) (vm₁ : Vm) (B : Pt), s.WarmedH vm₁ ∧ Stand p l e R s m args below meth c B.U B.locs B.cells B.slots ∧ Post ⟨T.setVm vm₁, locs, cells, slots⟩ (Value.ref b :: argsL).toArray v B ∧
      ∀ target, Steps p.tables e below (B.U.setTop { g with pc := g.pc + 3, stack := v.toList ++ rest }) target → Steps p.tables e below (T.setTop g) target := by
  obtain ⟨mk, methM, hnamed, hmethM, hstM, habM⟩ := Cond.instanceMethod_spec hinst
  obtain ⟨m8, methM', cM, hn8, hmethM', -, -, -, -, -, -, hsigM⟩ := Cond.codeWith_spec hcode
  cases Option.some.inj (hn8.symm.trans hnamed)
  cases hmethM.symm.trans hmethM'
  obtain ⟨c2, r2, m2, q1, q2, q3, q4, kP, hkP, hkPi⟩ := Cond.selects_spec hsel
  cases hcls.symm.trans q1
  cases (State.methodFound?_of_named hnamed hy).symm.trans q2
  cases hnamed.symm.trans q3
  have hselP : selectMethod e.platform s.vm cellB.cls mk = .method mk := by rw [Launch.admits_selectMethod X.admits]; exact q4
  obtain ⟨vm₁, X₁, hstep₁⟩ := X.invokevirtual hexec hown hlink hnamed hmethM hstM hkP hkPi hy (a := b) (cell := cellB) hcell
    (fun z h => by rw [h] at hobj; cases hobj) hselP hmethM habM hkP hkPi (g := g) hg (argsL := argsL) (rest := rest) (hlen _ hsigM) hstack hdg
  obtain ⟨v, B, X', hpost, hsteps⟩ := hK m meth c ⟨T.setVm vm₁, locs, cells, slots⟩ { g with stack := rest } (.invokevirtual index) mk (Value.ref b :: argsL).toArray X₁ hg hsize hdg hW (X₁.named hnamed) (hpre vm₁ X₁.warmed)
  exact ⟨v, vm₁, B, X₁.warmed, X', hpost, fun target h => hstep₁ _ fun acts => by rw [doInvoke_state]; exact hsteps.trans h⟩
abbrev vx_CVW (R : Room) (s : State) (args : Array Value) (own C : String) (index : Nat) (y : MethodName) (bytes : ByteArray) (maxL : Nat) (ret : Option FieldType) (hh : List (Nat × Nat × Nat × Nat)) (ws : List Cond) (rm : Room) (mc ms n : Nat) : Prop :=
  (rm.cells = mc ∧ rm.slots = ms ∧ rm.frames + 1 ≤ R.frames ∧ 8 + (maxL + 11) + rm.locals ≤ R.locals ∧ (∀ w ∈ ws, ∀ (a' : Array Value) (U : State), s.WarmedH U.vm → w.before a' U = true) ∧ Cond.codeWith y bytes maxL ret hh ∈ ws) ∧
  (Cond.codeWith y bytes maxL ret hh).before args s = true ∧ (Cond.initialized y.cls).before args s = true ∧ (y.cls ≠ "java/lang/invoke/MethodHandle" ∧ y.cls ≠ "java/lang/invoke/VarHandle") ∧
  (∀ sig, parseMethodDescriptor y.desc = some sig → n = sig.parameters.length) ∧ (Cond.methodLink own index y).before args s = true ∧ (Cond.instanceMethod y).before args s = true ∧ (Cond.selects C y y).before args s = true
theorem vx_cwVW {own C : String} {index maxL mc ms : Nat} {y : MethodName} {bytes : ByteArray} {ret : Option FieldType} {hh : List (Nat × Nat × Nat × Nat)} {Ts ws ws' : List Cond} {rm : Room} (n : Nat) (ht : ∀ w ∈ Ts, w.before args s = true) (hT : GoodIn Ts (wsV own index C y ws)) (hw : ws = Cond.codeWith y bytes maxL ret hh :: ws') (hrc : rm.cells = mc) (hrs : rm.slots = ms)
    (hd : y.cls = C ∧ y.cls ≠ "java/lang/invoke/MethodHandle" ∧ y.cls ≠ "java/lang/invoke/VarHandle" ∧ (parseMethodDescriptor y.desc).map (fun d => d.parameters.length) = some n) (hR : rm.frames + 1 ≤ R.frames ∧ 8 + (maxL + 11) + rm.locals ≤ R.locals) :
    vx_CVW R s args own C index y bytes maxL ret hh ws rm mc ms n := by
  obtain ⟨hC, hd⟩ := hd
  subst hC
  have ok : ∀ w ∈ wsV own index y.cls y ws, w.before args s = true := fun w h => ht w (hT w h).1
  have hG : GoodIn Ts ws := fun w h => hT w (by unfold wsV; exact List.mem_append_right _ h)
  have hc : Cond.codeWith y bytes maxL ret hh ∈ ws := by rw [hw]; exact List.mem_cons_self
  refine ⟨⟨hrc, hrs, hR.1, hR.2, pay_in ht hG, hc⟩, ht _ (hG _ hc).1, ok _ (by simp [wsV]), ⟨hd.1, hd.2.1⟩, fun sig h => ?_, ok _ (by simp [wsV]), ok _ (by simp [wsV]), ok _ (by simp [wsV])⟩
  have h2 := hd.2.2
  rw [h] at h2
  exact (Option.some.inj h2).symm
theorem vx_runVW {y : MethodName} {bytes cc : ByteArray} {maxL nL mc ms n index : Nat} {ret : Option FieldType} {hh : List (Nat × Nat × Nat × Nat)} {ws : List Cond} {rm : Room} {Pc : Array Value → State → Prop} {Qc : Array Value → State → Outcome → State → Prop} {free : Addr → Prop} {Ts : List Cond} {own C : String} {b : Addr} {As rest : List Value} {g : JFrame}
    (S : CallFix p m c cc nL s args Ts own) (hM : Met l y ws rm Pc Qc mc ms free) (cw : vx_CVW R s args own C index y bytes maxL ret hh ws rm mc ms n) (hp : PreV s H C b Pc As)
    (hg : g.method = m) (hn : As.length = n) (hsize : g.locals.size = nL) (hstack : g.stack = As.reverse ++ .ref b :: rest) (hW : 2 * g.monitorRoom + (rest.map fun v => v.category).sum ≤ 8) (hdg : decode cc g.pc = .ok (.invokevirtual index, 3)) (hf : cells + mc ≤ R.cells ∧ slots + ms ≤ R.slots) :
    va_Run p l e R s m args below meth c H locs cells slots mc ms g rest (Qc (Value.ref b :: As).toArray) free := by
  obtain ⟨⟨hrc, hrs, hfr, hlo, hws, hcw⟩, hcode, hini, hy, hlen, hl, hin, hse⟩ := cw
  have hK : Back l R p e below s args y 3 8 (PreOf R mc ms Pc) (PostOf Qc mc ms free) := va_backW (hh := hh) (bytes := bytes) (maxL := maxL) (ret := ret) hM hp.1 hrc hrs hfr hlo hws hcw (fun a' U hW => word_at hW (Or.inl (by first | rfl | simp [Cond.onTables, Cond.keeps, Cond.steady])) hini)
  obtain ⟨hx, hb, hml, ho, -⟩ := S
  obtain ⟨-, ⟨cellB, hcB, hoB, hclB⟩, hPc⟩ := hp
  intro T hT X
  obtain ⟨v, vm₁, ⟨U', l2, c2, s2⟩, hW₁, X', ⟨g', mk, t, L, e1, e2, hq, h1, hL, h2, h3⟩, st⟩ := vx_callVW X hx (C := C) (hh := hh) (bytes := bytes) (maxL := maxL) (ret := ret) ho hl hin hse hcode hy hK (by rw [hT]; exact hcB) hoB hclB hg (hsize.trans hml.symm) (argsL := As) (rest := rest) (fun sig h => hn.trans (hlen sig h)) hstack hW (by rw [hb]; exact hdg)
    (fun vm₁ hW₁ => ⟨hf.1, hf.2, hPc (T.setVm vm₁) hT hW₁⟩)
  dsimp only [Pt.U, Pt.locs, Pt.cells, Pt.slots] at X' e1 e2 h1 h2 h3 st
  subst h1; subst h2; subst h3
  exact ⟨v, (T.setVm vm₁).calling g' mk (Value.ref b :: As).toArray, t, U', L, hT, X', hL, e1, e2, hq, st⟩
section
variable {y : MethodName} {bytes cc : ByteArray} {maxL nL mc ms n index : Nat} {ret : Option FieldType} {ws : List Cond} {rm : Room} {Pc : Array Value → State → Prop} {Qc : Array Value → State → Outcome → State → Prop} {XC : String → State → State → Prop} {free : Addr → Prop} {Ts : List Cond} {own C : String} {b : Addr} {As rest : List Value} {g : JFrame}
theorem vx_runVX {hh : List (Nat × Nat × Nat × Nat)} (S : CallFix p m c cc nL s args Ts own) (hM : vx_Met l y ws rm Pc Qc XC mc ms free) (cw : vx_CVW R s args own C index y bytes maxL ret hh ws rm mc ms n) (hp : PreV s H C b Pc As)
    (hg : g.method = m) (hn : As.length = n) (hsize : g.locals.size = nL) (hstack : g.stack = As.reverse ++ .ref b :: rest) (hW : 2 * g.monitorRoom + (rest.map fun v => v.category).sum ≤ 8) (hdg : decode cc g.pc = .ok (.invokevirtual index, 3)) (hf : cells + mc ≤ R.cells ∧ slots + ms ≤ R.slots) :
    vx_Run p l e R s m args below meth c H locs cells slots mc ms g rest (Qc (Value.ref b :: As).toArray) XC free := by
  obtain ⟨⟨hrc, hrs, hfr, hlo, hws, hcw⟩, hcode, hini, hy, hlen, hl, hin, hse⟩ := cw
  have hK : vx_Back l R p e below s args y 3 8 (PreOf R mc ms Pc) (PostOf Qc mc ms free) (vx_Post XC mc ms free) := vx_backW (hh := hh) (bytes := bytes) (maxL := maxL) (ret := ret) hM hp.1 hrc hrs hfr hlo hws hcw (fun a' U hW => word_at hW (Or.inl (by first | rfl | simp [Cond.onTables, Cond.keeps, Cond.steady])) hini)
  obtain ⟨hx, hb, hml, ho, -⟩ := S
  obtain ⟨-, ⟨cellB, hcB, hoB, hclB⟩, hPc⟩ := hp
  intro T hT X
  rcases vx_callVX X hx (C := C) (hh := hh) (bytes := bytes) (maxL := maxL) (ret := ret) ho hl hin hse hcode hy hK (by rw [hT]; exact hcB) hoB hclB hg (hsize.trans hml.symm) (argsL := As) (rest := rest) (fun sig h => hn.trans (hlen sig h)) hstack hW (by rw [hb]; exact hdg)
    (fun vm₁ hW₁ => ⟨hf.1, hf.2, hPc (T.setVm vm₁) hT hW₁⟩) with ⟨v, vm₁, ⟨U', l2, c2, s2⟩, hW₁, X', ⟨g', mk, t, L, e1, e2, hq, h1, hL, h2, h3⟩, st⟩ | ⟨q, vm₁, ⟨U', l2, c2, s2⟩, hW₁, X', ⟨g', mk, t, L, E, ce, e1, e2, hq, hce, hcv, hcl, h1, hL, h2, h3⟩, st⟩
  · dsimp only [Pt.U, Pt.locs, Pt.cells, Pt.slots] at X' e1 e2 h1 h2 h3 st
    subst h1; subst h2; subst h3
    exact Or.inl ⟨v, (T.setVm vm₁).calling g' mk (Value.ref b :: As).toArray, t, U', L, hT, X', hL, e1, e2, hq, st⟩
  · dsimp only [Pt.U, Pt.locs, Pt.cells, Pt.slots] at X' e1 e2 h1 h2 h3 st hcl
    subst h1; subst h2; subst h3
    exact Or.inr ⟨q, (T.setVm vm₁).calling g' mk (Value.ref b :: As).toArray, t, U', L, E, ce, hT, X', hL, e1, e2, hq, hce, hcv, vx_cls hW₁ hcl, st⟩
theorem vx_runSX {hh : List (Nat × Nat × Nat × Nat)} (S : CallFix p m c cc nL s args Ts own) (hM : vx_Met l y ws rm Pc Qc XC mc ms free) (cw : vx_CSW R s args own index y bytes maxL ret hh ws rm mc ms n) (hp : PreS s H Pc As)
    (hg : g.method = m) (hn : As.length = n) (hsize : g.locals.size = nL) (hstack : g.stack = As.reverse ++ rest) (hW : 2 * g.monitorRoom + (rest.map fun v => v.category).sum ≤ 8) (hdg : decode cc g.pc = .ok (.invokestatic index, 3)) (hf : cells + mc ≤ R.cells ∧ slots + ms ≤ R.slots) :
    vx_Run p l e R s m args below meth c H locs cells slots mc ms g rest (Qc As.toArray) XC free := by
  obtain ⟨⟨hrc, hrs, hfr, hlo, hws, hcw⟩, hcode, hini, hy, hlen, hl, hstt⟩ := cw
  have hK : vx_Back l R p e below s args y 3 8 (PreOf R mc ms Pc) (PostOf Qc mc ms free) (vx_Post XC mc ms free) := vx_backW (hh := hh) (bytes := bytes) (maxL := maxL) (ret := ret) hM hp.1 hrc hrs hfr hlo hws hcw (fun a' U hW => word_at hW (Or.inl (by first | rfl | simp [Cond.onTables, Cond.keeps, Cond.steady])) hini)
  obtain ⟨hx, hb, hml, ho, -⟩ := S
  intro T hT X
  rcases vx_callSX X hx (hh := hh) (bytes := bytes) (maxL := maxL) (ret := ret) ho hl hstt hini hcode hy hK hg (hsize.trans hml.symm) (argsL := As) (rest := rest) (fun sig h => hn.trans (hlen sig h)) hstack hW (by rw [hb]; exact hdg)
    (fun vm₁ hW₁ => ⟨hf.1, hf.2, hp.2 (T.setVm vm₁) hT hW₁⟩) with ⟨v, vm₁, ⟨U', l2, c2, s2⟩, hW₁, X', ⟨g', mk, t, L, e1, e2, hq, h1, hL, h2, h3⟩, st⟩ | ⟨q, vm₁, ⟨U', l2, c2, s2⟩, hW₁, X', ⟨g', mk, t, L, E, ce, e1, e2, hq, hce, hcv, hcl, h1, hL, h2, h3⟩, st⟩
  · dsimp only [Pt.U, Pt.locs, Pt.cells, Pt.slots] at X' e1 e2 h1 h2 h3 st
    subst h1; subst h2; subst h3
    exact Or.inl ⟨v, (T.setVm vm₁).calling g' mk As.toArray, t, U', L, hT, X', hL, e1, e2, hq, st⟩
  · dsimp only [Pt.U, Pt.locs, Pt.cells, Pt.slots] at X' e1 e2 h1 h2 h3 st hcl
    subst h1; subst h2; subst h3
    exact Or.inr ⟨q, (T.setVm vm₁).calling g' mk As.toArray, t, U', L, E, ce, hT, X', hL, e1, e2, hq, hce, hcv, vx_cls hW₁ hcl, st⟩
end
end VXH
theorem vx_ofWH {l : Launch} {y : MethodName} {ws ws' : List Cond} {rm : Room} {Pc : Array Value → State → Prop} {Qc : Array Value → State → Outcome → State → Prop} {XC : String → State → State → Prop} {mc ms : Nat} {free : Addr → Prop} {cc : ByteArray} {maxL : Nat} {ret : Option FieldType} {hh : List (Nat × Nat × Nat × Nat)}
    (hy : plainName y.cls = true) (hw : ws = Cond.codeWith y cc maxL ret hh :: ws')
    (body : ∀ p e s m args below meth c s₁, BodyLoose p l y (headSpec ws rm) cc maxL ret e s m args below meth c s₁ → c.maxLocals = maxL → Pc args s →
      W p l e (headSpec ws rm).room s m args below meth c s.heap [] 0 0 (vx_MQ below Qc XC args s mc ms free) (entryFrame m args maxL)) : vx_Met l y ws rm Pc Qc XC mc ms free := by
  refine MetFree.of_bodyS (code := cc) (maxLocals := maxL) (ret := ret) hy ?_ ?_
  · intro args s m h hn
    obtain ⟨m9, meth, c, hn9, h1, h2, h3, h4, -, h5, h6, -⟩ := Cond.codeWith_spec (atoms_spec (ws := ws) h _ (by rw [hw]; exact List.mem_cons_self))
    cases hn.symm.trans hn9
    exact ⟨meth, c, h1, h2, h3, h4, h5, h6⟩
  · intro p e s m args below meth c s₁ B hml hP _
    have hh0 : s₁.heap = s.heap := by rw [B.state]; rfl
    obtain ⟨t, a1, o, b1, b2, b3⟩ := body p e s m args below meth c s₁ B hml hP s₁ hh0 (Stand.of_body B)
    exact ⟨t, o, a1, b1, b2, b3⟩
/-! ===== END ===== -/
end
section
/-! ===== BEGIN printed: names, fields, word lists, decode rows ===== -/
def RX0 : String := "OrielChart$Code"
def TX0 : u_T := fun k => match k with
  | 0 => ("OrielChart$Code", "kind", "[I", true)
  | 1 => ("OrielChart$Code", "target", "[I", true)
  | 2 => ("OrielChart$Code", "sets", "[I", true)
  | 3 => ("OrielChart$Code", "uses", "[I", true)
  | _ => ("OrielChart$Code", "count", "I", false)
def tyX0 : Nat → FieldType := fun k => match k with
  | 0 => .array .int
  | 1 => .array .int
  | 2 => .array .int
  | 3 => .array .int
  | _ => .int
abbrev wsX00 : List Cond := u_ws RX0 TX0 5
theorem nmX0 : ∀ a, a < 5 → ∀ b, b < 5 → a ≠ b → (TX0 a).2.1 ≠ (TX0 b).2.1 := by decide +kernel
theorem tyX0_ok : ∀ k, k < 5 → parseFieldDescriptor (TX0 k).2.2.1 = some (tyX0 k) := by decide +kernel
abbrev cX0_init : ByteArray := prog_2_method_1_code
def yX0_init : MethodName := ⟨RX0, "<init>", "()V"⟩
abbrev cX0_add : ByteArray := prog_2_method_2_code
def yX0_add : MethodName := ⟨RX0, "add", "(III)V"⟩
abbrev cX0_drop : ByteArray := prog_2_method_3_code
def yX0_drop : MethodName := ⟨RX0, "drop", "(I)V"⟩
abbrev cX0_shiftTargets : ByteArray := prog_2_method_4_code
def yX0_shiftTargets : MethodName := ⟨RX0, "shiftTargets", "(II)V"⟩
abbrev cX0_copy : ByteArray := prog_2_method_5_code
def yX0_copy : MethodName := ⟨RX0, "copy", "(II)V"⟩
def RX1 : String := "OrielChart$Flow"
def TX1 : u_T := fun k => match k with
  | 0 => ("OrielChart$Flow", "home", "[I", true)
  | 1 => ("OrielChart$Flow", "first", "[I", true)
  | 2 => ("OrielChart$Flow", "last", "[I", true)
  | 3 => ("OrielChart$Flow", "from", "[I", true)
  | 4 => ("OrielChart$Flow", "to", "[I", true)
  | 5 => ("OrielChart$Flow", "firstEdge", "[I", true)
  | 6 => ("OrielChart$Flow", "next", "[J", true)
  | 7 => ("OrielChart$Flow", "blockCount", "I", false)
  | 8 => ("OrielChart$Flow", "edgeCount", "I", false)
  | 9 => ("OrielChart$Flow", "reached", "J", false)
  | _ => ("OrielChart$Flow", "fresh", "Z", false)
def tyX1 : Nat → FieldType := fun k => match k with
  | 0 => .array .int
  | 1 => .array .int
  | 2 => .array .int
  | 3 => .array .int
  | 4 => .array .int
  | 5 => .array .int
  | 6 => .array .long
  | 7 => .int
  | 8 => .int
  | 9 => .long
  | _ => .boolean
abbrev wsX10 : List Cond := u_ws RX1 TX1 11
theorem nmX1 : ∀ a, a < 11 → ∀ b, b < 11 → a ≠ b → (TX1 a).2.1 ≠ (TX1 b).2.1 := by decide +kernel
theorem tyX1_ok : ∀ k, k < 11 → parseFieldDescriptor (TX1 k).2.2.1 = some (tyX1 k) := by decide +kernel
abbrev cX1_init : ByteArray := prog_3_method_1_code
def yX1_init : MethodName := ⟨RX1, "<init>", "()V"⟩
abbrev cX1_part : ByteArray := prog_3_method_2_code
def yX1_part : MethodName := ⟨RX1, "part", "(LOrielChart$Code;)V"⟩
abbrev cX1_leadersOf : ByteArray := prog_3_method_3_code
def yX1_leadersOf : MethodName := ⟨RX1, "leadersOf", "(LOrielChart$Code;)J"⟩
abbrev cX1_cut : ByteArray := prog_3_method_4_code
def yX1_cut : MethodName := ⟨RX1, "cut", "(IJ)V"⟩
abbrev cX1_leave : ByteArray := prog_3_method_5_code
def yX1_leave : MethodName := ⟨RX1, "leave", "(LOrielChart$Code;I)V"⟩
abbrev cX1_join : ByteArray := prog_3_method_6_code
def yX1_join : MethodName := ⟨RX1, "join", "(III)V"⟩
abbrev cX1_countWindings : ByteArray := prog_3_method_8_code
def yX1_countWindings : MethodName := ⟨RX1, "countWindings", "()I"⟩
def RX2 : String := "OrielChart$Lives"
def TX2 : u_T := fun k => match k with
  | 0 => ("OrielChart$Lives", "live", "[I", true)
  | 1 => ("OrielChart$Lives", "vainCount", "I", false)
  | _ => ("OrielChart$Lives", "fresh", "Z", false)
def tyX2 : Nat → FieldType := fun k => match k with
  | 0 => .array .int
  | 1 => .int
  | _ => .boolean
abbrev wsX20 : List Cond := u_ws RX2 TX2 3
theorem nmX2 : ∀ a, a < 3 → ∀ b, b < 3 → a ≠ b → (TX2 a).2.1 ≠ (TX2 b).2.1 := by decide +kernel
theorem tyX2_ok : ∀ k, k < 3 → parseFieldDescriptor (TX2 k).2.2.1 = some (tyX2 k) := by decide +kernel
abbrev cX2_init : ByteArray := prog_4_method_1_code
def yX2_init : MethodName := ⟨RX2, "<init>", "()V"⟩
abbrev cX2_follow : ByteArray := prog_4_method_2_code
def yX2_follow : MethodName := ⟨RX2, "follow", "(LOrielChart$Code;LOrielChart$Flow;)V"⟩
abbrev cX2_passUp : ByteArray := prog_4_method_3_code
def yX2_passUp : MethodName := ⟨RX2, "passUp", "(LOrielChart$Code;LOrielChart$Flow;)Z"⟩
abbrev cX2_vainIn : ByteArray := prog_4_method_4_code
def yX2_vainIn : MethodName := ⟨RX2, "vainIn", "(LOrielChart$Code;LOrielChart$Flow;I)I"⟩
abbrev cX2_behind : ByteArray := prog_4_method_5_code
def yX2_behind : MethodName := ⟨RX2, "behind", "(LOrielChart$Flow;I)I"⟩
abbrev cX2_ahead : ByteArray := prog_4_method_6_code
def yX2_ahead : MethodName := ⟨RX2, "ahead", "(LOrielChart$Code;II)I"⟩
def RX3 : String := "OrielChart$Picture"
def TX3 : u_T := fun k => match k with
  | 0 => ("OrielChart$Picture", "walk", "LOrielChart$Walk;", true)
  | 1 => ("OrielChart$Picture", "layer", "[I", true)
  | 2 => ("OrielChart$Picture", "start", "[I", true)
  | 3 => ("OrielChart$Picture", "firstBend", "[I", true)
  | 4 => ("OrielChart$Picture", "edgeOf", "[I", true)
  | 5 => ("OrielChart$Picture", "order", "[I", true)
  | 6 => ("OrielChart$Picture", "place", "[I", true)
  | 7 => ("OrielChart$Picture", "kept", "[I", true)
  | 8 => ("OrielChart$Picture", "sum", "[I", true)
  | 9 => ("OrielChart$Picture", "lines", "[I", true)
  | 10 => ("OrielChart$Picture", "above", "[I", true)
  | 11 => ("OrielChart$Picture", "below", "[I", true)
  | 12 => ("OrielChart$Picture", "edgeCount", "I", false)
  | 13 => ("OrielChart$Picture", "layerCount", "I", false)
  | 14 => ("OrielChart$Picture", "sweeps", "I", false)
  | _ => ("OrielChart$Picture", "fresh", "Z", false)
def tyX3 : Nat → FieldType := fun k => match k with
  | 0 => .object "OrielChart$Walk"
  | 1 => .array .int
  | 2 => .array .int
  | 3 => .array .int
  | 4 => .array .int
  | 5 => .array .int
  | 6 => .array .int
  | 7 => .array .int
  | 8 => .array .int
  | 9 => .array .int
  | 10 => .array .int
  | 11 => .array .int
  | 12 => .int
  | 13 => .int
  | 14 => .int
  | _ => .boolean
abbrev wsX30 : List Cond := u_ws RX3 TX3 16
theorem nmX3 : ∀ a, a < 16 → ∀ b, b < 16 → a ≠ b → (TX3 a).2.1 ≠ (TX3 b).2.1 := by decide +kernel
theorem tyX3_ok : ∀ k, k < 16 → parseFieldDescriptor (TX3 k).2.2.1 = some (tyX3 k) := by decide +kernel
abbrev cX3_init : ByteArray := prog_5_method_1_code
def yX3_init : MethodName := ⟨RX3, "<init>", "()V"⟩
abbrev cX3_draw : ByteArray := prog_5_method_2_code
def yX3_draw : MethodName := ⟨RX3, "draw", "(LOrielChart$Flow;)V"⟩
abbrev cX3_setLayers : ByteArray := prog_5_method_3_code
def yX3_setLayers : MethodName := ⟨RX3, "setLayers", "()V"⟩
abbrev cX3_pushDown : ByteArray := prog_5_method_4_code
def yX3_pushDown : MethodName := ⟨RX3, "pushDown", "()Z"⟩
abbrev cX3_top : ByteArray := prog_5_method_5_code
def yX3_top : MethodName := ⟨RX3, "top", "(I)I"⟩
abbrev cX3_bottom : ByteArray := prog_5_method_6_code
def yX3_bottom : MethodName := ⟨RX3, "bottom", "(I)I"⟩
abbrev cX3_numberBends : ByteArray := prog_5_method_7_code
def yX3_numberBends : MethodName := ⟨RX3, "numberBends", "()V"⟩
abbrev cX3_fill : ByteArray := prog_5_method_8_code
def yX3_fill : MethodName := ⟨RX3, "fill", "(II)I"⟩
abbrev cX3_putPoint : ByteArray := prog_5_method_9_code
def yX3_putPoint : MethodName := ⟨RX3, "putPoint", "(III)V"⟩
abbrev cX3_sizeOf : ByteArray := prog_5_method_10_code
def yX3_sizeOf : MethodName := ⟨RX3, "sizeOf", "(I)I"⟩
abbrev cX3_shownAt : ByteArray := prog_5_method_11_code
def yX3_shownAt : MethodName := ⟨RX3, "shownAt", "(II)I"⟩
abbrev cX3_placeOfBlock : ByteArray := prog_5_method_12_code
def yX3_placeOfBlock : MethodName := ⟨RX3, "placeOfBlock", "(I)I"⟩
abbrev cX3_bendCount : ByteArray := prog_5_method_13_code
def yX3_bendCount : MethodName := ⟨RX3, "bendCount", "(I)I"⟩
abbrev cX3_placeOfBend : ByteArray := prog_5_method_14_code
def yX3_placeOfBend : MethodName := ⟨RX3, "placeOfBend", "(II)I"⟩
abbrev cX3_meanSpan : ByteArray := prog_5_method_15_code
def yX3_meanSpan : MethodName := ⟨RX3, "meanSpan", "()D"⟩
abbrev cX3_pointOn : ByteArray := prog_5_method_16_code
def yX3_pointOn : MethodName := ⟨RX3, "pointOn", "(II)I"⟩
abbrev cX3_leaves : ByteArray := prog_5_method_17_code
def yX3_leaves : MethodName := ⟨RX3, "leaves", "(II)Z"⟩
abbrev cX3_countCrossings : ByteArray := prog_5_method_18_code
def yX3_countCrossings : MethodName := ⟨RX3, "countCrossings", "()I"⟩
abbrev cX3_crossingsUnder : ByteArray := prog_5_method_19_code
def yX3_crossingsUnder : MethodName := ⟨RX3, "crossingsUnder", "(I)I"⟩
abbrev cX3_sweepOften : ByteArray := prog_5_method_20_code
def yX3_sweepOften : MethodName := ⟨RX3, "sweepOften", "(I)V"⟩
abbrev cX3_tryOut : ByteArray := prog_5_method_21_code
def yX3_tryOut : MethodName := ⟨RX3, "tryOut", "(I)I"⟩
abbrev cX3_arrange : ByteArray := prog_5_method_22_code
def yX3_arrange : MethodName := ⟨RX3, "arrange", "(II)V"⟩
abbrev cX3_weigh : ByteArray := prog_5_method_23_code
def yX3_weigh : MethodName := ⟨RX3, "weigh", "(III)V"⟩
abbrev cX3_isAhead : ByteArray := prog_5_method_24_code
def yX3_isAhead : MethodName := ⟨RX3, "isAhead", "(II)Z"⟩
def RX4 : String := "OrielChart$Ranks"
def TX4 : u_T := fun k => match k with
  | 0 => ("OrielChart$Ranks", "ruled", "[J", true)
  | 1 => ("OrielChart$Ranks", "loop", "[J", true)
  | 2 => ("OrielChart$Ranks", "previous", "[J", true)
  | 3 => ("OrielChart$Ranks", "onward", "[J", true)
  | 4 => ("OrielChart$Ranks", "loopCount", "I", false)
  | 5 => ("OrielChart$Ranks", "tame", "Z", false)
  | _ => ("OrielChart$Ranks", "fresh", "Z", false)
def tyX4 : Nat → FieldType := fun k => match k with
  | 0 => .array .long
  | 1 => .array .long
  | 2 => .array .long
  | 3 => .array .long
  | 4 => .int
  | 5 => .boolean
  | _ => .boolean
abbrev wsX40 : List Cond := u_ws RX4 TX4 7
theorem nmX4 : ∀ a, a < 7 → ∀ b, b < 7 → a ≠ b → (TX4 a).2.1 ≠ (TX4 b).2.1 := by decide +kernel
theorem tyX4_ok : ∀ k, k < 7 → parseFieldDescriptor (TX4 k).2.2.1 = some (tyX4 k) := by decide +kernel
abbrev cX4_init : ByteArray := prog_6_method_1_code
def yX4_init : MethodName := ⟨RX4, "<init>", "()V"⟩
abbrev cX4_rank : ByteArray := prog_6_method_2_code
def yX4_rank : MethodName := ⟨RX4, "rank", "(LOrielChart$Flow;)V"⟩
abbrev cX4_ruledBy : ByteArray := prog_6_method_3_code
def yX4_ruledBy : MethodName := ⟨RX4, "ruledBy", "(LOrielChart$Flow;I)J"⟩
abbrev cX4_sortEdges : ByteArray := prog_6_method_4_code
def yX4_sortEdges : MethodName := ⟨RX4, "sortEdges", "(LOrielChart$Flow;)V"⟩
abbrev cX4_closeLoop : ByteArray := prog_6_method_5_code
def yX4_closeLoop : MethodName := ⟨RX4, "closeLoop", "(I)V"⟩
abbrev cX4_rules : ByteArray := prog_6_method_6_code
def yX4_rules : MethodName := ⟨RX4, "rules", "(II)Z"⟩
abbrev cX4_nearestAbove : ByteArray := prog_6_method_7_code
def yX4_nearestAbove : MethodName := ⟨RX4, "nearestAbove", "(I)I"⟩
abbrev cX4_goesBack : ByteArray := prog_6_method_8_code
def yX4_goesBack : MethodName := ⟨RX4, "goesBack", "(LOrielChart$Flow;I)Z"⟩
abbrev cX4_loopsAround : ByteArray := prog_6_method_9_code
def yX4_loopsAround : MethodName := ⟨RX4, "loopsAround", "(I)I"⟩
def RX5 : String := "OrielChart$Reduction"
def TX5 : u_T := fun k => match k with
  | 0 => ("OrielChart$Reduction", "next", "[J", true)
  | 1 => ("OrielChart$Reduction", "home", "[I", true)
  | 2 => ("OrielChart$Reduction", "rule", "[I", true)
  | 3 => ("OrielChart$Reduction", "node", "[I", true)
  | 4 => ("OrielChart$Reduction", "entry", "[I", true)
  | 5 => ("OrielChart$Reduction", "nodes", "J", false)
  | 6 => ("OrielChart$Reduction", "stepCount", "I", false)
  | _ => ("OrielChart$Reduction", "fresh", "Z", false)
def tyX5 : Nat → FieldType := fun k => match k with
  | 0 => .array .long
  | 1 => .array .int
  | 2 => .array .int
  | 3 => .array .int
  | 4 => .array .int
  | 5 => .long
  | 6 => .int
  | _ => .boolean
abbrev wsX50 : List Cond := u_ws RX5 TX5 8
theorem nmX5 : ∀ a, a < 8 → ∀ b, b < 8 → a ≠ b → (TX5 a).2.1 ≠ (TX5 b).2.1 := by decide +kernel
theorem tyX5_ok : ∀ k, k < 8 → parseFieldDescriptor (TX5 k).2.2.1 = some (tyX5 k) := by decide +kernel
abbrev cX5_init : ByteArray := prog_7_method_1_code
def yX5_init : MethodName := ⟨RX5, "<init>", "()V"⟩
abbrev cX5_reduce : ByteArray := prog_7_method_2_code
def yX5_reduce : MethodName := ⟨RX5, "reduce", "(LOrielChart$Flow;)V"⟩
abbrev cX5_takeStep : ByteArray := prog_7_method_3_code
def yX5_takeStep : MethodName := ⟨RX5, "takeStep", "()Z"⟩
abbrev cX5_findEntries : ByteArray := prog_7_method_4_code
def yX5_findEntries : MethodName := ⟨RX5, "findEntries", "()V"⟩
abbrev cX5_ruleFor : ByteArray := prog_7_method_5_code
def yX5_ruleFor : MethodName := ⟨RX5, "ruleFor", "(I)I"⟩
abbrev cX5_isSingle : ByteArray := prog_7_method_6_code
def yX5_isSingle : MethodName := ⟨RX5, "isSingle", "(III)Z"⟩
abbrev cX5_isDouble : ByteArray := prog_7_method_7_code
def yX5_isDouble : MethodName := ⟨RX5, "isDouble", "(III)Z"⟩
abbrev cX5_apply : ByteArray := prog_7_method_8_code
def yX5_apply : MethodName := ⟨RX5, "apply", "(II)V"⟩
abbrev cX5_merge : ByteArray := prog_7_method_9_code
def yX5_merge : MethodName := ⟨RX5, "merge", "(JIZ)V"⟩
def RX6 : String := "OrielChart$Walk"
def TX6 : u_T := fun k => match k with
  | 0 => ("OrielChart$Walk", "came", "[I", true)
  | 1 => ("OrielChart$Walk", "upper", "[I", true)
  | 2 => ("OrielChart$Walk", "lower", "[I", true)
  | 3 => ("OrielChart$Walk", "open", "[I", true)
  | 4 => ("OrielChart$Walk", "edge", "[I", true)
  | 5 => ("OrielChart$Walk", "cameCount", "I", false)
  | 6 => ("OrielChart$Walk", "openCount", "I", false)
  | 7 => ("OrielChart$Walk", "seen", "J", false)
  | _ => ("OrielChart$Walk", "stillGoing", "J", false)
def tyX6 : Nat → FieldType := fun k => match k with
  | 0 => .array .int
  | 1 => .array .int
  | 2 => .array .int
  | 3 => .array .int
  | 4 => .array .int
  | 5 => .int
  | 6 => .int
  | 7 => .long
  | _ => .long
abbrev wsX60 : List Cond := u_ws RX6 TX6 9
theorem nmX6 : ∀ a, a < 9 → ∀ b, b < 9 → a ≠ b → (TX6 a).2.1 ≠ (TX6 b).2.1 := by decide +kernel
theorem tyX6_ok : ∀ k, k < 9 → parseFieldDescriptor (TX6 k).2.2.1 = some (tyX6 k) := by decide +kernel
abbrev cX6_init : ByteArray := prog_8_method_1_code
def yX6_init : MethodName := ⟨RX6, "<init>", "()V"⟩
abbrev cX6_goThrough : ByteArray := prog_8_method_2_code
def yX6_goThrough : MethodName := ⟨RX6, "goThrough", "(LOrielChart$Flow;)V"⟩
abbrev cX6_enter : ByteArray := prog_8_method_3_code
def yX6_enter : MethodName := ⟨RX6, "enter", "(LOrielChart$Flow;I)V"⟩
abbrev cX6_goOn : ByteArray := prog_8_method_4_code
def yX6_goOn : MethodName := ⟨RX6, "goOn", "(LOrielChart$Flow;I)V"⟩
abbrev cX6_draws : ByteArray := prog_8_method_5_code
def yX6_draws : MethodName := ⟨RX6, "draws", "(I)Z"⟩
abbrev cX6_turns : ByteArray := prog_8_method_6_code
def yX6_turns : MethodName := ⟨RX6, "turns", "(LOrielChart$Flow;I)Z"⟩
def RX7 : String := "OrielChart"
def TX7 : u_T := fun k => match k with
  | 0 => ("OrielChart", "code", "LOrielChart$Code;", true)
  | 1 => ("OrielChart", "flow", "LOrielChart$Flow;", true)
  | 2 => ("OrielChart", "ranks", "LOrielChart$Ranks;", true)
  | 3 => ("OrielChart", "lives", "LOrielChart$Lives;", true)
  | 4 => ("OrielChart", "reduction", "LOrielChart$Reduction;", true)
  | _ => ("OrielChart", "picture", "LOrielChart$Picture;", true)
def tyX7 : Nat → FieldType := fun k => match k with
  | 0 => .object "OrielChart$Code"
  | 1 => .object "OrielChart$Flow"
  | 2 => .object "OrielChart$Ranks"
  | 3 => .object "OrielChart$Lives"
  | 4 => .object "OrielChart$Reduction"
  | _ => .object "OrielChart$Picture"
abbrev wsX70 : List Cond := u_ws RX7 TX7 6
theorem nmX7 : ∀ a, a < 6 → ∀ b, b < 6 → a ≠ b → (TX7 a).2.1 ≠ (TX7 b).2.1 := by decide +kernel
theorem tyX7_ok : ∀ k, k < 6 → parseFieldDescriptor (TX7 k).2.2.1 = some (tyX7 k) := by decide +kernel
abbrev cX7_init : ByteArray := prog_1_method_1_code
def yX7_init : MethodName := ⟨RX7, "<init>", "()V"⟩
abbrev cX7_insert : ByteArray := prog_1_method_2_code
def yX7_insert : MethodName := ⟨RX7, "insert", "(III)I"⟩
abbrev cX7_remove : ByteArray := prog_1_method_3_code
def yX7_remove : MethodName := ⟨RX7, "remove", "(I)I"⟩
abbrev cX7_setTarget : ByteArray := prog_1_method_4_code
def yX7_setTarget : MethodName := ⟨RX7, "setTarget", "(II)I"⟩
abbrev cX7_setUse : ByteArray := prog_1_method_5_code
def yX7_setUse : MethodName := ⟨RX7, "setUse", "(III)I"⟩
abbrev cX7_instructions : ByteArray := prog_1_method_6_code
def yX7_instructions : MethodName := ⟨RX7, "instructions", "()I"⟩
abbrev cX7_targetOf : ByteArray := prog_1_method_8_code
def yX7_targetOf : MethodName := ⟨RX7, "targetOf", "(I)I"⟩
abbrev cX7_blocks : ByteArray := prog_1_method_9_code
def yX7_blocks : MethodName := ⟨RX7, "blocks", "()I"⟩
abbrev cX7_blockOf : ByteArray := prog_1_method_10_code
def yX7_blockOf : MethodName := ⟨RX7, "blockOf", "(I)I"⟩
abbrev cX7_firstOf : ByteArray := prog_1_method_11_code
def yX7_firstOf : MethodName := ⟨RX7, "firstOf", "(I)I"⟩
abbrev cX7_isReached : ByteArray := prog_1_method_12_code
def yX7_isReached : MethodName := ⟨RX7, "isReached", "(I)Z"⟩
abbrev cX7_edges : ByteArray := prog_1_method_13_code
def yX7_edges : MethodName := ⟨RX7, "edges", "()I"⟩
abbrev cX7_edgeFrom : ByteArray := prog_1_method_14_code
def yX7_edgeFrom : MethodName := ⟨RX7, "edgeFrom", "(I)I"⟩
abbrev cX7_edgeTo : ByteArray := prog_1_method_15_code
def yX7_edgeTo : MethodName := ⟨RX7, "edgeTo", "(I)I"⟩
abbrev cX7_dominates : ByteArray := prog_1_method_16_code
def yX7_dominates : MethodName := ⟨RX7, "dominates", "(II)Z"⟩
abbrev cX7_parentOf : ByteArray := prog_1_method_17_code
def yX7_parentOf : MethodName := ⟨RX7, "parentOf", "(I)I"⟩
abbrev cX7_isBack : ByteArray := prog_1_method_19_code
def yX7_isBack : MethodName := ⟨RX7, "isBack", "(I)Z"⟩
abbrev cX7_loops : ByteArray := prog_1_method_20_code
def yX7_loops : MethodName := ⟨RX7, "loops", "()I"⟩
abbrev cX7_loopSize : ByteArray := prog_1_method_21_code
def yX7_loopSize : MethodName := ⟨RX7, "loopSize", "(I)I"⟩
abbrev cX7_depthOf : ByteArray := prog_1_method_22_code
def yX7_depthOf : MethodName := ⟨RX7, "depthOf", "(I)I"⟩
abbrev cX7_liveIn : ByteArray := prog_1_method_24_code
def yX7_liveIn : MethodName := ⟨RX7, "liveIn", "(I)I"⟩
abbrev cX7_windings : ByteArray := prog_1_method_26_code
def yX7_windings : MethodName := ⟨RX7, "windings", "()I"⟩
abbrev cX7_steps : ByteArray := prog_1_method_27_code
def yX7_steps : MethodName := ⟨RX7, "steps", "()I"⟩
abbrev cX7_left : ByteArray := prog_1_method_30_code
def yX7_left : MethodName := ⟨RX7, "left", "()I"⟩
abbrev cX7_isNeat : ByteArray := prog_1_method_31_code
def yX7_isNeat : MethodName := ⟨RX7, "isNeat", "()Z"⟩
abbrev cX7_endsIn : ByteArray := prog_1_method_32_code
def yX7_endsIn : MethodName := ⟨RX7, "endsIn", "(I)I"⟩
abbrev cX7_layers : ByteArray := prog_1_method_33_code
def yX7_layers : MethodName := ⟨RX7, "layers", "()I"⟩
abbrev cX7_layerOf : ByteArray := prog_1_method_34_code
def yX7_layerOf : MethodName := ⟨RX7, "layerOf", "(I)I"⟩
abbrev cX7_isTurned : ByteArray := prog_1_method_35_code
def yX7_isTurned : MethodName := ⟨RX7, "isTurned", "(I)Z"⟩
abbrev cX7_points : ByteArray := prog_1_method_36_code
def yX7_points : MethodName := ⟨RX7, "points", "(I)I"⟩
abbrev cX7_pointAt : ByteArray := prog_1_method_37_code
def yX7_pointAt : MethodName := ⟨RX7, "pointAt", "(II)I"⟩
abbrev cX7_placeOf : ByteArray := prog_1_method_38_code
def yX7_placeOf : MethodName := ⟨RX7, "placeOf", "(I)I"⟩
abbrev cX7_bends : ByteArray := prog_1_method_39_code
def yX7_bends : MethodName := ⟨RX7, "bends", "(I)I"⟩
abbrev cX7_bendAt : ByteArray := prog_1_method_40_code
def yX7_bendAt : MethodName := ⟨RX7, "bendAt", "(II)I"⟩
abbrev cX7_crossings : ByteArray := prog_1_method_41_code
def yX7_crossings : MethodName := ⟨RX7, "crossings", "()I"⟩
abbrev cX7_sweep : ByteArray := prog_1_method_42_code
def yX7_sweep : MethodName := ⟨RX7, "sweep", "(I)I"⟩
abbrev cX7_wouldCross : ByteArray := prog_1_method_43_code
def yX7_wouldCross : MethodName := ⟨RX7, "wouldCross", "(I)I"⟩
abbrev cX7_swept : ByteArray := prog_1_method_44_code
def yX7_swept : MethodName := ⟨RX7, "swept", "()I"⟩
abbrev cX7_meanLength : ByteArray := prog_1_method_45_code
def yX7_meanLength : MethodName := ⟨RX7, "meanLength", "()D"⟩
abbrev cX7_digest : ByteArray := prog_1_method_46_code
def yX7_digest : MethodName := ⟨RX7, "digest", "()J"⟩
abbrev cX7_digestOfCode : ByteArray := prog_1_method_47_code
def yX7_digestOfCode : MethodName := ⟨RX7, "digestOfCode", "(J)J"⟩
abbrev cX7_digestOfBlocks : ByteArray := prog_1_method_48_code
def yX7_digestOfBlocks : MethodName := ⟨RX7, "digestOfBlocks", "(J)J"⟩
abbrev cX7_digestOfEdges : ByteArray := prog_1_method_49_code
def yX7_digestOfEdges : MethodName := ⟨RX7, "digestOfEdges", "(J)J"⟩
abbrev cX7_digestOfSteps : ByteArray := prog_1_method_50_code
def yX7_digestOfSteps : MethodName := ⟨RX7, "digestOfSteps", "(J)J"⟩
abbrev cX7_digestOfLayers : ByteArray := prog_1_method_51_code
def yX7_digestOfLayers : MethodName := ⟨RX7, "digestOfLayers", "(J)J"⟩
abbrev cX7_needInstruction : ByteArray := prog_1_method_52_code
def yX7_needInstruction : MethodName := ⟨RX7, "needInstruction", "(I)V"⟩
abbrev cX7_needBlock : ByteArray := prog_1_method_53_code
def yX7_needBlock : MethodName := ⟨RX7, "needBlock", "(I)V"⟩
abbrev cX7_needEdge : ByteArray := prog_1_method_54_code
def yX7_needEdge : MethodName := ⟨RX7, "needEdge", "(I)V"⟩
abbrev cX7_needLayer : ByteArray := prog_1_method_56_code
def yX7_needLayer : MethodName := ⟨RX7, "needLayer", "(I)V"⟩
abbrev cX7_needSweeps : ByteArray := prog_1_method_57_code
def yX7_needSweeps : MethodName := ⟨RX7, "needSweeps", "(I)V"⟩
abbrev cX7_isTarget : ByteArray := prog_1_method_58_code
def yX7_isTarget : MethodName := ⟨RX7, "isTarget", "(I)Z"⟩
abbrev cX7_forget : ByteArray := prog_1_method_59_code
def yX7_forget : MethodName := ⟨RX7, "forget", "()V"⟩
abbrev cX7_freshFlow : ByteArray := prog_1_method_60_code
def yX7_freshFlow : MethodName := ⟨RX7, "freshFlow", "()LOrielChart$Flow;"⟩
abbrev cX7_freshRanks : ByteArray := prog_1_method_61_code
def yX7_freshRanks : MethodName := ⟨RX7, "freshRanks", "()LOrielChart$Ranks;"⟩
abbrev cX7_freshLives : ByteArray := prog_1_method_62_code
def yX7_freshLives : MethodName := ⟨RX7, "freshLives", "()LOrielChart$Lives;"⟩
abbrev cX7_freshReduction : ByteArray := prog_1_method_63_code
def yX7_freshReduction : MethodName := ⟨RX7, "freshReduction", "()LOrielChart$Reduction;"⟩
abbrev cX7_freshPicture : ByteArray := prog_1_method_64_code
def yX7_freshPicture : MethodName := ⟨RX7, "freshPicture", "()LOrielChart$Picture;"⟩
abbrev cX7_at : ByteArray := prog_1_method_65_code
def yX7_at : MethodName := ⟨RX7, "at", "([II)I"⟩
abbrev cX7_at_ : ByteArray := prog_1_method_66_code
def yX7_at_ : MethodName := ⟨RX7, "at", "([JI)J"⟩
abbrev cX7_put : ByteArray := prog_1_method_67_code
def yX7_put : MethodName := ⟨RX7, "put", "([III)V"⟩
abbrev cX7_put_ : ByteArray := prog_1_method_68_code
def yX7_put_ : MethodName := ⟨RX7, "put", "([JIJ)V"⟩
abbrev cX7_bit : ByteArray := prog_1_method_69_code
def yX7_bit : MethodName := ⟨RX7, "bit", "(I)J"⟩
abbrev cX7_has : ByteArray := prog_1_method_70_code
def yX7_has : MethodName := ⟨RX7, "has", "(JI)Z"⟩
abbrev cX7_lowest : ByteArray := prog_1_method_71_code
def yX7_lowest : MethodName := ⟨RX7, "lowest", "(J)I"⟩
abbrev cX7_spread : ByteArray := prog_1_method_72_code
def yX7_spread : MethodName := ⟨RX7, "spread", "([JJJ)J"⟩
abbrev cX7_jumps : ByteArray := prog_1_method_73_code
def yX7_jumps : MethodName := ⟨RX7, "jumps", "(I)Z"⟩
abbrev cX7_mix : ByteArray := prog_1_method_74_code
def yX7_mix : MethodName := ⟨RX7, "mix", "(JI)J"⟩
abbrev cX7_mix_ : ByteArray := prog_1_method_75_code
def yX7_mix_ : MethodName := ⟨RX7, "mix", "(JZ)J"⟩
def RX8 : String := "OrielChartModel"
def TX8 : u_T := fun k => match k with
  | _ => ("", "", "", false)
def tyX8 : Nat → FieldType := fun k => match k with
  | _ => .int
abbrev wsX80 : List Cond := u_ws RX8 TX8 0
theorem nmX8 : ∀ a, a < 0 → ∀ b, b < 0 → a ≠ b → (TX8 a).2.1 ≠ (TX8 b).2.1 := by decide +kernel
theorem tyX8_ok : ∀ k, k < 0 → parseFieldDescriptor (TX8 k).2.2.1 = some (tyX8 k) := by decide +kernel
def RJx145de : String := "java/io/Serializable"
def TJx145de : u_T := fun k => match k with
  | _ => ("", "", "", false)
def tyJx145de : Nat → FieldType := fun k => match k with
  | _ => .int
abbrev wsJx145de0 : List Cond := u_ws RJx145de TJx145de 0
theorem nmJx145de : ∀ a, a < 0 → ∀ b, b < 0 → a ≠ b → (TJx145de a).2.1 ≠ (TJx145de b).2.1 := by decide +kernel
theorem tyJx145de_ok : ∀ k, k < 0 → parseFieldDescriptor (TJx145de k).2.2.1 = some (tyJx145de k) := by decide +kernel
def RJ13 : String := "java/lang/Long"
def TJ13 : u_T := fun k => match k with
  | _ => ("", "", "", false)
def tyJ13 : Nat → FieldType := fun k => match k with
  | _ => .int
abbrev wsJ130 : List Cond := u_ws RJ13 TJ13 0
theorem nmJ13 : ∀ a, a < 0 → ∀ b, b < 0 → a ≠ b → (TJ13 a).2.1 ≠ (TJ13 b).2.1 := by decide +kernel
theorem tyJ13_ok : ∀ k, k < 0 → parseFieldDescriptor (TJ13 k).2.2.1 = some (tyJ13 k) := by decide +kernel
abbrev cJ13_bitCount_95d88 : ByteArray := prog_15_method_50_code
def yJ13_bitCount_95d88 : MethodName := ⟨RJ13, "bitCount", "(J)I"⟩
def RJ9 : String := "java/lang/Math"
def TJ9 : u_T := fun k => match k with
  | _ => ("", "", "", false)
def tyJ9 : Nat → FieldType := fun k => match k with
  | _ => .int
abbrev wsJ90 : List Cond := u_ws RJ9 TJ9 0
theorem nmJ9 : ∀ a, a < 0 → ∀ b, b < 0 → a ≠ b → (TJ9 a).2.1 ≠ (TJ9 b).2.1 := by decide +kernel
theorem tyJ9_ok : ∀ k, k < 0 → parseFieldDescriptor (TJ9 k).2.2.1 = some (tyJ9 k) := by decide +kernel
abbrev cJ9_max_7cf53 : ByteArray := prog_16_method_65_code
def yJ9_max_7cf53 : MethodName := ⟨RJ9, "max", "(II)I"⟩
abbrev cJ9_min_7cf53 : ByteArray := prog_16_method_69_code
def yJ9_min_7cf53 : MethodName := ⟨RJ9, "min", "(II)I"⟩
def RJ0 : String := "java/lang/String"
def TJ0 : u_T := fun k => match k with
  | _ => ("", "", "", false)
def tyJ0 : Nat → FieldType := fun k => match k with
  | _ => .int
abbrev wsJ00 : List Cond := u_ws RJ0 TJ0 0
theorem nmJ0 : ∀ a, a < 0 → ∀ b, b < 0 → a ≠ b → (TJ0 a).2.1 ≠ (TJ0 b).2.1 := by decide +kernel
theorem tyJ0_ok : ∀ k, k < 0 → parseFieldDescriptor (TJ0 k).2.2.1 = some (tyJ0 k) := by decide +kernel
def RL : String := "OrielChartLaw"
abbrev cL_below : ByteArray := method_2_code
def yL_below : MethodName := ⟨RL, "below", "(II)I"⟩
abbrev cL_cell : ByteArray := method_3_code
def yL_cell : MethodName := ⟨RL, "cell", "([II)I"⟩
abbrev cL_law : ByteArray := code
def yL_law : MethodName := ⟨RL, "law", "([I)Z"⟩
abbrev cL_act : ByteArray := method_5_code
def yL_act : MethodName := ⟨RL, "act", "(LOrielChart;I)Z"⟩
abbrev cL_areBlocksRight : ByteArray := method_6_code
def yL_areBlocksRight : MethodName := ⟨RL, "areBlocksRight", "(LOrielChart;)Z"⟩
abbrev cL_isDrawn : ByteArray := method_7_code
def yL_isDrawn : MethodName := ⟨RL, "isDrawn", "(LOrielChart;)Z"⟩
abbrev vwCl : List vw_C := [(RX0, TX0, 5), (RX1, TX1, 11), (RX2, TX2, 3), (RX3, TX3, 16), (RX4, TX4, 7), (RX5, TX5, 8), (RX6, TX6, 9), (RX7, TX7, 6)]
end
section
theorem inT1 : ∀ w ∈ tables_1_1, w ∈ lw_tbl := fun w h => List.mem_append_right _ (List.mem_append_left _ h)
theorem inT2 : ∀ w ∈ tables_1_2, w ∈ lw_tbl := fun w h => List.mem_append_right _ (List.mem_append_right _ (List.mem_append_left _ h))
theorem inT3 : ∀ w ∈ tables_1_3, w ∈ lw_tbl := fun w h => List.mem_append_right _ (List.mem_append_right _ (List.mem_append_right _ (List.mem_append_left _ h)))
theorem inT4 : ∀ w ∈ tables_1_4, w ∈ lw_tbl := fun w h => List.mem_append_right _ (List.mem_append_right _ (List.mem_append_right _ (List.mem_append_right _ (List.mem_append_left _ h))))
theorem inT5 : ∀ w ∈ tables_1_5, w ∈ lw_tbl := fun w h => List.mem_append_right _ (List.mem_append_right _ (List.mem_append_right _ (List.mem_append_right _ (List.mem_append_right _ (h)))))
theorem inTp {q : MethodName × Nat} (h : q ∈ lw_privs) : Cond.selects q.1.cls q.1 q.1 ∈ lw_tbl := List.mem_append_left _ (List.mem_map.mpr ⟨q, h, rfl⟩)
def NLm : List Cond := [Cond.methodLinkNest RX7 9 yX0_init "OrielChart", Cond.fieldLinkNest RX1 77 "OrielChart$Code" "kind" "[I" "OrielChart", Cond.fieldLinkNest RX7 92 "OrielChart$Code" "kind" "[I" "OrielChart", Cond.fieldLinkNest RX1 88 "OrielChart$Code" "target" "[I" "OrielChart", Cond.fieldLinkNest RX7 102 "OrielChart$Code" "target" "[I" "OrielChart", Cond.fieldLinkNest RX2 62 "OrielChart$Code" "sets" "[I" "OrielChart", Cond.fieldLinkNest RX7 116 "OrielChart$Code" "sets" "[I" "OrielChart", Cond.fieldLinkNest RX7 113 "OrielChart$Code" "uses" "[I" "OrielChart", Cond.fieldLinkNest RX2 74 "OrielChart$Code" "uses" "[I" "OrielChart", Cond.fieldLinkNest RX1 34 "OrielChart$Code" "count" "I" "OrielChart", Cond.fieldLinkNest RX7 51 "OrielChart$Code" "count" "I" "OrielChart", Cond.methodLinkNest RX7 18 yX1_init "OrielChart", Cond.fieldLinkNest RX7 130 "OrielChart$Flow" "home" "[I" "OrielChart", Cond.fieldLinkNest RX2 55 "OrielChart$Flow" "first" "[I" "OrielChart", Cond.fieldLinkNest RX7 136 "OrielChart$Flow" "first" "[I" "OrielChart", Cond.fieldLinkNest RX2 48 "OrielChart$Flow" "last" "[I" "OrielChart", Cond.fieldLinkNest RX4 81 "OrielChart$Flow" "from" "[I" "OrielChart", Cond.fieldLinkNest RX7 153 "OrielChart$Flow" "from" "[I" "OrielChart", Cond.fieldLinkNest RX4 88 "OrielChart$Flow" "to" "[I" "OrielChart", Cond.fieldLinkNest RX6 70 "OrielChart$Flow" "to" "[I" "OrielChart", Cond.fieldLinkNest RX7 156 "OrielChart$Flow" "to" "[I" "OrielChart", Cond.fieldLinkNest RX6 61 "OrielChart$Flow" "firstEdge" "[I" "OrielChart", Cond.fieldLinkNest RX5 45 "OrielChart$Flow" "next" "[J" "OrielChart", Cond.fieldLinkNest RX4 69 "OrielChart$Flow" "next" "[J" "OrielChart", Cond.fieldLinkNest RX2 67 "OrielChart$Flow" "next" "[J" "OrielChart", Cond.fieldLinkNest RX6 45 "OrielChart$Flow" "blockCount" "I" "OrielChart", Cond.fieldLinkNest RX2 27 "OrielChart$Flow" "blockCount" "I" "OrielChart", Cond.fieldLinkNest RX4 54 "OrielChart$Flow" "blockCount" "I" "OrielChart", Cond.fieldLinkNest RX7 127 "OrielChart$Flow" "blockCount" "I" "OrielChart", Cond.fieldLinkNest RX3 52 "OrielChart$Flow" "edgeCount" "I" "OrielChart", Cond.fieldLinkNest RX4 78 "OrielChart$Flow" "edgeCount" "I" "OrielChart", Cond.fieldLinkNest RX7 147 "OrielChart$Flow" "edgeCount" "I" "OrielChart", Cond.fieldLinkNest RX5 28 "OrielChart$Flow" "reached" "J" "OrielChart", Cond.fieldLinkNest RX4 24 "OrielChart$Flow" "reached" "J" "OrielChart", Cond.fieldLinkNest RX2 32 "OrielChart$Flow" "reached" "J" "OrielChart", Cond.fieldLinkNest RX7 139 "OrielChart$Flow" "reached" "J" "OrielChart", Cond.fieldLinkNest RX7 333 "OrielChart$Flow" "fresh" "Z" "OrielChart", Cond.methodLinkNest RX7 25 yX4_init "OrielChart", Cond.fieldLinkNest RX7 181 "OrielChart$Ranks" "loop" "[J" "OrielChart", Cond.fieldLinkNest RX7 178 "OrielChart$Ranks" "loopCount" "I" "OrielChart", Cond.fieldLinkNest RX7 197 "OrielChart$Ranks" "tame" "Z" "OrielChart", Cond.fieldLinkNest RX7 334 "OrielChart$Ranks" "fresh" "Z" "OrielChart", Cond.methodLinkNest RX7 32 yX2_init "OrielChart", Cond.fieldLinkNest RX7 204 "OrielChart$Lives" "live" "[I" "OrielChart", Cond.fieldLinkNest RX7 207 "OrielChart$Lives" "vainCount" "I" "OrielChart", Cond.fieldLinkNest RX7 119 "OrielChart$Lives" "fresh" "Z" "OrielChart", Cond.methodLinkNest RX7 39 yX5_init "OrielChart", Cond.fieldLinkNest RX7 233 "OrielChart$Reduction" "home" "[I" "OrielChart", Cond.fieldLinkNest RX7 224 "OrielChart$Reduction" "rule" "[I" "OrielChart", Cond.fieldLinkNest RX7 227 "OrielChart$Reduction" "node" "[I" "OrielChart", Cond.fieldLinkNest RX7 230 "OrielChart$Reduction" "nodes" "J" "OrielChart", Cond.fieldLinkNest RX7 218 "OrielChart$Reduction" "stepCount" "I" "OrielChart", Cond.fieldLinkNest RX7 335 "OrielChart$Reduction" "fresh" "Z" "OrielChart", Cond.methodLinkNest RX7 46 yX3_init "OrielChart", Cond.methodLinkNest RX3 11 yX6_init "OrielChart", Cond.fieldLinkNest RX3 124 "OrielChart$Walk" "came" "[I" "OrielChart", Cond.fieldLinkNest RX3 115 "OrielChart$Walk" "upper" "[I" "OrielChart", Cond.fieldLinkNest RX3 108 "OrielChart$Walk" "lower" "[I" "OrielChart", Cond.fieldLinkNest RX3 121 "OrielChart$Walk" "cameCount" "I" "OrielChart", Cond.fieldLinkNest RX3 83 "OrielChart$Walk" "seen" "J" "OrielChart", Cond.fieldLinkNest RX7 244 "OrielChart$Picture" "walk" "LOrielChart$Walk;" "OrielChart", Cond.fieldLinkNest RX7 241 "OrielChart$Picture" "layer" "[I" "OrielChart", Cond.fieldLinkNest RX7 238 "OrielChart$Picture" "layerCount" "I" "OrielChart", Cond.fieldLinkNest RX7 289 "OrielChart$Picture" "sweeps" "I" "OrielChart", Cond.fieldLinkNest RX7 336 "OrielChart$Picture" "fresh" "Z" "OrielChart", Cond.methodLinkNest RX1 80 yX7_at "OrielChart", Cond.methodLinkNest RX1 65 yX7_bit "OrielChart", Cond.methodLinkNest RX1 84 yX7_jumps "OrielChart", Cond.methodLinkNest RX1 91 yX7_has "OrielChart", Cond.methodLinkNest RX1 54 yX7_put "OrielChart", Cond.methodLinkNest RX1 58 yX7_put_ "OrielChart", Cond.methodLinkNest RX1 99 yX7_at_ "OrielChart", Cond.methodLinkNest RX1 69 yX7_spread "OrielChart", Cond.methodLinkNest RX4 30 yX7_has "OrielChart", Cond.methodLinkNest RX4 72 yX7_bit "OrielChart", Cond.methodLinkNest RX4 65 yX7_spread "OrielChart", Cond.methodLinkNest RX4 38 yX7_put_ "OrielChart", Cond.methodLinkNest RX4 85 yX7_at "OrielChart", Cond.methodLinkNest RX4 61 yX7_at_ "OrielChart", Cond.methodLinkNest RX2 15 yX7_put "OrielChart", Cond.methodLinkNest RX2 36 yX7_has "OrielChart", Cond.methodLinkNest RX2 71 yX7_at_ "OrielChart", Cond.methodLinkNest RX2 51 yX7_at "OrielChart", Cond.methodLinkNest RX5 41 yX7_has "OrielChart", Cond.methodLinkNest RX5 46 yX7_at_ "OrielChart", Cond.methodLinkNest RX5 50 yX7_put_ "OrielChart", Cond.methodLinkNest RX5 54 yX7_put "OrielChart", Cond.methodLinkNest RX5 72 yX7_bit "OrielChart", Cond.methodLinkNest RX5 84 yX7_lowest "OrielChart", Cond.methodLinkNest RX5 87 yX7_at "OrielChart", Cond.methodLinkNest RX6 41 yX7_put "OrielChart", Cond.methodLinkNest RX6 54 yX7_at "OrielChart", Cond.methodLinkNest RX6 64 yX7_bit "OrielChart", Cond.methodLinkNest RX6 73 yX7_has "OrielChart", Cond.methodLinkNest RX3 87 yX7_has "OrielChart", Cond.methodLinkNest RX3 75 yX7_put "OrielChart", Cond.methodLinkNest RX3 95 yX7_at "OrielChart", Cond.methodLinkNest RX0 39 yX7_at "OrielChart", Cond.methodLinkNest RX0 35 yX7_put "OrielChart", Cond.castable "java/lang/IllegalArgumentException" "java/lang/IllegalArgumentException", Cond.declares ⟨"java/lang/RuntimeException", "<init>", "()V"⟩, Cond.declares ⟨"java/lang/RuntimeException", "<init>", "(Ljava/lang/String;)V"⟩, Cond.declares ⟨"java/lang/Exception", "<init>", "()V"⟩, Cond.declares ⟨"java/lang/Exception", "<init>", "(Ljava/lang/String;)V"⟩, Cond.declares ⟨"java/lang/Throwable", "<init>", "()V"⟩, Cond.declares ⟨"java/lang/Throwable", "<init>", "(Ljava/lang/String;)V"⟩, Cond.castable "java/lang/IllegalStateException" "java/lang/IllegalStateException", Cond.castable "java/lang/IndexOutOfBoundsException" "java/lang/IndexOutOfBoundsException"]
theorem nw_0 : Cond.methodLinkNest RX7 9 yX0_init "OrielChart" ∈ NLm := List.mem_of_getElem? (i := 0) rfl
theorem nw_1 : Cond.fieldLinkNest RX1 77 "OrielChart$Code" "kind" "[I" "OrielChart" ∈ NLm := List.mem_of_getElem? (i := 1) rfl
theorem nw_2 : Cond.fieldLinkNest RX7 92 "OrielChart$Code" "kind" "[I" "OrielChart" ∈ NLm := List.mem_of_getElem? (i := 2) rfl
theorem nw_3 : Cond.fieldLinkNest RX1 88 "OrielChart$Code" "target" "[I" "OrielChart" ∈ NLm := List.mem_of_getElem? (i := 3) rfl
theorem nw_4 : Cond.fieldLinkNest RX7 102 "OrielChart$Code" "target" "[I" "OrielChart" ∈ NLm := List.mem_of_getElem? (i := 4) rfl
theorem nw_5 : Cond.fieldLinkNest RX2 62 "OrielChart$Code" "sets" "[I" "OrielChart" ∈ NLm := List.mem_of_getElem? (i := 5) rfl
theorem nw_6 : Cond.fieldLinkNest RX7 116 "OrielChart$Code" "sets" "[I" "OrielChart" ∈ NLm := List.mem_of_getElem? (i := 6) rfl
theorem nw_7 : Cond.fieldLinkNest RX7 113 "OrielChart$Code" "uses" "[I" "OrielChart" ∈ NLm := List.mem_of_getElem? (i := 7) rfl
theorem nw_8 : Cond.fieldLinkNest RX2 74 "OrielChart$Code" "uses" "[I" "OrielChart" ∈ NLm := List.mem_of_getElem? (i := 8) rfl
theorem nw_9 : Cond.fieldLinkNest RX1 34 "OrielChart$Code" "count" "I" "OrielChart" ∈ NLm := List.mem_of_getElem? (i := 9) rfl
theorem nw_10 : Cond.fieldLinkNest RX7 51 "OrielChart$Code" "count" "I" "OrielChart" ∈ NLm := List.mem_of_getElem? (i := 10) rfl
theorem nw_11 : Cond.methodLinkNest RX7 18 yX1_init "OrielChart" ∈ NLm := List.mem_of_getElem? (i := 11) rfl
theorem nw_12 : Cond.fieldLinkNest RX7 130 "OrielChart$Flow" "home" "[I" "OrielChart" ∈ NLm := List.mem_of_getElem? (i := 12) rfl
theorem nw_13 : Cond.fieldLinkNest RX2 55 "OrielChart$Flow" "first" "[I" "OrielChart" ∈ NLm := List.mem_of_getElem? (i := 13) rfl
theorem nw_14 : Cond.fieldLinkNest RX7 136 "OrielChart$Flow" "first" "[I" "OrielChart" ∈ NLm := List.mem_of_getElem? (i := 14) rfl
theorem nw_15 : Cond.fieldLinkNest RX2 48 "OrielChart$Flow" "last" "[I" "OrielChart" ∈ NLm := List.mem_of_getElem? (i := 15) rfl
theorem nw_16 : Cond.fieldLinkNest RX4 81 "OrielChart$Flow" "from" "[I" "OrielChart" ∈ NLm := List.mem_of_getElem? (i := 16) rfl
theorem nw_17 : Cond.fieldLinkNest RX7 153 "OrielChart$Flow" "from" "[I" "OrielChart" ∈ NLm := List.mem_of_getElem? (i := 17) rfl
theorem nw_18 : Cond.fieldLinkNest RX4 88 "OrielChart$Flow" "to" "[I" "OrielChart" ∈ NLm := List.mem_of_getElem? (i := 18) rfl
theorem nw_19 : Cond.fieldLinkNest RX6 70 "OrielChart$Flow" "to" "[I" "OrielChart" ∈ NLm := List.mem_of_getElem? (i := 19) rfl
theorem nw_20 : Cond.fieldLinkNest RX7 156 "OrielChart$Flow" "to" "[I" "OrielChart" ∈ NLm := List.mem_of_getElem? (i := 20) rfl
theorem nw_21 : Cond.fieldLinkNest RX6 61 "OrielChart$Flow" "firstEdge" "[I" "OrielChart" ∈ NLm := List.mem_of_getElem? (i := 21) rfl
theorem nw_22 : Cond.fieldLinkNest RX5 45 "OrielChart$Flow" "next" "[J" "OrielChart" ∈ NLm := List.mem_of_getElem? (i := 22) rfl
theorem nw_23 : Cond.fieldLinkNest RX4 69 "OrielChart$Flow" "next" "[J" "OrielChart" ∈ NLm := List.mem_of_getElem? (i := 23) rfl
theorem nw_24 : Cond.fieldLinkNest RX2 67 "OrielChart$Flow" "next" "[J" "OrielChart" ∈ NLm := List.mem_of_getElem? (i := 24) rfl
theorem nw_25 : Cond.fieldLinkNest RX6 45 "OrielChart$Flow" "blockCount" "I" "OrielChart" ∈ NLm := List.mem_of_getElem? (i := 25) rfl
theorem nw_26 : Cond.fieldLinkNest RX2 27 "OrielChart$Flow" "blockCount" "I" "OrielChart" ∈ NLm := List.mem_of_getElem? (i := 26) rfl
theorem nw_27 : Cond.fieldLinkNest RX4 54 "OrielChart$Flow" "blockCount" "I" "OrielChart" ∈ NLm := List.mem_of_getElem? (i := 27) rfl
theorem nw_28 : Cond.fieldLinkNest RX7 127 "OrielChart$Flow" "blockCount" "I" "OrielChart" ∈ NLm := List.mem_of_getElem? (i := 28) rfl
theorem nw_29 : Cond.fieldLinkNest RX3 52 "OrielChart$Flow" "edgeCount" "I" "OrielChart" ∈ NLm := List.mem_of_getElem? (i := 29) rfl
theorem nw_30 : Cond.fieldLinkNest RX4 78 "OrielChart$Flow" "edgeCount" "I" "OrielChart" ∈ NLm := List.mem_of_getElem? (i := 30) rfl
theorem nw_31 : Cond.fieldLinkNest RX7 147 "OrielChart$Flow" "edgeCount" "I" "OrielChart" ∈ NLm := List.mem_of_getElem? (i := 31) rfl
theorem nw_32 : Cond.fieldLinkNest RX5 28 "OrielChart$Flow" "reached" "J" "OrielChart" ∈ NLm := List.mem_of_getElem? (i := 32) rfl
theorem nw_33 : Cond.fieldLinkNest RX4 24 "OrielChart$Flow" "reached" "J" "OrielChart" ∈ NLm := List.mem_of_getElem? (i := 33) rfl
theorem nw_34 : Cond.fieldLinkNest RX2 32 "OrielChart$Flow" "reached" "J" "OrielChart" ∈ NLm := List.mem_of_getElem? (i := 34) rfl
theorem nw_35 : Cond.fieldLinkNest RX7 139 "OrielChart$Flow" "reached" "J" "OrielChart" ∈ NLm := List.mem_of_getElem? (i := 35) rfl
theorem nw_36 : Cond.fieldLinkNest RX7 333 "OrielChart$Flow" "fresh" "Z" "OrielChart" ∈ NLm := List.mem_of_getElem? (i := 36) rfl
theorem nw_37 : Cond.methodLinkNest RX7 25 yX4_init "OrielChart" ∈ NLm := List.mem_of_getElem? (i := 37) rfl
theorem nw_38 : Cond.fieldLinkNest RX7 181 "OrielChart$Ranks" "loop" "[J" "OrielChart" ∈ NLm := List.mem_of_getElem? (i := 38) rfl
theorem nw_39 : Cond.fieldLinkNest RX7 178 "OrielChart$Ranks" "loopCount" "I" "OrielChart" ∈ NLm := List.mem_of_getElem? (i := 39) rfl
theorem nw_40 : Cond.fieldLinkNest RX7 197 "OrielChart$Ranks" "tame" "Z" "OrielChart" ∈ NLm := List.mem_of_getElem? (i := 40) rfl
theorem nw_41 : Cond.fieldLinkNest RX7 334 "OrielChart$Ranks" "fresh" "Z" "OrielChart" ∈ NLm := List.mem_of_getElem? (i := 41) rfl
theorem nw_42 : Cond.methodLinkNest RX7 32 yX2_init "OrielChart" ∈ NLm := List.mem_of_getElem? (i := 42) rfl
theorem nw_43 : Cond.fieldLinkNest RX7 204 "OrielChart$Lives" "live" "[I" "OrielChart" ∈ NLm := List.mem_of_getElem? (i := 43) rfl
theorem nw_44 : Cond.fieldLinkNest RX7 207 "OrielChart$Lives" "vainCount" "I" "OrielChart" ∈ NLm := List.mem_of_getElem? (i := 44) rfl
theorem nw_45 : Cond.fieldLinkNest RX7 119 "OrielChart$Lives" "fresh" "Z" "OrielChart" ∈ NLm := List.mem_of_getElem? (i := 45) rfl
theorem nw_46 : Cond.methodLinkNest RX7 39 yX5_init "OrielChart" ∈ NLm := List.mem_of_getElem? (i := 46) rfl
theorem nw_47 : Cond.fieldLinkNest RX7 233 "OrielChart$Reduction" "home" "[I" "OrielChart" ∈ NLm := List.mem_of_getElem? (i := 47) rfl
theorem nw_48 : Cond.fieldLinkNest RX7 224 "OrielChart$Reduction" "rule" "[I" "OrielChart" ∈ NLm := List.mem_of_getElem? (i := 48) rfl
theorem nw_49 : Cond.fieldLinkNest RX7 227 "OrielChart$Reduction" "node" "[I" "OrielChart" ∈ NLm := List.mem_of_getElem? (i := 49) rfl
theorem nw_50 : Cond.fieldLinkNest RX7 230 "OrielChart$Reduction" "nodes" "J" "OrielChart" ∈ NLm := List.mem_of_getElem? (i := 50) rfl
theorem nw_51 : Cond.fieldLinkNest RX7 218 "OrielChart$Reduction" "stepCount" "I" "OrielChart" ∈ NLm := List.mem_of_getElem? (i := 51) rfl
theorem nw_52 : Cond.fieldLinkNest RX7 335 "OrielChart$Reduction" "fresh" "Z" "OrielChart" ∈ NLm := List.mem_of_getElem? (i := 52) rfl
theorem nw_53 : Cond.methodLinkNest RX7 46 yX3_init "OrielChart" ∈ NLm := List.mem_of_getElem? (i := 53) rfl
theorem nw_54 : Cond.methodLinkNest RX3 11 yX6_init "OrielChart" ∈ NLm := List.mem_of_getElem? (i := 54) rfl
theorem nw_55 : Cond.fieldLinkNest RX3 124 "OrielChart$Walk" "came" "[I" "OrielChart" ∈ NLm := List.mem_of_getElem? (i := 55) rfl
theorem nw_56 : Cond.fieldLinkNest RX3 115 "OrielChart$Walk" "upper" "[I" "OrielChart" ∈ NLm := List.mem_of_getElem? (i := 56) rfl
theorem nw_57 : Cond.fieldLinkNest RX3 108 "OrielChart$Walk" "lower" "[I" "OrielChart" ∈ NLm := List.mem_of_getElem? (i := 57) rfl
theorem nw_58 : Cond.fieldLinkNest RX3 121 "OrielChart$Walk" "cameCount" "I" "OrielChart" ∈ NLm := List.mem_of_getElem? (i := 58) rfl
theorem nw_59 : Cond.fieldLinkNest RX3 83 "OrielChart$Walk" "seen" "J" "OrielChart" ∈ NLm := List.mem_of_getElem? (i := 59) rfl
theorem nw_60 : Cond.fieldLinkNest RX7 244 "OrielChart$Picture" "walk" "LOrielChart$Walk;" "OrielChart" ∈ NLm := List.mem_of_getElem? (i := 60) rfl
theorem nw_61 : Cond.fieldLinkNest RX7 241 "OrielChart$Picture" "layer" "[I" "OrielChart" ∈ NLm := List.mem_of_getElem? (i := 61) rfl
theorem nw_62 : Cond.fieldLinkNest RX7 238 "OrielChart$Picture" "layerCount" "I" "OrielChart" ∈ NLm := List.mem_of_getElem? (i := 62) rfl
theorem nw_63 : Cond.fieldLinkNest RX7 289 "OrielChart$Picture" "sweeps" "I" "OrielChart" ∈ NLm := List.mem_of_getElem? (i := 63) rfl
theorem nw_64 : Cond.fieldLinkNest RX7 336 "OrielChart$Picture" "fresh" "Z" "OrielChart" ∈ NLm := List.mem_of_getElem? (i := 64) rfl
theorem nw_65 : Cond.methodLinkNest RX1 80 yX7_at "OrielChart" ∈ NLm := List.mem_of_getElem? (i := 65) rfl
theorem nw_66 : Cond.methodLinkNest RX1 65 yX7_bit "OrielChart" ∈ NLm := List.mem_of_getElem? (i := 66) rfl
theorem nw_67 : Cond.methodLinkNest RX1 84 yX7_jumps "OrielChart" ∈ NLm := List.mem_of_getElem? (i := 67) rfl
theorem nw_68 : Cond.methodLinkNest RX1 91 yX7_has "OrielChart" ∈ NLm := List.mem_of_getElem? (i := 68) rfl
theorem nw_69 : Cond.methodLinkNest RX1 54 yX7_put "OrielChart" ∈ NLm := List.mem_of_getElem? (i := 69) rfl
theorem nw_70 : Cond.methodLinkNest RX1 58 yX7_put_ "OrielChart" ∈ NLm := List.mem_of_getElem? (i := 70) rfl
theorem nw_71 : Cond.methodLinkNest RX1 99 yX7_at_ "OrielChart" ∈ NLm := List.mem_of_getElem? (i := 71) rfl
theorem nw_72 : Cond.methodLinkNest RX1 69 yX7_spread "OrielChart" ∈ NLm := List.mem_of_getElem? (i := 72) rfl
theorem nw_73 : Cond.methodLinkNest RX4 30 yX7_has "OrielChart" ∈ NLm := List.mem_of_getElem? (i := 73) rfl
theorem nw_74 : Cond.methodLinkNest RX4 72 yX7_bit "OrielChart" ∈ NLm := List.mem_of_getElem? (i := 74) rfl
theorem nw_75 : Cond.methodLinkNest RX4 65 yX7_spread "OrielChart" ∈ NLm := List.mem_of_getElem? (i := 75) rfl
theorem nw_76 : Cond.methodLinkNest RX4 38 yX7_put_ "OrielChart" ∈ NLm := List.mem_of_getElem? (i := 76) rfl
theorem nw_77 : Cond.methodLinkNest RX4 85 yX7_at "OrielChart" ∈ NLm := List.mem_of_getElem? (i := 77) rfl
theorem nw_78 : Cond.methodLinkNest RX4 61 yX7_at_ "OrielChart" ∈ NLm := List.mem_of_getElem? (i := 78) rfl
theorem nw_79 : Cond.methodLinkNest RX2 15 yX7_put "OrielChart" ∈ NLm := List.mem_of_getElem? (i := 79) rfl
theorem nw_80 : Cond.methodLinkNest RX2 36 yX7_has "OrielChart" ∈ NLm := List.mem_of_getElem? (i := 80) rfl
theorem nw_81 : Cond.methodLinkNest RX2 71 yX7_at_ "OrielChart" ∈ NLm := List.mem_of_getElem? (i := 81) rfl
theorem nw_82 : Cond.methodLinkNest RX2 51 yX7_at "OrielChart" ∈ NLm := List.mem_of_getElem? (i := 82) rfl
theorem nw_83 : Cond.methodLinkNest RX5 41 yX7_has "OrielChart" ∈ NLm := List.mem_of_getElem? (i := 83) rfl
theorem nw_84 : Cond.methodLinkNest RX5 46 yX7_at_ "OrielChart" ∈ NLm := List.mem_of_getElem? (i := 84) rfl
theorem nw_85 : Cond.methodLinkNest RX5 50 yX7_put_ "OrielChart" ∈ NLm := List.mem_of_getElem? (i := 85) rfl
theorem nw_86 : Cond.methodLinkNest RX5 54 yX7_put "OrielChart" ∈ NLm := List.mem_of_getElem? (i := 86) rfl
theorem nw_87 : Cond.methodLinkNest RX5 72 yX7_bit "OrielChart" ∈ NLm := List.mem_of_getElem? (i := 87) rfl
theorem nw_88 : Cond.methodLinkNest RX5 84 yX7_lowest "OrielChart" ∈ NLm := List.mem_of_getElem? (i := 88) rfl
theorem nw_89 : Cond.methodLinkNest RX5 87 yX7_at "OrielChart" ∈ NLm := List.mem_of_getElem? (i := 89) rfl
theorem nw_90 : Cond.methodLinkNest RX6 41 yX7_put "OrielChart" ∈ NLm := List.mem_of_getElem? (i := 90) rfl
theorem nw_91 : Cond.methodLinkNest RX6 54 yX7_at "OrielChart" ∈ NLm := List.mem_of_getElem? (i := 91) rfl
theorem nw_92 : Cond.methodLinkNest RX6 64 yX7_bit "OrielChart" ∈ NLm := List.mem_of_getElem? (i := 92) rfl
theorem nw_93 : Cond.methodLinkNest RX6 73 yX7_has "OrielChart" ∈ NLm := List.mem_of_getElem? (i := 93) rfl
theorem nw_94 : Cond.methodLinkNest RX3 87 yX7_has "OrielChart" ∈ NLm := List.mem_of_getElem? (i := 94) rfl
theorem nw_95 : Cond.methodLinkNest RX3 75 yX7_put "OrielChart" ∈ NLm := List.mem_of_getElem? (i := 95) rfl
theorem nw_96 : Cond.methodLinkNest RX3 95 yX7_at "OrielChart" ∈ NLm := List.mem_of_getElem? (i := 96) rfl
theorem nw_97 : Cond.methodLinkNest RX0 39 yX7_at "OrielChart" ∈ NLm := List.mem_of_getElem? (i := 97) rfl
theorem nw_98 : Cond.methodLinkNest RX0 35 yX7_put "OrielChart" ∈ NLm := List.mem_of_getElem? (i := 98) rfl
theorem nw_99 : Cond.castable "java/lang/IllegalArgumentException" "java/lang/IllegalArgumentException" ∈ NLm := List.mem_of_getElem? (i := 99) rfl
theorem nw_100 : Cond.declares ⟨"java/lang/RuntimeException", "<init>", "()V"⟩ ∈ NLm := List.mem_of_getElem? (i := 100) rfl
theorem nw_101 : Cond.declares ⟨"java/lang/RuntimeException", "<init>", "(Ljava/lang/String;)V"⟩ ∈ NLm := List.mem_of_getElem? (i := 101) rfl
theorem nw_102 : Cond.declares ⟨"java/lang/Exception", "<init>", "()V"⟩ ∈ NLm := List.mem_of_getElem? (i := 102) rfl
theorem nw_103 : Cond.declares ⟨"java/lang/Exception", "<init>", "(Ljava/lang/String;)V"⟩ ∈ NLm := List.mem_of_getElem? (i := 103) rfl
theorem nw_104 : Cond.declares ⟨"java/lang/Throwable", "<init>", "()V"⟩ ∈ NLm := List.mem_of_getElem? (i := 104) rfl
theorem nw_105 : Cond.declares ⟨"java/lang/Throwable", "<init>", "(Ljava/lang/String;)V"⟩ ∈ NLm := List.mem_of_getElem? (i := 105) rfl
theorem nw_106 : Cond.castable "java/lang/IllegalStateException" "java/lang/IllegalStateException" ∈ NLm := List.mem_of_getElem? (i := 106) rfl
theorem nw_107 : Cond.castable "java/lang/IndexOutOfBoundsException" "java/lang/IndexOutOfBoundsException" ∈ NLm := List.mem_of_getElem? (i := 107) rfl
theorem nt_0 : Cond.methodLinkNest RX7 9 yX0_init "OrielChart" ∈ lw_tbl := inT1 _ (List.mem_of_getElem? (i := 27) rfl)
theorem nt_1 : Cond.fieldLinkNest RX1 77 "OrielChart$Code" "kind" "[I" "OrielChart" ∈ lw_tbl := inT1 _ (List.mem_of_getElem? (i := 32) rfl)
theorem nt_2 : Cond.fieldLinkNest RX7 92 "OrielChart$Code" "kind" "[I" "OrielChart" ∈ lw_tbl := inT1 _ (List.mem_of_getElem? (i := 33) rfl)
theorem nt_3 : Cond.fieldLinkNest RX1 88 "OrielChart$Code" "target" "[I" "OrielChart" ∈ lw_tbl := inT1 _ (List.mem_of_getElem? (i := 35) rfl)
theorem nt_4 : Cond.fieldLinkNest RX7 102 "OrielChart$Code" "target" "[I" "OrielChart" ∈ lw_tbl := inT1 _ (List.mem_of_getElem? (i := 36) rfl)
theorem nt_5 : Cond.fieldLinkNest RX2 62 "OrielChart$Code" "sets" "[I" "OrielChart" ∈ lw_tbl := inT1 _ (List.mem_of_getElem? (i := 38) rfl)
theorem nt_6 : Cond.fieldLinkNest RX7 116 "OrielChart$Code" "sets" "[I" "OrielChart" ∈ lw_tbl := inT1 _ (List.mem_of_getElem? (i := 39) rfl)
theorem nt_7 : Cond.fieldLinkNest RX7 113 "OrielChart$Code" "uses" "[I" "OrielChart" ∈ lw_tbl := inT1 _ (List.mem_of_getElem? (i := 41) rfl)
theorem nt_8 : Cond.fieldLinkNest RX2 74 "OrielChart$Code" "uses" "[I" "OrielChart" ∈ lw_tbl := inT1 _ (List.mem_of_getElem? (i := 42) rfl)
theorem nt_9 : Cond.fieldLinkNest RX1 34 "OrielChart$Code" "count" "I" "OrielChart" ∈ lw_tbl := inT1 _ (List.mem_of_getElem? (i := 43) rfl)
theorem nt_10 : Cond.fieldLinkNest RX7 51 "OrielChart$Code" "count" "I" "OrielChart" ∈ lw_tbl := inT1 _ (List.mem_of_getElem? (i := 45) rfl)
theorem nt_11 : Cond.methodLinkNest RX7 18 yX1_init "OrielChart" ∈ lw_tbl := inT1 _ (List.mem_of_getElem? (i := 60) rfl)
theorem nt_12 : Cond.fieldLinkNest RX7 130 "OrielChart$Flow" "home" "[I" "OrielChart" ∈ lw_tbl := inT1 _ (List.mem_of_getElem? (i := 65) rfl)
theorem nt_13 : Cond.fieldLinkNest RX2 55 "OrielChart$Flow" "first" "[I" "OrielChart" ∈ lw_tbl := inT1 _ (List.mem_of_getElem? (i := 67) rfl)
theorem nt_14 : Cond.fieldLinkNest RX7 136 "OrielChart$Flow" "first" "[I" "OrielChart" ∈ lw_tbl := inT1 _ (List.mem_of_getElem? (i := 68) rfl)
theorem nt_15 : Cond.fieldLinkNest RX2 48 "OrielChart$Flow" "last" "[I" "OrielChart" ∈ lw_tbl := inT1 _ (List.mem_of_getElem? (i := 70) rfl)
theorem nt_16 : Cond.fieldLinkNest RX4 81 "OrielChart$Flow" "from" "[I" "OrielChart" ∈ lw_tbl := inT1 _ (List.mem_of_getElem? (i := 72) rfl)
theorem nt_17 : Cond.fieldLinkNest RX7 153 "OrielChart$Flow" "from" "[I" "OrielChart" ∈ lw_tbl := inT1 _ (List.mem_of_getElem? (i := 73) rfl)
theorem nt_18 : Cond.fieldLinkNest RX4 88 "OrielChart$Flow" "to" "[I" "OrielChart" ∈ lw_tbl := inT1 _ (List.mem_of_getElem? (i := 75) rfl)
theorem nt_19 : Cond.fieldLinkNest RX6 70 "OrielChart$Flow" "to" "[I" "OrielChart" ∈ lw_tbl := inT1 _ (List.mem_of_getElem? (i := 76) rfl)
theorem nt_20 : Cond.fieldLinkNest RX7 156 "OrielChart$Flow" "to" "[I" "OrielChart" ∈ lw_tbl := inT1 _ (List.mem_of_getElem? (i := 77) rfl)
theorem nt_21 : Cond.fieldLinkNest RX6 61 "OrielChart$Flow" "firstEdge" "[I" "OrielChart" ∈ lw_tbl := inT1 _ (List.mem_of_getElem? (i := 79) rfl)
theorem nt_22 : Cond.fieldLinkNest RX5 45 "OrielChart$Flow" "next" "[J" "OrielChart" ∈ lw_tbl := inT1 _ (List.mem_of_getElem? (i := 81) rfl)
theorem nt_23 : Cond.fieldLinkNest RX4 69 "OrielChart$Flow" "next" "[J" "OrielChart" ∈ lw_tbl := inT1 _ (List.mem_of_getElem? (i := 82) rfl)
theorem nt_24 : Cond.fieldLinkNest RX2 67 "OrielChart$Flow" "next" "[J" "OrielChart" ∈ lw_tbl := inT1 _ (List.mem_of_getElem? (i := 83) rfl)
theorem nt_25 : Cond.fieldLinkNest RX6 45 "OrielChart$Flow" "blockCount" "I" "OrielChart" ∈ lw_tbl := inT1 _ (List.mem_of_getElem? (i := 85) rfl)
theorem nt_26 : Cond.fieldLinkNest RX2 27 "OrielChart$Flow" "blockCount" "I" "OrielChart" ∈ lw_tbl := inT1 _ (List.mem_of_getElem? (i := 86) rfl)
theorem nt_27 : Cond.fieldLinkNest RX4 54 "OrielChart$Flow" "blockCount" "I" "OrielChart" ∈ lw_tbl := inT1 _ (List.mem_of_getElem? (i := 87) rfl)
theorem nt_28 : Cond.fieldLinkNest RX7 127 "OrielChart$Flow" "blockCount" "I" "OrielChart" ∈ lw_tbl := inT1 _ (List.mem_of_getElem? (i := 88) rfl)
theorem nt_29 : Cond.fieldLinkNest RX3 52 "OrielChart$Flow" "edgeCount" "I" "OrielChart" ∈ lw_tbl := inT1 _ (List.mem_of_getElem? (i := 89) rfl)
theorem nt_30 : Cond.fieldLinkNest RX4 78 "OrielChart$Flow" "edgeCount" "I" "OrielChart" ∈ lw_tbl := inT1 _ (List.mem_of_getElem? (i := 91) rfl)
theorem nt_31 : Cond.fieldLinkNest RX7 147 "OrielChart$Flow" "edgeCount" "I" "OrielChart" ∈ lw_tbl := inT1 _ (List.mem_of_getElem? (i := 92) rfl)
theorem nt_32 : Cond.fieldLinkNest RX5 28 "OrielChart$Flow" "reached" "J" "OrielChart" ∈ lw_tbl := inT1 _ (List.mem_of_getElem? (i := 93) rfl)
theorem nt_33 : Cond.fieldLinkNest RX4 24 "OrielChart$Flow" "reached" "J" "OrielChart" ∈ lw_tbl := inT1 _ (List.mem_of_getElem? (i := 94) rfl)
theorem nt_34 : Cond.fieldLinkNest RX2 32 "OrielChart$Flow" "reached" "J" "OrielChart" ∈ lw_tbl := inT1 _ (List.mem_of_getElem? (i := 95) rfl)
theorem nt_35 : Cond.fieldLinkNest RX7 139 "OrielChart$Flow" "reached" "J" "OrielChart" ∈ lw_tbl := inT1 _ (List.mem_of_getElem? (i := 97) rfl)
theorem nt_36 : Cond.fieldLinkNest RX7 333 "OrielChart$Flow" "fresh" "Z" "OrielChart" ∈ lw_tbl := inT1 _ (List.mem_of_getElem? (i := 98) rfl)
theorem nt_37 : Cond.methodLinkNest RX7 25 yX4_init "OrielChart" ∈ lw_tbl := inT1 _ (List.mem_of_getElem? (i := 125) rfl)
theorem nt_38 : Cond.fieldLinkNest RX7 181 "OrielChart$Ranks" "loop" "[J" "OrielChart" ∈ lw_tbl := inT1 _ (List.mem_of_getElem? (i := 131) rfl)
theorem nt_39 : Cond.fieldLinkNest RX7 178 "OrielChart$Ranks" "loopCount" "I" "OrielChart" ∈ lw_tbl := inT1 _ (List.mem_of_getElem? (i := 135) rfl)
theorem nt_40 : Cond.fieldLinkNest RX7 197 "OrielChart$Ranks" "tame" "Z" "OrielChart" ∈ lw_tbl := inT1 _ (List.mem_of_getElem? (i := 137) rfl)
theorem nt_41 : Cond.fieldLinkNest RX7 334 "OrielChart$Ranks" "fresh" "Z" "OrielChart" ∈ lw_tbl := inT1 _ (List.mem_of_getElem? (i := 138) rfl)
theorem nt_42 : Cond.methodLinkNest RX7 32 yX2_init "OrielChart" ∈ lw_tbl := inT1 _ (List.mem_of_getElem? (i := 156) rfl)
theorem nt_43 : Cond.fieldLinkNest RX7 204 "OrielChart$Lives" "live" "[I" "OrielChart" ∈ lw_tbl := inT1 _ (List.mem_of_getElem? (i := 161) rfl)
theorem nt_44 : Cond.fieldLinkNest RX7 207 "OrielChart$Lives" "vainCount" "I" "OrielChart" ∈ lw_tbl := inT1 _ (List.mem_of_getElem? (i := 163) rfl)
theorem nt_45 : Cond.fieldLinkNest RX7 119 "OrielChart$Lives" "fresh" "Z" "OrielChart" ∈ lw_tbl := inT1 _ (List.mem_of_getElem? (i := 164) rfl)
theorem nt_46 : Cond.methodLinkNest RX7 39 yX5_init "OrielChart" ∈ lw_tbl := inT1 _ (List.mem_of_getElem? (i := 174) rfl)
theorem nt_47 : Cond.fieldLinkNest RX7 233 "OrielChart$Reduction" "home" "[I" "OrielChart" ∈ lw_tbl := inT1 _ (List.mem_of_getElem? (i := 180) rfl)
theorem nt_48 : Cond.fieldLinkNest RX7 224 "OrielChart$Reduction" "rule" "[I" "OrielChart" ∈ lw_tbl := inT1 _ (List.mem_of_getElem? (i := 182) rfl)
theorem nt_49 : Cond.fieldLinkNest RX7 227 "OrielChart$Reduction" "node" "[I" "OrielChart" ∈ lw_tbl := inT1 _ (List.mem_of_getElem? (i := 184) rfl)
theorem nt_50 : Cond.fieldLinkNest RX7 230 "OrielChart$Reduction" "nodes" "J" "OrielChart" ∈ lw_tbl := inT1 _ (List.mem_of_getElem? (i := 187) rfl)
theorem nt_51 : Cond.fieldLinkNest RX7 218 "OrielChart$Reduction" "stepCount" "I" "OrielChart" ∈ lw_tbl := inT1 _ (List.mem_of_getElem? (i := 189) rfl)
theorem nt_52 : Cond.fieldLinkNest RX7 335 "OrielChart$Reduction" "fresh" "Z" "OrielChart" ∈ lw_tbl := inT1 _ (List.mem_of_getElem? (i := 190) rfl)
theorem nt_53 : Cond.methodLinkNest RX7 46 yX3_init "OrielChart" ∈ lw_tbl := inT1 _ (List.mem_of_getElem? (i := 210) rfl)
theorem nt_54 : Cond.methodLinkNest RX3 11 yX6_init "OrielChart" ∈ lw_tbl := inT1 _ (List.mem_of_getElem? (i := 216) rfl)
theorem nt_55 : Cond.fieldLinkNest RX3 124 "OrielChart$Walk" "came" "[I" "OrielChart" ∈ lw_tbl := inT1 _ (List.mem_of_getElem? (i := 221) rfl)
theorem nt_56 : Cond.fieldLinkNest RX3 115 "OrielChart$Walk" "upper" "[I" "OrielChart" ∈ lw_tbl := inT1 _ (List.mem_of_getElem? (i := 223) rfl)
theorem nt_57 : Cond.fieldLinkNest RX3 108 "OrielChart$Walk" "lower" "[I" "OrielChart" ∈ lw_tbl := inT1 _ (List.mem_of_getElem? (i := 225) rfl)
theorem nt_58 : Cond.fieldLinkNest RX3 121 "OrielChart$Walk" "cameCount" "I" "OrielChart" ∈ lw_tbl := inT1 _ (List.mem_of_getElem? (i := 229) rfl)
theorem nt_59 : Cond.fieldLinkNest RX3 83 "OrielChart$Walk" "seen" "J" "OrielChart" ∈ lw_tbl := inT1 _ (List.mem_of_getElem? (i := 232) rfl)
theorem nt_60 : Cond.fieldLinkNest RX7 244 "OrielChart$Picture" "walk" "LOrielChart$Walk;" "OrielChart" ∈ lw_tbl := inT2 _ (List.mem_of_getElem? (i := 14) rfl)
theorem nt_61 : Cond.fieldLinkNest RX7 241 "OrielChart$Picture" "layer" "[I" "OrielChart" ∈ lw_tbl := inT2 _ (List.mem_of_getElem? (i := 16) rfl)
theorem nt_62 : Cond.fieldLinkNest RX7 238 "OrielChart$Picture" "layerCount" "I" "OrielChart" ∈ lw_tbl := inT2 _ (List.mem_of_getElem? (i := 29) rfl)
theorem nt_63 : Cond.fieldLinkNest RX7 289 "OrielChart$Picture" "sweeps" "I" "OrielChart" ∈ lw_tbl := inT2 _ (List.mem_of_getElem? (i := 31) rfl)
theorem nt_64 : Cond.fieldLinkNest RX7 336 "OrielChart$Picture" "fresh" "Z" "OrielChart" ∈ lw_tbl := inT2 _ (List.mem_of_getElem? (i := 32) rfl)
theorem nt_65 : Cond.methodLinkNest RX1 80 yX7_at "OrielChart" ∈ lw_tbl := inT2 _ (List.mem_of_getElem? (i := 104) rfl)
theorem nt_66 : Cond.methodLinkNest RX1 65 yX7_bit "OrielChart" ∈ lw_tbl := inT2 _ (List.mem_of_getElem? (i := 107) rfl)
theorem nt_67 : Cond.methodLinkNest RX1 84 yX7_jumps "OrielChart" ∈ lw_tbl := inT2 _ (List.mem_of_getElem? (i := 110) rfl)
theorem nt_68 : Cond.methodLinkNest RX1 91 yX7_has "OrielChart" ∈ lw_tbl := inT2 _ (List.mem_of_getElem? (i := 117) rfl)
theorem nt_69 : Cond.methodLinkNest RX1 54 yX7_put "OrielChart" ∈ lw_tbl := inT2 _ (List.mem_of_getElem? (i := 120) rfl)
theorem nt_70 : Cond.methodLinkNest RX1 58 yX7_put_ "OrielChart" ∈ lw_tbl := inT2 _ (List.mem_of_getElem? (i := 123) rfl)
theorem nt_71 : Cond.methodLinkNest RX1 99 yX7_at_ "OrielChart" ∈ lw_tbl := inT2 _ (List.mem_of_getElem? (i := 134) rfl)
theorem nt_72 : Cond.methodLinkNest RX1 69 yX7_spread "OrielChart" ∈ lw_tbl := inT2 _ (List.mem_of_getElem? (i := 137) rfl)
theorem nt_73 : Cond.methodLinkNest RX4 30 yX7_has "OrielChart" ∈ lw_tbl := inT2 _ (List.mem_of_getElem? (i := 156) rfl)
theorem nt_74 : Cond.methodLinkNest RX4 72 yX7_bit "OrielChart" ∈ lw_tbl := inT2 _ (List.mem_of_getElem? (i := 160) rfl)
theorem nt_75 : Cond.methodLinkNest RX4 65 yX7_spread "OrielChart" ∈ lw_tbl := inT2 _ (List.mem_of_getElem? (i := 161) rfl)
theorem nt_76 : Cond.methodLinkNest RX4 38 yX7_put_ "OrielChart" ∈ lw_tbl := inT2 _ (List.mem_of_getElem? (i := 163) rfl)
theorem nt_77 : Cond.methodLinkNest RX4 85 yX7_at "OrielChart" ∈ lw_tbl := inT2 _ (List.mem_of_getElem? (i := 168) rfl)
theorem nt_78 : Cond.methodLinkNest RX4 61 yX7_at_ "OrielChart" ∈ lw_tbl := inT2 _ (List.mem_of_getElem? (i := 169) rfl)
theorem nt_79 : Cond.methodLinkNest RX2 15 yX7_put "OrielChart" ∈ lw_tbl := inT2 _ (List.mem_of_getElem? (i := 186) rfl)
theorem nt_80 : Cond.methodLinkNest RX2 36 yX7_has "OrielChart" ∈ lw_tbl := inT2 _ (List.mem_of_getElem? (i := 191) rfl)
theorem nt_81 : Cond.methodLinkNest RX2 71 yX7_at_ "OrielChart" ∈ lw_tbl := inT2 _ (List.mem_of_getElem? (i := 196) rfl)
theorem nt_82 : Cond.methodLinkNest RX2 51 yX7_at "OrielChart" ∈ lw_tbl := inT2 _ (List.mem_of_getElem? (i := 197) rfl)
theorem nt_83 : Cond.methodLinkNest RX5 41 yX7_has "OrielChart" ∈ lw_tbl := inT2 _ (List.mem_of_getElem? (i := 213) rfl)
theorem nt_84 : Cond.methodLinkNest RX5 46 yX7_at_ "OrielChart" ∈ lw_tbl := inT2 _ (List.mem_of_getElem? (i := 214) rfl)
theorem nt_85 : Cond.methodLinkNest RX5 50 yX7_put_ "OrielChart" ∈ lw_tbl := inT2 _ (List.mem_of_getElem? (i := 215) rfl)
theorem nt_86 : Cond.methodLinkNest RX5 54 yX7_put "OrielChart" ∈ lw_tbl := inT2 _ (List.mem_of_getElem? (i := 216) rfl)
theorem nt_87 : Cond.methodLinkNest RX5 72 yX7_bit "OrielChart" ∈ lw_tbl := inT2 _ (List.mem_of_getElem? (i := 225) rfl)
theorem nt_88 : Cond.methodLinkNest RX5 84 yX7_lowest "OrielChart" ∈ lw_tbl := inT2 _ (List.mem_of_getElem? (i := 232) rfl)
theorem nt_89 : Cond.methodLinkNest RX5 87 yX7_at "OrielChart" ∈ lw_tbl := inT2 _ (List.mem_of_getElem? (i := 233) rfl)
theorem nt_90 : Cond.methodLinkNest RX6 41 yX7_put "OrielChart" ∈ lw_tbl := inT3 _ (List.mem_of_getElem? (i := 22) rfl)
theorem nt_91 : Cond.methodLinkNest RX6 54 yX7_at "OrielChart" ∈ lw_tbl := inT3 _ (List.mem_of_getElem? (i := 27) rfl)
theorem nt_92 : Cond.methodLinkNest RX6 64 yX7_bit "OrielChart" ∈ lw_tbl := inT3 _ (List.mem_of_getElem? (i := 28) rfl)
theorem nt_93 : Cond.methodLinkNest RX6 73 yX7_has "OrielChart" ∈ lw_tbl := inT3 _ (List.mem_of_getElem? (i := 34) rfl)
theorem nt_94 : Cond.methodLinkNest RX3 87 yX7_has "OrielChart" ∈ lw_tbl := inT3 _ (List.mem_of_getElem? (i := 39) rfl)
theorem nt_95 : Cond.methodLinkNest RX3 75 yX7_put "OrielChart" ∈ lw_tbl := inT3 _ (List.mem_of_getElem? (i := 40) rfl)
theorem nt_96 : Cond.methodLinkNest RX3 95 yX7_at "OrielChart" ∈ lw_tbl := inT3 _ (List.mem_of_getElem? (i := 49) rfl)
theorem nt_97 : Cond.methodLinkNest RX0 39 yX7_at "OrielChart" ∈ lw_tbl := inT4 _ (List.mem_of_getElem? (i := 43) rfl)
theorem nt_98 : Cond.methodLinkNest RX0 35 yX7_put "OrielChart" ∈ lw_tbl := inT4 _ (List.mem_of_getElem? (i := 47) rfl)
theorem nt_99 : Cond.castable "java/lang/IllegalArgumentException" "java/lang/IllegalArgumentException" ∈ lw_tbl := inT3 _ (List.mem_of_getElem? (i := 187) rfl)
theorem nt_100 : Cond.declares ⟨"java/lang/RuntimeException", "<init>", "()V"⟩ ∈ lw_tbl := inT3 _ (List.mem_of_getElem? (i := 188) rfl)
theorem nt_101 : Cond.declares ⟨"java/lang/RuntimeException", "<init>", "(Ljava/lang/String;)V"⟩ ∈ lw_tbl := inT3 _ (List.mem_of_getElem? (i := 189) rfl)
theorem nt_102 : Cond.declares ⟨"java/lang/Exception", "<init>", "()V"⟩ ∈ lw_tbl := inT3 _ (List.mem_of_getElem? (i := 190) rfl)
theorem nt_103 : Cond.declares ⟨"java/lang/Exception", "<init>", "(Ljava/lang/String;)V"⟩ ∈ lw_tbl := inT3 _ (List.mem_of_getElem? (i := 191) rfl)
theorem nt_104 : Cond.declares ⟨"java/lang/Throwable", "<init>", "()V"⟩ ∈ lw_tbl := inT3 _ (List.mem_of_getElem? (i := 192) rfl)
theorem nt_105 : Cond.declares ⟨"java/lang/Throwable", "<init>", "(Ljava/lang/String;)V"⟩ ∈ lw_tbl := inT3 _ (List.mem_of_getElem? (i := 193) rfl)
theorem nt_106 : Cond.castable "java/lang/IllegalStateException" "java/lang/IllegalStateException" ∈ lw_tbl := inT4 _ (List.mem_of_getElem? (i := 21) rfl)
theorem nt_107 : Cond.castable "java/lang/IndexOutOfBoundsException" "java/lang/IndexOutOfBoundsException" ∈ lw_tbl := inT4 _ (List.mem_of_getElem? (i := 66) rfl)
theorem nl_tbl : ∀ w ∈ NLm, w ∈ lw_tbl := List.forall_mem_cons.mpr ⟨nt_0, List.forall_mem_cons.mpr ⟨nt_1, List.forall_mem_cons.mpr ⟨nt_2, List.forall_mem_cons.mpr ⟨nt_3, List.forall_mem_cons.mpr ⟨nt_4, List.forall_mem_cons.mpr ⟨nt_5, List.forall_mem_cons.mpr ⟨nt_6, List.forall_mem_cons.mpr ⟨nt_7, List.forall_mem_cons.mpr ⟨nt_8, List.forall_mem_cons.mpr ⟨nt_9, List.forall_mem_cons.mpr ⟨nt_10, List.forall_mem_cons.mpr ⟨nt_11, List.forall_mem_cons.mpr ⟨nt_12, List.forall_mem_cons.mpr ⟨nt_13, List.forall_mem_cons.mpr ⟨nt_14, List.forall_mem_cons.mpr ⟨nt_15, List.forall_mem_cons.mpr ⟨nt_16, List.forall_mem_cons.mpr ⟨nt_17, List.forall_mem_cons.mpr ⟨nt_18, List.forall_mem_cons.mpr ⟨nt_19, List.forall_mem_cons.mpr ⟨nt_20, List.forall_mem_cons.mpr ⟨nt_21, List.forall_mem_cons.mpr ⟨nt_22, List.forall_mem_cons.mpr ⟨nt_23, List.forall_mem_cons.mpr ⟨nt_24, List.forall_mem_cons.mpr ⟨nt_25, List.forall_mem_cons.mpr ⟨nt_26, List.forall_mem_cons.mpr ⟨nt_27, List.forall_mem_cons.mpr ⟨nt_28, List.forall_mem_cons.mpr ⟨nt_29, List.forall_mem_cons.mpr ⟨nt_30, List.forall_mem_cons.mpr ⟨nt_31, List.forall_mem_cons.mpr ⟨nt_32, List.forall_mem_cons.mpr ⟨nt_33, List.forall_mem_cons.mpr ⟨nt_34, List.forall_mem_cons.mpr ⟨nt_35, List.forall_mem_cons.mpr ⟨nt_36, List.forall_mem_cons.mpr ⟨nt_37, List.forall_mem_cons.mpr ⟨nt_38, List.forall_mem_cons.mpr ⟨nt_39, List.forall_mem_cons.mpr ⟨nt_40, List.forall_mem_cons.mpr ⟨nt_41, List.forall_mem_cons.mpr ⟨nt_42, List.forall_mem_cons.mpr ⟨nt_43, List.forall_mem_cons.mpr ⟨nt_44, List.forall_mem_cons.mpr ⟨nt_45, List.forall_mem_cons.mpr ⟨nt_46, List.forall_mem_cons.mpr ⟨nt_47, List.forall_mem_cons.mpr ⟨nt_48, List.forall_mem_cons.mpr ⟨nt_49, List.forall_mem_cons.mpr ⟨nt_50, List.forall_mem_cons.mpr ⟨nt_51, List.forall_mem_cons.mpr ⟨nt_52, List.forall_mem_cons.mpr ⟨nt_53, List.forall_mem_cons.mpr ⟨nt_54, List.forall_mem_cons.mpr ⟨nt_55, List.forall_mem_cons.mpr ⟨nt_56, List.forall_mem_cons.mpr ⟨nt_57, List.forall_mem_cons.mpr ⟨nt_58, List.forall_mem_cons.mpr ⟨nt_59, List.forall_mem_cons.mpr ⟨nt_60, List.forall_mem_cons.mpr ⟨nt_61, List.forall_mem_cons.mpr ⟨nt_62, List.forall_mem_cons.mpr ⟨nt_63, List.forall_mem_cons.mpr ⟨nt_64, List.forall_mem_cons.mpr ⟨nt_65, List.forall_mem_cons.mpr ⟨nt_66, List.forall_mem_cons.mpr ⟨nt_67, List.forall_mem_cons.mpr ⟨nt_68, List.forall_mem_cons.mpr ⟨nt_69, List.forall_mem_cons.mpr ⟨nt_70, List.forall_mem_cons.mpr ⟨nt_71, List.forall_mem_cons.mpr ⟨nt_72, List.forall_mem_cons.mpr ⟨nt_73, List.forall_mem_cons.mpr ⟨nt_74, List.forall_mem_cons.mpr ⟨nt_75, List.forall_mem_cons.mpr ⟨nt_76, List.forall_mem_cons.mpr ⟨nt_77, List.forall_mem_cons.mpr ⟨nt_78, List.forall_mem_cons.mpr ⟨nt_79, List.forall_mem_cons.mpr ⟨nt_80, List.forall_mem_cons.mpr ⟨nt_81, List.forall_mem_cons.mpr ⟨nt_82, List.forall_mem_cons.mpr ⟨nt_83, List.forall_mem_cons.mpr ⟨nt_84, List.forall_mem_cons.mpr ⟨nt_85, List.forall_mem_cons.mpr ⟨nt_86, List.forall_mem_cons.mpr ⟨nt_87, List.forall_mem_cons.mpr ⟨nt_88, List.forall_mem_cons.mpr ⟨nt_89, List.forall_mem_cons.mpr ⟨nt_90, List.forall_mem_cons.mpr ⟨nt_91, List.forall_mem_cons.mpr ⟨nt_92, List.forall_mem_cons.mpr ⟨nt_93, List.forall_mem_cons.mpr ⟨nt_94, List.forall_mem_cons.mpr ⟨nt_95, List.forall_mem_cons.mpr ⟨nt_96, List.forall_mem_cons.mpr ⟨nt_97, List.forall_mem_cons.mpr ⟨nt_98, List.forall_mem_cons.mpr ⟨nt_99, List.forall_mem_cons.mpr ⟨nt_100, List.forall_mem_cons.mpr ⟨nt_101, List.forall_mem_cons.mpr ⟨nt_102, List.forall_mem_cons.mpr ⟨nt_103, List.forall_mem_cons.mpr ⟨nt_104, List.forall_mem_cons.mpr ⟨nt_105, List.forall_mem_cons.mpr ⟨nt_106, List.forall_mem_cons.mpr ⟨nt_107, fun _ h => absurd h List.not_mem_nil⟩⟩⟩⟩⟩⟩⟩⟩⟩⟩⟩⟩⟩⟩⟩⟩⟩⟩⟩⟩⟩⟩⟩⟩⟩⟩⟩⟩⟩⟩⟩⟩⟩⟩⟩⟩⟩⟩⟩⟩⟩⟩⟩⟩⟩⟩⟩⟩⟩⟩⟩⟩⟩⟩⟩⟩⟩⟩⟩⟩⟩⟩⟩⟩⟩⟩⟩⟩⟩⟩⟩⟩⟩⟩⟩⟩⟩⟩⟩⟩⟩⟩⟩⟩⟩⟩⟩⟩⟩⟩⟩⟩⟩⟩⟩⟩⟩⟩⟩⟩⟩⟩⟩⟩⟩⟩⟩⟩
/-! ===== contracts in one form: the whole world goes in and comes back; one list of words for all methods ===== -/
def isNest : Cond → Bool
  | .fieldLinkNest _ _ _ _ _ _ => true
  | .methodLinkNest _ _ _ _ => true
  | .declares _ => true
  | .castable _ _ => true
  | _ => false
theorem nest_warm {w : Cond} {s U : State} (h1 : isNest w = true) (hW : s.WarmedH U.vm) (h : va_Nw w s) : va_Nw w U := by
  cases w <;> first | exact va_Nw.warmF hW h | exact va_Nw.warmM hW h | exact va_Nw.warmD hW h | exact va_Nw.warmC hW h | (simp [isNest] at h1)
theorem nest_same {w : Cond} {s U : State} (h1 : isNest w = true) (hv : s.vm = U.vm) (h : va_Nw w s) : va_Nw w U := by
  cases w <;> first | exact va_Nw.same rfl hv h | (simp [isNest] at h1)
theorem nest_use {w : Cond} {s : State} {args : Array Value} (h1 : isNest w = true) (h : va_Nw w s) : w.before args s = true := by
  cases w <;> first | exact va_Nw.use rfl h | (simp [isNest] at h1)
theorem nest_of {w : Cond} {s : State} {args : Array Value} (h1 : isNest w = true) (h : w.before args s = true) : va_Nw w s := by
  cases w <;> first | exact va_Nw.of rfl h | (simp [isNest] at h1)
theorem nl_all : NLm.all isNest = true := by decide +kernel
def NW (U : State) : Prop := ∀ w ∈ NLm, va_Nw w U
theorem NW.warm {s U : State} (h : NW s) (hW : s.WarmedH U.vm) : NW U := fun w hw => nest_warm (List.all_eq_true.mp nl_all w hw) hW (h w hw)
theorem NW.same {s U : State} (h : NW s) (hv : s.vm = U.vm) : NW U := fun w hw => nest_same (List.all_eq_true.mp nl_all w hw) hv (h w hw)
theorem NW.use {s : State} {args : Array Value} (h : NW s) {w : Cond} (hw : w ∈ NLm) : w.before args s = true := nest_use (List.all_eq_true.mp nl_all w hw) (h w hw)
def GW : List Cond := lw_tbl.filter goodWord
theorem gw_mem {w : Cond} (h : w ∈ lw_tbl) (hg : goodWord w = true) : w ∈ GW := List.mem_filter.mpr ⟨h, hg⟩
theorem gw_tbl {w : Cond} (h : w ∈ GW) : w ∈ lw_tbl := (List.mem_filter.mp h).1
theorem gw_ok {w : Cond} (h : w ∈ GW) : (w.onTables && w.keeps) = true ∨ ∃ ty, w = .arrayClass ty := good_of_word (List.mem_filter.mp h).2
theorem gw_in {ck : Cond} (h : ck ∈ GW) : GoodIn GW (ck :: GW) := fun w hw => by
  rcases List.mem_cons.mp hw with rfl | h9
  · exact ⟨h, gw_ok h⟩
  · exact ⟨h9, gw_ok h9⟩
theorem gw_V {ck : Cond} {own C : String} {idx : Nat} {y : MethodName} (h : ck ∈ GW) (h1 : Cond.methodLink own idx y ∈ GW) (h2 : Cond.instanceMethod y ∈ GW) (h3 : Cond.selects C y y ∈ GW) (h4 : Cond.initialized C ∈ GW) : GoodIn GW (wsV own idx C y (ck :: GW)) := fun w hw => by
  rcases List.mem_append.mp hw with h9 | h9
  · simp only [List.mem_cons, List.not_mem_nil, or_false] at h9
    rcases h9 with rfl | rfl | rfl | rfl
    · exact ⟨h1, gw_ok h1⟩
    · exact ⟨h2, gw_ok h2⟩
    · exact ⟨h3, gw_ok h3⟩
    · exact ⟨h4, gw_ok h4⟩
  · exact gw_in h w h9
theorem gw_S {ck : Cond} {own : String} {idx : Nat} {y : MethodName} (h : ck ∈ GW) (h1 : Cond.methodLink own idx y ∈ GW) (h2 : Cond.static y ∈ GW) (h4 : Cond.initialized y.cls ∈ GW) : GoodIn GW (va_wsS own idx y (ck :: GW)) := fun w hw => by
  rcases List.mem_append.mp hw with h9 | h9
  · simp only [List.mem_cons, List.not_mem_nil, or_false] at h9
    rcases h9 with rfl | rfl | rfl
    · exact ⟨h1, gw_ok h1⟩
    · exact ⟨h2, gw_ok h2⟩
    · exact ⟨h4, gw_ok h4⟩
  · exact gw_in h w h9
def PB (D : va_G) (tys : List (ClassId × FieldType)) (w : va_W) (sz : Nat) : State → Prop := fun U => U.heap.size = sz ∧ va_P D vwCl w U.heap ∧ va_K D vwCl tys U ∧ va_D (fun _ => True) w ∧ NW U
def BW (D : va_G) (tys : List (ClassId × FieldType)) (A : Nat → Prop) : va_W → State → Prop := fun u t => va_P D vwCl u t.heap ∧ va_K D vwCl tys t ∧ va_D A u
def rmf (d mc ms : Nat) : Room := { frames := d, cells := mc, slots := ms, locals := 48 * d }
abbrev CT (l : Launch) (D : va_G) (tys : List (ClassId × FieldType)) (y : MethodName) (ck : Cond) (d mc ms : Nat) (w : va_W) (As : List Value) (Qc : (Nat → Prop) → Array Value → State → Outcome → State → Prop) : Prop :=
  ∀ sz : Nat, Met l y (ck :: GW) (rmf d mc ms) (va_Pc As (PB D tys w sz)) (Qc (va_A w sz)) mc ms (va_A w sz)
abbrev QI (D : va_G) (tys : List (ClassId × FieldType)) (post : Int32 → va_W → Prop) : (Nat → Prop) → Array Value → State → Outcome → State → Prop := fun A => va_Qi post (BW D tys A) A
abbrev QL (D : va_G) (tys : List (ClassId × FieldType)) (post : Int64 → va_W → Prop) : (Nat → Prop) → Array Value → State → Outcome → State → Prop := fun A => va_Ql post (BW D tys A) A
abbrev QD (D : va_G) (tys : List (ClassId × FieldType)) (post : UInt64 → va_W → Prop) : (Nat → Prop) → Array Value → State → Outcome → State → Prop := fun A => va_Qd post (BW D tys A) A
abbrev QV (D : va_G) (tys : List (ClassId × FieldType)) (post : va_W → Prop) : (Nat → Prop) → Array Value → State → Outcome → State → Prop := fun A => va_Qv post (BW D tys A) A
abbrev QR (D : va_G) (tys : List (ClassId × FieldType)) (post : Nat → va_W → Prop) : (Nat → Prop) → Array Value → State → Outcome → State → Prop := fun A => va_Qr (fun _ : va_W => True) (fun u ra t => post ra u ∧ BW D tys A u t) A
theorem blindPB {As : List Value} {D : va_G} {tys : List (ClassId × FieldType)} {w : va_W} {sz : Nat} : FrameBlind (va_Pc As (PB D tys w sz)) := fun a U g mk q => by
  obtain ⟨q0, q1, qP, qK, qD, qN⟩ := q
  exact ⟨q0, q1, qP, va_K.moved (u := U) (U := U.calling g mk a) (Vm.Alike.refl U.vm) qK, qD, qN.same rfl⟩
/-- a method's entry -/
theorem ent {l : Launch} {D : va_G} {tys : List (ClassId × FieldType)} {y : MethodName} {cc : ByteArray} {maxL : Nat} {ret : Option FieldType} {d mc ms : Nat} {w : va_W} {As : List Value} {Qc : (Nat → Prop) → Array Value → State → Outcome → State → Prop} (hy : plainName y.cls = true) (hlen : (lg_sl As).length ≤ maxL)
    (body : ∀ (p : Program) (e : Env) (s : State) (m : MethodId) (below : List Frame) (meth : Method) (c : Code) (ls : Array Slot) (A : Nat → Prop), p.tables.exec = Jvm.exec → c.code = cc → meth.sig.returnType = ret → (∀ w ∈ GW, w.before As.toArray s = true) → s.vm.findClass y.cls = some m.cls → c.maxLocals = maxL → meth.locks = false → meth.name = y.name →
      va_P D vwCl w s.heap → va_K D vwCl tys s → va_D A w → va_S A s.heap s.heap [] → (∀ q, s.heap.size ≤ q → A q) → NW s → lv_has ls maxL (lv_args 0 As) →
      W p l e (rmf d mc ms) s m As.toArray below meth c s.heap [] 0 0 (MQ below (Qc A) As.toArray s mc ms A) (F0 m 0 ls [])) : CT l D tys y (.code y cc maxL ret) d mc ms w As Qc := by
  intro sz
  refine Met.ofW (cc := cc) (maxL := maxL) (ret := ret) hy rfl ?_
  intro p e s m args below meth c s₁ B hml hv
  obtain ⟨rfl, hsz, hP, hK, hD0, hN⟩ := hv
  have hts := atoms_spec (ws := (.code y cc maxL ret) :: GW) B.pre
  subst hsz
  have hD := hD0.self (sz := s.heap.size)
  have hl := lv_entry As (n := maxL) hlen
  rw [lg_entry_eq]
  exact body p e s m below meth c _ (va_A w s.heap.size) B.exec B.bytes B.returns (fun w hw => hts w (List.mem_cons_of_mem _ hw)) (findClass_of_methodNamed B.named) hml B.notSynchronized (name_of_methodNamed B.named B.method).1 hP hK hD va_S.rf (fun q h => Or.inr h) hN hl
section XR
variable {p : Program} {l : Launch} {e : Env} {R : Room} {s : State} {m : MethodId} {args : Array Value} {below : List Frame} {meth : Method} {c : Code} {H : Heap} {locs : List Loc} {cells slots : Nat} {Q : State → Prop}
variable {cc bytes : ByteArray} {pc : Nat} {ls : Array Slot} {st0 rest : List Value} {D : va_G} {tys : List (ClassId × FieldType)} {A : Nat → Prop} {w : va_W}
variable {y : MethodName} {maxL nL mc ms n index d q0 ci N b : Nat} {ret : Option FieldType} {own C : String} {T : u_T} {As fs : List Value} {Qc : (Nat → Prop) → Array Value → State → Outcome → State → Prop} {host : String}
theorem hpre (hK : va_K D vwCl tys s) (hN : NW s) (hP : va_P D vwCl w H) (hD : va_D A w) (av : List Value) : PreS s H (va_Pc av (PB D tys w H.size)) av :=
  ⟨blindPB, fun U hU hW => ⟨rfl, by rw [hU], by rw [hU]; exact hP, va_K.moved hW.alike hK, hD.weaken (fun _ _ _ _ => trivial), hN.warm hW⟩⟩
theorem rV (hx : p.tables.exec = Jvm.exec) (hb : c.code = cc) (hml : c.maxLocals = nL) (hown : s.vm.findClass own = some m.cls) (hg : ∀ w ∈ GW, w.before args s = true) (hN : NW s) (hK : va_K D vwCl tys s) (hP : va_P D vwCl w H) (hD : va_D A w)
    (hM : CT l D tys y (.code y bytes maxL ret) d mc ms w (.ref b :: As) Qc) (m5 : Cond.code y bytes maxL ret ∈ GW) (m1 : Cond.methodLink own index y ∈ GW) (m2 : Cond.instanceMethod y ∈ GW) (m3 : Cond.selects C y y ∈ GW) (m4 : Cond.initialized C ∈ GW)
    (hd : y.cls = C ∧ y.cls ≠ "java/lang/invoke/MethodHandle" ∧ y.cls ≠ "java/lang/invoke/VarHandle" ∧ (parseMethodDescriptor y.desc).map (fun d => d.parameters.length) = some n) (hR : (rmf d mc ms).frames + 1 ≤ R.frames ∧ 8 + (maxL + 11) + (rmf d mc ms).locals ≤ R.locals)
    (hc : vwCl[ci]? = some (C, T, N)) (hq : w[q0]? = some (b, .inr (ci, fs))) (hn : As.length = n) (hl : ls.size = nL) (hst : st0 = As.reverse ++ .ref b :: rest) (hW : (rest.map fun v => v.category).sum ≤ 8) (hdg : decode cc pc = .ok (.invokevirtual index, 3)) (hf : cells + mc ≤ R.cells ∧ slots + ms ≤ R.slots) :
    va_Run p l e R s m args below meth c H locs cells slots mc ms (F0 m pc ls st0) rest (Qc (va_A w H.size) (Value.ref b :: As).toArray) (va_A w H.size) :=
  va_runV (As := As) (rest := rest) (C := C) ⟨hx, hb, hml, hown, hg⟩ (hM H.size) (cwV n hg (gw_V m5 m1 m2 m3 m4) rfl rfl rfl hd hR) ⟨blindPB, va_recv (ci := ci) (q0 := q0) hK hP hc hq, (hpre hK hN hP hD _).2⟩ rfl hn hl hst (lv_room (m := m) (pc := pc) (ls := ls) (rest := st0) hW) hdg hf
theorem rS (hx : p.tables.exec = Jvm.exec) (hb : c.code = cc) (hml : c.maxLocals = nL) (hown : s.vm.findClass own = some m.cls) (hg : ∀ w ∈ GW, w.before args s = true) (hN : NW s) (hK : va_K D vwCl tys s) (hP : va_P D vwCl w H) (hD : va_D A w)
    (hM : CT l D tys y (.code y bytes maxL ret) d mc ms w As Qc) (m5 : Cond.code y bytes maxL ret ∈ GW) (m1 : Cond.methodLink own index y ∈ GW) (m2 : Cond.static y ∈ GW) (m4 : Cond.initialized y.cls ∈ GW)
    (hd : y.cls ≠ "java/lang/invoke/MethodHandle" ∧ y.cls ≠ "java/lang/invoke/VarHandle" ∧ (parseMethodDescriptor y.desc).map (fun d => d.parameters.length) = some n) (hR : (rmf d mc ms).frames + 1 ≤ R.frames ∧ 8 + (maxL + 11) + (rmf d mc ms).locals ≤ R.locals)
    (hn : As.length = n) (hl : ls.size = nL) (hst : st0 = As.reverse ++ rest) (hW : (rest.map fun v => v.category).sum ≤ 8) (hdg : decode cc pc = .ok (.invokestatic index, 3)) (hf : cells + mc ≤ R.cells ∧ slots + ms ≤ R.slots) :
    va_Run p l e R s m args below meth c H locs cells slots mc ms (F0 m pc ls st0) rest (Qc (va_A w H.size) As.toArray) (va_A w H.size) :=
  va_runS (As := As) (rest := rest) ⟨hx, hb, hml, hown, hg⟩ (hM H.size) (va_cwS n hg (gw_S m5 m1 m2 m4) rfl rfl rfl hd hR) (hpre hK hN hP hD _) rfl hn hl hst (lv_room (m := m) (pc := pc) (ls := ls) (rest := st0) hW) hdg hf
theorem rSN (hx : p.tables.exec = Jvm.exec) (hb : c.code = cc) (hml : c.maxLocals = nL) (hown : s.vm.findClass own = some m.cls) (hg : ∀ w ∈ GW, w.before args s = true) (hN : NW s) (hK : va_K D vwCl tys s) (hP : va_P D vwCl w H) (hD : va_D A w)
    (hM : CT l D tys y (.code y bytes maxL ret) d mc ms w As Qc) (m5 : Cond.code y bytes maxL ret ∈ GW) (m1 : Cond.methodLinkNest own index y host ∈ NLm) (m2 : Cond.static y ∈ GW) (m4 : Cond.initialized y.cls ∈ GW)
    (hd : y.cls ≠ "java/lang/invoke/MethodHandle" ∧ y.cls ≠ "java/lang/invoke/VarHandle" ∧ (parseMethodDescriptor y.desc).map (fun d => d.parameters.length) = some n) (hR : (rmf d mc ms).frames + 1 ≤ R.frames ∧ 8 + (maxL + 11) + (rmf d mc ms).locals ≤ R.locals)
    (hn : As.length = n) (hl : ls.size = nL) (hst : st0 = As.reverse ++ rest) (hW : (rest.map fun v => v.category).sum ≤ 8) (hdg : decode cc pc = .ok (.invokestatic index, 3)) (hf : cells + mc ≤ R.cells ∧ slots + ms ≤ R.slots) :
    va_Run p l e R s m args below meth c H locs cells slots mc ms (F0 m pc ls st0) rest (Qc (va_A w H.size) As.toArray) (va_A w H.size) :=
  va_runSN (As := As) (rest := rest) (host := host) ⟨hx, hb, hml, hown, hg⟩ (hM H.size) ⟨va_cnB n hg (gw_in m5) rfl rfl rfl (hN _ m1) (hg _ m4) hd hR, hg _ m2, trivial⟩ (hpre hK hN hP hD _) rfl hn hl hst (lv_room (m := m) (pc := pc) (ls := ls) (rest := st0) hW) hdg hf
theorem rI (hx : p.tables.exec = Jvm.exec) (hb : c.code = cc) (hml : c.maxLocals = nL) (hown : s.vm.findClass own = some m.cls) (hg : ∀ w ∈ GW, w.before args s = true) (hN : NW s) (hK : va_K D vwCl tys s) (hP : va_P D vwCl w H) (hD : va_D A w)
    (hM : CT l D tys y (.code y bytes maxL none) d mc ms w (.ref b :: As) Qc) (m5 : Cond.code y bytes maxL none ∈ GW) (m1 : Cond.methodLink own index y ∈ GW) (m2 : Cond.instanceMethod y ∈ GW) (m4 : Cond.initialized y.cls ∈ GW) (hy : y.name = "<init>")
    (hd : y.cls ≠ "java/lang/invoke/MethodHandle" ∧ y.cls ≠ "java/lang/invoke/VarHandle" ∧ (parseMethodDescriptor y.desc).map (fun d => d.parameters.length) = some n) (hR : (rmf d mc ms).frames + 1 ≤ R.frames ∧ 8 + (maxL + 11) + (rmf d mc ms).locals ≤ R.locals)
    (hn : As.length = n) (hl : ls.size = nL) (hst : st0 = As.reverse ++ .ref b :: rest) (hW : (rest.map fun v => v.category).sum ≤ 8) (hdg : decode cc pc = .ok (.invokespecial index, 3)) (hf : cells + mc ≤ R.cells ∧ slots + ms ≤ R.slots) :
    va_Run p l e R s m args below meth c H locs cells slots mc ms (F0 m pc ls st0) rest (Qc (va_A w H.size) (Value.ref b :: As).toArray) (va_A w H.size) :=
  va_runI (As := As) (rest := rest) ⟨hx, hb, hml, hown, hg⟩ (hM H.size) (cwI n hg (gw_in m5) rfl rfl rfl (hg _ m4) (hg _ m1) (hg _ m2) hy hd hR) (hpre hK hN hP hD _) rfl hn hl hst (lv_room (m := m) (pc := pc) (ls := ls) (rest := st0) hW) hdg hf
theorem rIN (hx : p.tables.exec = Jvm.exec) (hb : c.code = cc) (hml : c.maxLocals = nL) (hown : s.vm.findClass own = some m.cls) (hg : ∀ w ∈ GW, w.before args s = true) (hN : NW s) (hK : va_K D vwCl tys s) (hP : va_P D vwCl w H) (hD : va_D A w)
    (hM : CT l D tys y (.code y bytes maxL none) d mc ms w (.ref b :: As) Qc) (m5 : Cond.code y bytes maxL none ∈ GW) (m1 : Cond.methodLinkNest own index y host ∈ NLm) (m2 : Cond.instanceMethod y ∈ GW) (m4 : Cond.initialized y.cls ∈ GW) (hy : y.name = "<init>")
    (hd : y.cls ≠ "java/lang/invoke/MethodHandle" ∧ y.cls ≠ "java/lang/invoke/VarHandle" ∧ (parseMethodDescriptor y.desc).map (fun d => d.parameters.length) = some n) (hR : (rmf d mc ms).frames + 1 ≤ R.frames ∧ 8 + (maxL + 11) + (rmf d mc ms).locals ≤ R.locals)
    (hn : As.length = n) (hl : ls.size = nL) (hst : st0 = As.reverse ++ .ref b :: rest) (hW : (rest.map fun v => v.category).sum ≤ 8) (hdg : decode cc pc = .ok (.invokespecial index, 3)) (hf : cells + mc ≤ R.cells ∧ slots + ms ≤ R.slots) :
    va_Run p l e R s m args below meth c H locs cells slots mc ms (F0 m pc ls st0) rest (Qc (va_A w H.size) (Value.ref b :: As).toArray) (va_A w H.size) :=
  va_runIN (As := As) (rest := rest) (host := host) ⟨hx, hb, hml, hown, hg⟩ (hM H.size) ⟨va_cnB n hg (gw_in m5) rfl rfl rfl (hN _ m1) (hg _ m4) hd hR, hy, hg _ m2⟩ (hpre hK hN hP hD _) rfl hn hl hst (lv_room (m := m) (pc := pc) (ls := ls) (rest := st0) hW) hdg hf
theorem fr_all {H0 : Heap} (hD : va_D A w) (hS : va_S A H0 H locs) (hA : ∀ q, H0.size ≤ q → A q) : ∀ q, va_A w H.size q → A q := fun q h => by
  rcases h with ⟨k, e, h⟩ | h
  · exact hD.2 k (q, e) h
  · exact hA q (Nat.le_trans hS.1 h)
variable {H0 : Heap} {a9 : Array Value}
theorem kI {post : Int32 → va_W → Prop} (hr : va_Run p l e R s m args below meth c H locs cells slots mc ms (F0 m pc ls st0) rest (QI D tys post (va_A w H.size) a9) (va_A w H.size)) (hD : va_D A w) (hS : va_S A H0 H locs) (hA : ∀ q, H0.size ≤ q → A q)
    (kk : ∀ (r : Int32) (u : va_W) (H1 : Heap) (locs1 : List Loc), post r u → va_P D vwCl u H1 → va_D A u → va_S A H0 H1 locs1 → W p l e R s m args below meth c H1 locs1 (cells + mc) (slots + ms) Q (F0 m (pc + 3) ls (.int r :: rest))) : W p l e R s m args below meth c H locs cells slots Q (F0 m pc ls st0) :=
  va_calli hr hS (fun q _ h => fr_all hD hS hA q h) (fr_all hD hS hA) (fun r u t H1 locs1 ht hvm hw hB hz1 hk1 hS1 => kk r u H1 locs1 hw (by rw [← ht]; exact hB.1) (hB.2.2.weaken (fun k q _ h => fr_all hD hS hA q.1 h)) hS1)
theorem kL {post : Int64 → va_W → Prop} (hr : va_Run p l e R s m args below meth c H locs cells slots mc ms (F0 m pc ls st0) rest (QL D tys post (va_A w H.size) a9) (va_A w H.size)) (hD : va_D A w) (hS : va_S A H0 H locs) (hA : ∀ q, H0.size ≤ q → A q)
    (kk : ∀ (r : Int64) (u : va_W) (H1 : Heap) (locs1 : List Loc), post r u → va_P D vwCl u H1 → va_D A u → va_S A H0 H1 locs1 → W p l e R s m args below meth c H1 locs1 (cells + mc) (slots + ms) Q (F0 m (pc + 3) ls (.long r :: rest))) : W p l e R s m args below meth c H locs cells slots Q (F0 m pc ls st0) :=
  va_calll hr hS (fun q _ h => fr_all hD hS hA q h) (fr_all hD hS hA) (fun r u t H1 locs1 ht hvm hw hB hz1 hk1 hS1 => kk r u H1 locs1 hw (by rw [← ht]; exact hB.1) (hB.2.2.weaken (fun k q _ h => fr_all hD hS hA q.1 h)) hS1)
theorem kD {post : UInt64 → va_W → Prop} (hr : va_Run p l e R s m args below meth c H locs cells slots mc ms (F0 m pc ls st0) rest (QD D tys post (va_A w H.size) a9) (va_A w H.size)) (hD : va_D A w) (hS : va_S A H0 H locs) (hA : ∀ q, H0.size ≤ q → A q)
    (kk : ∀ (r : UInt64) (u : va_W) (H1 : Heap) (locs1 : List Loc), post r u → va_P D vwCl u H1 → va_D A u → va_S A H0 H1 locs1 → W p l e R s m args below meth c H1 locs1 (cells + mc) (slots + ms) Q (F0 m (pc + 3) ls (.double r :: rest))) : W p l e R s m args below meth c H locs cells slots Q (F0 m pc ls st0) :=
  va_calld hr hS (fun q _ h => fr_all hD hS hA q h) (fr_all hD hS hA) (fun r u t H1 locs1 ht hvm hw hB hz1 hk1 hS1 => kk r u H1 locs1 hw (by rw [← ht]; exact hB.1) (hB.2.2.weaken (fun k q _ h => fr_all hD hS hA q.1 h)) hS1)
theorem kV {post : va_W → Prop} (hr : va_Run p l e R s m args below meth c H locs cells slots mc ms (F0 m pc ls st0) rest (QV D tys post (va_A w H.size) a9) (va_A w H.size)) (hD : va_D A w) (hS : va_S A H0 H locs) (hA : ∀ q, H0.size ≤ q → A q)
    (kk : ∀ (u : va_W) (H1 : Heap) (locs1 : List Loc), post u → va_P D vwCl u H1 → va_D A u → va_S A H0 H1 locs1 → W p l e R s m args below meth c H1 locs1 (cells + mc) (slots + ms) Q (F0 m (pc + 3) ls rest)) : W p l e R s m args below meth c H locs cells slots Q (F0 m pc ls st0) :=
  va_callv hr hS (fun q _ h => fr_all hD hS hA q h) (fr_all hD hS hA) (fun u t H1 locs1 ht hvm hw hB hz1 hk1 hS1 => kk u H1 locs1 hw (by rw [← ht]; exact hB.1) (hB.2.2.weaken (fun k q _ h => fr_all hD hS hA q.1 h)) hS1)
theorem kR {post : Nat → va_W → Prop} (hr : va_Run p l e R s m args below meth c H locs cells slots mc ms (F0 m pc ls st0) rest (QR D tys post (va_A w H.size) a9) (va_A w H.size)) (hD : va_D A w) (hS : va_S A H0 H locs) (hA : ∀ q, H0.size ≤ q → A q)
    (kk : ∀ (ra : Nat) (u : va_W) (H1 : Heap) (locs1 : List Loc), post ra u → va_P D vwCl u H1 → va_D A u → va_S A H0 H1 locs1 → W p l e R s m args below meth c H1 locs1 (cells + mc) (slots + ms) Q (F0 m (pc + 3) ls (.ref ra :: rest))) : W p l e R s m args below meth c H locs cells slots Q (F0 m pc ls st0) :=
  va_callr hr hS (fun q _ h => fr_all hD hS hA q h) (fr_all hD hS hA) (fun u ra t H1 locs1 ht hvm _ hB hz1 hk1 hS1 => kk ra u H1 locs1 hB.1 (by rw [← ht]; exact hB.2.1) (hB.2.2.2.weaken (fun k q _ h => fr_all hD hS hA q.1 h)) hS1)
/-- a loop that counts up -/
theorem w_loop {σ : Type} (Inv : Nat → σ → Heap → List Loc → Array Slot → Prop) (N : Nat)
    (hx : ∀ (u : σ) (H : Heap) (locs : List Loc) (ls : Array Slot), Inv N u H locs ls → W p l e R s m args below meth c H locs cells slots Q (F0 m pc ls []))
    (hs : ∀ (i : Nat) (u : σ) (H : Heap) (locs : List Loc) (ls : Array Slot), i < N → Inv i u H locs ls → (∀ (u' : σ) (H' : Heap) (locs' : List Loc) (ls' : Array Slot), Inv (i + 1) u' H' locs' ls' → W p l e R s m args below meth c H' locs' cells slots Q (F0 m pc ls' [])) → W p l e R s m args below meth c H locs cells slots Q (F0 m pc ls []))
    (i : Nat) (u : σ) (hi : i ≤ N) (h : Inv i u H locs ls) : W p l e R s m args below meth c H locs cells slots Q (F0 m pc ls []) := by
  obtain ⟨k, hk⟩ : ∃ k, N = i + k := ⟨N - i, by omega⟩
  induction k generalizing i u H locs ls with
  | zero =>
    have e9 : N = i := by omega
    subst e9
    exact hx u H locs ls h
  | succ k ih =>
    exact hs i u H locs ls (by omega) h (fun u' H' locs' ls' h' => ih (i + 1) u' (by omega) h' (by omega))
end XR
section XN
variable {p : Program} {l : Launch} {e : Env} {R : Room} {s : State} {m : MethodId} {args : Array Value} {below : List Frame} {meth : Method} {c : Code} {H : Heap} {locs : List Loc} {cells slots : Nat} {Q : State → Prop}
variable {cc : ByteArray} {pc : Nat} {ls : Array Slot} {rest : List Value} {D : va_G} {cl : List vw_C} {A : Nat → Prop} {a : Nat} {tys : List (ClassId × FieldType)} {ws : va_W} {H0 : Heap}
/-- a new array of a class that is known -/
theorem my_newa (hexec : p.tables.exec = Jvm.exec) (hb : c.code = cc) {atype : ArrayType} (harr : (Cond.arrayClass (newarray.typeOf atype)).before args s = true) {ty : FieldType} (hty : newarray.typeOf atype = ty) (hK : va_K D cl tys s) (hP : va_P D cl ws H) (hD : va_D A ws) (hS : va_S A H0 H locs) (hA : ∀ q, H0.size ≤ q → A q) (t0 : Nat) {c0 : ClassId} (ht : tys[t0]? = some (c0, ty)) (hRA : ∀ c1, va_RA s c1 ty → s.vm.findClass ("[" ++ ty.toString) = some c1)
    {n : Int32} {N' : Nat} {a0 : vp_A} (ha : ∀ cA : ClassId, vp_cell cA a0 = arrV cA N' (fun _ => defaultValue ty)) (hn : ¬ n < 0) (hN : n.toNatClampNeg = N') (hbytes : N' * componentBytes ty ≤ 536870912) (hcells : cells + 1 ≤ R.cells) (hslots : slots + N' ≤ R.slots) (hdg : decode cc pc = .ok (.newarray atype, 2))
    (kk : ∀ (q : Nat) (H1 : Heap), va_P D cl (ws ++ [(q, .inl (c0, a0))]) H1 → va_D A (ws ++ [(q, .inl (c0, a0))]) → va_S A H0 H1 locs →
      W p l e R s m args below meth c H1 locs (cells + 1) (slots + N') Q (F0 m (pc + 2) ls (.ref q :: rest))) : W p l e R s m args below meth c H locs cells slots Q (F0 m pc ls (.int n :: rest)) := by
  refine va_newa hexec hb harr hty hK hP hD hS hA ha hn hN hbytes hcells hslots hdg (fun q cA H1 hK1 hP1 hD1 hS1 => ?_)
  have h1 := hRA _ (hK1.2 tys.length (cA, ty) (by simp)).2
  have h2 := hRA _ (hK.2 t0 _ ht).2
  have h3 : cA = c0 := Option.some.inj (h1.symm.trans h2)
  subst h3
  exact kk q H1 hP1 hD1 hS1
end XN
end
section
/-! ===== the class, once more, as functions: an object is its int fields, its long fields, its int rows, its long rows ===== -/
abbrev Ob : Type := (Nat → Int32) × (Nat → Int64) × (Nat → Nat → Int32) × (Nat → Nat → Int64)
def gi (o : Ob) (k : Nat) : Int32 := o.1 k
def gl (o : Ob) (k : Nat) : Int64 := o.2.1 k
def gA (o : Ob) (k : Nat) : Nat → Int32 := o.2.2.1 k
def gB (o : Ob) (k : Nat) : Nat → Int64 := o.2.2.2 k
def si (o : Ob) (k : Nat) (v : Int32) : Ob := (va_up o.1 k v, o.2.1, o.2.2.1, o.2.2.2)
def sl (o : Ob) (k : Nat) (v : Int64) : Ob := (o.1, va_up o.2.1 k v, o.2.2.1, o.2.2.2)
def sA (o : Ob) (k : Nat) (v : Nat → Int32) : Ob := (o.1, o.2.1, va_up o.2.2.1 k v, o.2.2.2)
def sB (o : Ob) (k : Nat) (v : Nat → Int64) : Ob := (o.1, o.2.1, o.2.2.1, va_up o.2.2.2 k v)
def rd (f : Nat → Int32) (n : Nat) (i : Int32) : Int32 := if i < 0 then 0 else if i < nI n then f i.toNatClampNeg else 0
def rdL (f : Nat → Int64) (n : Nat) (i : Int32) : Int64 := if i < 0 then 0 else if i < nI n then f i.toNatClampNeg else 0
def wr (f : Nat → Int32) (n : Nat) (i : Int32) (v : Int32) : Nat → Int32 := if i < 0 then f else if i < nI n then upd f i.toNatClampNeg v else f
def wrL (f : Nat → Int64) (n : Nat) (i : Int32) (v : Int64) : Nat → Int64 := if i < 0 then f else if i < nI n then vp_updL f i.toNatClampNeg v else f
def b2i (b : Bool) : Int32 := cond b 1 0
def nN (x : Int32) : Nat := x.toInt.toNat
def us (x : Int64) (k : Int32) : Int64 := (x.toUInt64 >>> (k.toInt64.toUInt64 &&& Int64.toUInt64 63)).toInt64
def sh (x : Int64) (k : Int32) : Int64 := x <<< (k.toInt64 &&& 63)
def lp {σ : Type} (f : Nat → σ → σ) (n : Nat) (s : σ) : σ := Nat.rec s (fun k r => f k r) n
def lpW {σ : Type} (c : σ → Bool) (f : σ → σ) (n : Nat) (s : σ) : σ := Nat.rec s (fun _ r => if c r then f r else r) n
def fnd (p : Nat → Bool) (n : Nat) : Nat := Nat.rec 0 (fun k r => if r < k then r else if p k then k else k + 1) n
-- small ones
def bitL (n : Int32) : Int64 := sh 1 n
def hs (x : Int64) (n : Int32) : Bool := decide (¬ (us x n &&& 1) = 0)
def bc1 (x : Int64) : Int64 := x - (us x 1 &&& 6148914691236517205)
def bc2 (x : Int64) : Int64 := (x &&& 3689348814741910323) + (us x 2 &&& 3689348814741910323)
def bc3 (x : Int64) : Int64 := (x + us x 4) &&& 1085102592571150095
def bc4 (x : Int64) : Int64 := x + us x 8
def bc5 (x : Int64) : Int64 := x + us x 16
def bc6 (x : Int64) : Int64 := x + us x 32
def bc (x : Int64) : Int32 := (bc6 (bc5 (bc4 (bc3 (bc2 (bc1 x)))))).toInt32 &&& 127
def lowest (x : Int64) : Int32 := bc ((x &&& (-x)) - 1)
def jmp (k : Int32) : Bool := decide (k = 1) || decide (k = 2)
def isT (k : Int32) : Bool := decide (¬ k < 0) && decide (¬ 40 < k)
def imax (x y : Int32) : Int32 := if x < y then y else x
def imin (x y : Int32) : Int32 := if y < x then y else x
def spStep (next : Nat → Int64) (without : Int64) (p : Int64 × Int64) : Int64 × Int64 :=
  (p.1 ||| ((rdL next 40 (lowest p.2) &&& (p.1 ^^^ (-1))) &&& (without ^^^ (-1))), (p.2 &&& (bitL (lowest p.2) ^^^ (-1))) ||| ((rdL next 40 (lowest p.2) &&& (p.1 ^^^ (-1))) &&& (without ^^^ (-1))))
def spGo (p : Int64 × Int64) : Bool := decide (¬ p.2 = 0)
def spread (next : Nat → Int64) (set without : Int64) : Int64 :=
  (lpW spGo (spStep next without) 41 (set &&& (without ^^^ (-1)), set &&& (without ^^^ (-1)))).1
def mixI (d : Int64) (v : Int32) : Int64 := d * 31 + v.toInt64
def mixZ (d : Int64) (b : Bool) : Int64 := d * 31 + cond b 1 0
/- Code: int rows 0 kind, 1 target, 2 sets, 3 uses; ints 0 count -/
def coCopy (co : Ob) (source goal : Int32) : Ob :=
  sA (sA (sA (sA co 0 (wr (gA co 0) 40 goal (rd (gA co 0) 40 source))) 1 (wr (gA co 1) 40 goal (rd (gA co 1) 40 source))) 2 (wr (gA co 2) 40 goal (rd (gA co 2) 40 source))) 3 (wr (gA co 3) 40 goal (rd (gA co 3) 40 source))
/- Flow: int rows 0 home, 1 first, 2 last, 3 from, 4 to, 5 firstEdge; long rows 0 next; ints 0 blockCount, 1 edgeCount, 2 fresh; longs 0 reached -/
def leadA (co : Ob) (i : Nat) (l : Int64) : Int64 := if rd (gA co 0) 40 (nI i) = 0 then l else l ||| bitL (nI i + 1)
def leadStep (co : Ob) (i : Nat) (l : Int64) : Int64 := if jmp (rd (gA co 0) 40 (nI i)) then leadA co i l ||| bitL (rd (gA co 1) 40 (nI i)) else leadA co i l
def leaders (co : Ob) : Int64 := lp (leadStep co) (nN (gi co 0)) 1
def cutA (ld : Int64) (i : Nat) (fl : Ob) : Ob := if hs ld (nI i) then si (sA fl 1 (wr (gA fl 1) 40 (gi fl 0) (nI i))) 0 (gi fl 0 + 1) else fl
def cutB (i : Nat) (fl : Ob) : Ob := sA (sA fl 0 (wr (gA fl 0) 40 (nI i) (gi fl 0 - 1))) 2 (wr (gA fl 2) 40 (gi fl 0 - 1) (nI i))
def cutStep (ld : Int64) (i : Nat) (fl : Ob) : Ob := cutB i (cutA ld i fl)
def cut (fl : Ob) (count : Int32) (ld : Int64) : Ob := lp (cutStep ld) (nN count) (si fl 0 0)
def joinG (fl : Ob) (instr count : Int32) : Int32 := if instr < count then rd (gA fl 0) 40 instr else 40
def joinP (fl : Ob) (block goal : Int32) : Ob :=
  si (sA (sA (sB fl 0 (wrL (gB fl 0) 40 block (rdL (gB fl 0) 40 block ||| bitL goal))) 3 (wr (gA fl 3) 80 (gi fl 1) block)) 4 (wr (gA fl 4) 80 (gi fl 1) (if goal = 40 then -1 else goal))) 1 (gi fl 1 + 1)
def join (fl : Ob) (block instr count : Int32) : Ob := if hs (rdL (gB fl 0) 40 block) (joinG fl instr count) then fl else joinP fl block (joinG fl instr count)
def leaveA (co fl : Ob) (block e k : Int32) : Ob := if k = 0 then join fl block (e + 1) (gi co 0) else if k = 1 then join fl block (e + 1) (gi co 0) else fl
def leaveB (co fl : Ob) (block e k : Int32) : Ob := if jmp k then join fl block (rd (gA co 1) 40 e) (gi co 0) else fl
def leaveC (co fl : Ob) (block k : Int32) : Ob := if k = 3 then join fl block (gi co 0) (gi co 0) else fl
def leaveK (co fl : Ob) (block : Int32) : Int32 := rd (gA co 0) 40 (rd (gA fl 2) 40 block)
def leave (co fl : Ob) (block : Int32) : Ob :=
  leaveC co (leaveB co (leaveA co fl block (rd (gA fl 2) 40 block) (leaveK co fl block)) block (rd (gA fl 2) 40 block) (leaveK co fl block)) block (leaveK co fl block)
def partStep (co : Ob) (b : Nat) (fl : Ob) : Ob := leave co (sB (sA fl 5 (wr (gA fl 5) 41 (nI b) (gi fl 1))) 0 (wrL (gB fl 0) 40 (nI b) 0)) (nI b)
def partL (co fl : Ob) : Ob := lp (partStep co) (nN (gi (cut fl (gi co 0) (leaders co)) 0)) (si (cut fl (gi co 0) (leaders co)) 1 0)
def partE (fl : Ob) : Ob := sA fl 5 (wr (gA fl 5) 41 (gi fl 0) (gi fl 1))
def part (co fl : Ob) : Ob := sl (partE (partL co fl)) 0 (if 0 < gi (partL co fl) 0 then spread (gB (partL co fl) 0) 1 (bitL 40) else 0)
def windStep (fl : Ob) (e : Nat) (many : Int32) : Int32 := if hs (gl fl 0) (rd (gA fl 3) 80 (nI e)) then many + 1 else many
def windings (fl : Ob) : Int32 := if gi fl 0 = 0 then 0 else lp (windStep fl) (nN (gi fl 1)) 0 - bc (gl fl 0) - 1 + 2
/- Ranks: long rows 0 ruled, 1 loop, 2 previous, 3 onward; ints 0 loopCount, 1 tame, 2 fresh -/
def ruledBy (fl : Ob) (b : Int32) : Int64 := gl fl 0 &&& (spread (gB fl 0) 1 (bitL b) ^^^ (-1))
def rankA (fl : Ob) (b : Nat) (ra : Ob) : Ob :=
  sB (sB (sB ra 0 (wrL (gB ra 0) 40 (nI b) (if hs (gl fl 0) (nI b) then ruledBy fl (nI b) else 0))) 2 (wrL (gB ra 2) 40 (nI b) 0)) 1 (wrL (gB ra 1) 40 (nI b) 0)
def rules (ra : Ob) (one other : Int32) : Bool := hs (rdL (gB ra 0) 40 one) other
def sortA (b : Nat) (ra : Ob) : Ob := sB ra 3 (wrL (gB ra 3) 40 (nI b) 0)
def sortC (ra : Ob) (f t : Int32) : Ob := sB ra 2 (wrL (gB ra 2) 40 t (rdL (gB ra 2) 40 t ||| bitL f))
def sortD (ra : Ob) (f t : Int32) : Ob := if rules ra t f then sortC ra f t else sB (sortC ra f t) 3 (wrL (gB ra 3) 40 f (rdL (gB ra 3) 40 f ||| bitL t))
def sortB (fl : Ob) (e : Nat) (ra : Ob) : Ob :=
  if rd (gA fl 4) 80 (nI e) < 0 then ra else if hs (gl fl 0) (rd (gA fl 3) 80 (nI e)) then sortD ra (rd (gA fl 3) 80 (nI e)) (rd (gA fl 4) 80 (nI e)) else ra
def sortEdges (fl ra : Ob) : Ob := lp (sortB fl) (nN (gi fl 1)) (lp sortA 40 ra)
def clEnds (ra : Ob) (h : Int32) : Int64 := rdL (gB ra 2) 40 h &&& rdL (gB ra 0) 40 h
def closeLoop (ra : Ob) (h : Int32) : Ob :=
  if clEnds ra h = 0 then ra else si (sB ra 1 (wrL (gB ra 1) 40 h (bitL h ||| spread (gB ra 2) (clEnds ra h) (bitL h)))) 0 (gi ra 0 + 1)
def rankT (b : Nat) (ra : Ob) : Ob := if hs (spread (gB ra 3) (rdL (gB ra 3) 40 (nI b)) 0) (nI b) then si ra 1 0 else ra
def rankB (b : Nat) (ra : Ob) : Ob := rankT b (closeLoop ra (nI b))
def rank (fl ra : Ob) : Ob := lp rankB (nN (gi fl 0)) (si (si (sortEdges fl (lp (rankA fl) 40 ra)) 0 0) 1 1)
def nearStep (ra : Ob) (b : Int32) (d : Nat) (p : Int32 × Int32) : Int32 × Int32 :=
  if nI d = b then p else if rules ra (nI d) b then (if bc (rdL (gB ra 0) 40 (nI d)) < p.2 then (nI d, bc (rdL (gB ra 0) 40 (nI d))) else p) else p
def nearest (ra : Ob) (b : Int32) : Int32 := (lp (nearStep ra b) 40 (-1, 41)).1
def goesBack (ra fl : Ob) (e : Int32) : Bool := if rd (gA fl 4) 80 e < 0 then false else rules ra (rd (gA fl 4) 80 e) (rd (gA fl 3) 80 e)
def depStep (ra : Ob) (b : Int32) (h : Nat) (many : Int32) : Int32 := if hs (rdL (gB ra 1) 40 (nI h)) b then many + 1 else many
def depth (ra : Ob) (b : Int32) : Int32 := lp (depStep ra b) 40 0
/- Lives: int rows 0 live; ints 0 vainCount, 1 fresh -/
def ahead (co : Ob) (i now : Int32) : Int32 :=
  (if rd (gA co 2) 40 i < 0 then now else now &&& ((1 <<< (rd (gA co 2) 40 i &&& 31)) ^^^ (-1))) ||| rd (gA co 3) 40 i
def behStep (fl li : Ob) (b : Int32) (k : Nat) (now : Int32) : Int32 := if hs (rdL (gB fl 0) 40 b) (nI k) then now ||| rd (gA li 0) 40 (nI k) else now
def behind (fl li : Ob) (b : Int32) : Int32 := lp (behStep fl li b) (nN (gi fl 0)) 0
def scanN (fl : Ob) (b : Int32) : Nat := ((rd (gA fl 2) 40 b).toInt - (rd (gA fl 1) 40 b).toInt + 1).toNat
def scan (co fl : Ob) (b now : Int32) : Int32 := lp (fun j now => ahead co (rd (gA fl 2) 40 b - nI j) now) (scanN fl b) now
def passB (co fl : Ob) (b : Int32) (p : Ob × Bool) : Ob × Bool :=
  (sA p.1 0 (wr (gA p.1 0) 40 b (scan co fl b (behind fl p.1 b))), p.2 || decide (¬ scan co fl b (behind fl p.1 b) = rd (gA p.1 0) 40 b))
def passStep (co fl : Ob) (j : Nat) (p : Ob × Bool) : Ob × Bool := if hs (gl fl 0) (gi fl 0 - 1 - nI j) then passB co fl (gi fl 0 - 1 - nI j) p else p
def passUp (co fl li : Ob) : Ob × Bool := lp (passStep co fl) (nN (gi fl 0)) (li, false)
def vainStep (co fl : Ob) (b : Int32) (j : Nat) (p : Int32 × Int32) : Int32 × Int32 :=
  (if rd (gA co 2) 40 (rd (gA fl 2) 40 b - nI j) < 0 then p.1 else if hs p.2.toInt64 (rd (gA co 2) 40 (rd (gA fl 2) 40 b - nI j)) then p.1 else p.1 + 1, ahead co (rd (gA fl 2) 40 b - nI j) p.2)
def vainIn (co fl li : Ob) (b : Int32) : Int32 := (lp (vainStep co fl b) (scanN fl b) (0, behind fl li b)).1
def liInit (b : Nat) (li : Ob) : Ob := sA li 0 (wr (gA li 0) 40 (nI b) 0)
def foV (co fl : Ob) (b : Nat) (li : Ob) : Ob := if hs (gl fl 0) (nI b) then si li 0 (gi li 0 + vainIn co fl li (nI b)) else li
def foP (co fl li : Ob) : Ob := (lpW (fun p : Ob × Bool => p.2) (fun p => passUp co fl p.1) 41 (lp liInit 40 li, true)).1
def follow (co fl li : Ob) : Ob := lp (foV co fl) (nN (gi fl 0)) (si (foP co fl li) 0 0)
/- Reduction: long rows 0 next; int rows 0 home, 1 rule, 2 node, 3 entry; longs 0 nodes; ints 0 stepCount, 1 fresh -/
def reInit (fl : Ob) (b : Nat) (re : Ob) : Ob :=
  sA (sB re 0 (wrL (gB re 0) 40 (nI b) (if hs (gl re 0) (nI b) then rdL (gB fl 0) 40 (nI b) else 0))) 0 (wr (gA re 0) 40 (nI b) (if hs (gl re 0) (nI b) then nI b else -1))
def feA (re : Ob) (n : Nat) (p : Int64 × Int64) : Int64 × Int64 := (p.1 ||| rdL (gB re 0) 40 (nI n), p.2 ||| (p.1 &&& rdL (gB re 0) 40 (nI n)))
def feC (n : Nat) (re : Ob) : Ob := sA re 3 (wr (gA re 3) 41 (nI n) (-1))
def feB (mine : Int64) (n : Nat) (b : Nat) (re : Ob) : Ob := if hs mine (nI b) then sA re 3 (wr (gA re 3) 41 (nI b) (nI n)) else re
def feN (only : Int64) (n : Nat) (re : Ob) : Ob := lp (feB (rdL (gB re 0) 40 (nI n) &&& only) n) 40 re
def feOnly (re : Ob) : Int64 := (lp (feA re) 40 (0, bitL 40 ||| 1)).1 &&& ((lp (feA re) 40 (0, bitL 40 ||| 1)).2 ^^^ (-1))
def findEntries (re : Ob) : Ob := lp (feN (feOnly re)) 40 (lp feC 41 re)
def isSingle (re : Ob) (a b c : Int32) : Bool := decide (rd (gA re 3) 41 b = a) && decide (rdL (gB re 0) 40 b = bitL c)
def isDouble (re : Ob) (a b c : Int32) : Bool :=
  decide (rd (gA re 3) 41 b = a) && (decide (rd (gA re 3) 41 c = a) && (decide (bc (rdL (gB re 0) 40 b) = 1) && (decide (rdL (gB re 0) 40 b = rdL (gB re 0) 40 c) && decide ((rdL (gB re 0) 40 b &&& (bitL a ||| bitL b ||| bitL c)) = 0))))
def rfC (out : Int64) : Int32 := lowest (out &&& (bitL (lowest out) ^^^ (-1)))
def ruleTwo (re : Ob) (a b c : Int32) : Int32 := if isSingle re a b c then 2 else if isSingle re a c b then 2 else if isDouble re a b c then 3 else -1
def ruleFor (re : Ob) (a : Int32) : Int32 :=
  if hs (rdL (gB re 0) 40 a) a then 0
  else if bc (rdL (gB re 0) 40 a) = 1 then (if rd (gA re 3) 41 (lowest (rdL (gB re 0) 40 a)) = a then 1 else -1)
  else if bc (rdL (gB re 0) 40 a) = 2 then ruleTwo re a (lowest (rdL (gB re 0) 40 a)) (rfC (rdL (gB re 0) 40 a))
  else -1
def mgA (members : Int64) (n : Nat) (p : Ob × Int64) : Ob × Int64 :=
  if hs members (nI n) then (sB p.1 0 (wrL (gB p.1 0) 40 (nI n) 0), p.2 ||| rdL (gB p.1 0) 40 (nI n)) else p
def mgC (members : Int64) (name : Int32) (n : Nat) (re : Ob) : Ob :=
  if (rdL (gB re 0) 40 (nI n) &&& members) = 0 then re else sB re 0 (wrL (gB re 0) 40 (nI n) ((rdL (gB re 0) 40 (nI n) &&& (members ^^^ (-1))) ||| bitL name))
def mgD (members : Int64) (name : Int32) (n : Nat) (re : Ob) : Ob :=
  if rd (gA re 0) 40 (nI n) < 0 then re else if hs members (rd (gA re 0) 40 (nI n)) then sA re 0 (wr (gA re 0) 40 (nI n) name) else re
def mgB (members : Int64) (name : Int32) (n : Nat) (re : Ob) : Ob := mgD members name n (mgC members name n re)
def mgN (p : Ob × Int64) (members : Int64) (name : Int32) (circles : Bool) : Ob :=
  sl (sB p.1 0 (wrL (gB p.1 0) 40 name ((p.2 &&& (members ^^^ (-1))) ||| (if circles then bitL name else 0)))) 0 ((gl p.1 0 &&& (members ^^^ (-1))) ||| bitL name)
def merge (re : Ob) (members : Int64) (name : Int32) (circles : Bool) : Ob := lp (mgB members name) 40 (mgN (lp (mgA members) 40 (re, 0)) members name circles)
def apM (re : Ob) (found a : Int32) (out : Int64) : Int64 :=
  if found = 2 then (bitL a ||| out) &&& (bitL (if isSingle re a (lowest out) (rfC out) then rfC out else lowest out) ^^^ (-1)) else bitL a ||| out
def apC (re : Ob) (found a : Int32) (out : Int64) : Bool := decide (found = 1) && hs (rdL (gB re 0) 40 (lowest out)) a
def apply (re : Ob) (found a : Int32) : Ob :=
  if found = 0 then sB re 0 (wrL (gB re 0) 40 a (rdL (gB re 0) 40 a &&& (bitL a ^^^ (-1))))
  else merge re (apM re found a (rdL (gB re 0) 40 a)) (lowest (apM re found a (rdL (gB re 0) 40 a))) (apC re found a (rdL (gB re 0) 40 a))
def foundAt (re : Ob) (n : Nat) : Int32 := if hs (gl re 0) (nI n) then ruleFor re (nI n) else -1
def isFound (re : Ob) (n : Nat) : Bool := decide (¬ foundAt re n = -1)
def tsPut (re : Ob) (n : Nat) : Ob :=
  si (sA (sA re 1 (wr (gA re 1) 120 (gi re 0) (foundAt re n))) 2 (wr (gA re 2) 120 (gi re 0) (nI n))) 0 (gi re 0 + 1)
def takeF (re : Ob) (k : Nat) : Ob × Bool := if k < 40 then (apply (tsPut re k) (foundAt re k) (nI k), true) else (re, false)
def takeStep (re : Ob) : Ob × Bool := takeF (findEntries re) (fnd (isFound (findEntries re)) 40)
def reduce (fl re : Ob) : Ob := (lpW (fun p : Ob × Bool => p.2) (fun p => takeStep p.1) 120 (lp (reInit fl) 40 (si (sl re 0 (gl fl 0)) 0 0), true)).1
/- Walk: int rows 0 came, 1 upper, 2 lower, 3 open, 4 edge; ints 0 cameCount, 1 openCount; longs 0 seen, 1 stillGoing -/
def enter (fl wa : Ob) (b : Int32) : Ob :=
  sl (sl (sA (si (sA (si (sA wa 0 (wr (gA wa 0) 40 (gi wa 0) b)) 0 (gi wa 0 + 1)) 3 (wr (gA wa 3) 40 (gi wa 1) b)) 1 (gi wa 1 + 1)) 4 (wr (gA wa 4) 40 b (rd (gA fl 5) 41 b))) 0 (gl wa 0 ||| bitL b)) 1 (gl wa 1 ||| bitL b)
def goE (wa : Ob) (block : Int32) : Int32 := rd (gA wa 4) 40 block
def goM (wa : Ob) (block e goal : Int32) : Ob :=
  sA (sA (sA wa 4 (wr (gA wa 4) 40 block (e + 1))) 1 (wr (gA wa 1) 80 e (if hs (gl wa 1) goal then goal else block))) 2 (wr (gA wa 2) 80 e (if hs (gl wa 1) goal then block else goal))
def goD (fl wa : Ob) (block e goal : Int32) : Ob := if hs (gl wa 0) goal then goM wa block e goal else enter fl (goM wa block e goal) goal
def goF (fl wa : Ob) (block e goal : Int32) : Ob :=
  if goal < 0 then sA wa 4 (wr (gA wa 4) 40 block (e + 1)) else if goal = block then sA wa 4 (wr (gA wa 4) 40 block (e + 1)) else goD fl wa block e goal
def goOn (fl wa : Ob) (block : Int32) : Ob :=
  if goE wa block < rd (gA fl 5) 41 (block + 1) then goF fl wa block (goE wa block) (rd (gA fl 4) 80 (goE wa block))
  else sl (si wa 1 (gi wa 1 - 1)) 1 (gl wa 1 &&& (bitL block ^^^ (-1)))
def gtInit (e : Nat) (wa : Ob) : Ob := sA (sA wa 1 (wr (gA wa 1) 80 (nI e) (-1))) 2 (wr (gA wa 2) 80 (nI e) (-1))
def gtZero (wa : Ob) : Ob := lp gtInit 80 (sl (sl (si (si wa 0 0) 1 0) 0 0) 1 0)
def gtStart (fl wa : Ob) : Ob := if 0 < gi fl 0 then enter fl (gtZero wa) 0 else gtZero wa
def gtGo (wa : Ob) : Bool := decide (0 < gi wa 1)
def gtStep (fl wa : Ob) : Ob := goOn fl wa (rd (gA wa 3) 40 (gi wa 1 - 1))
def goThrough (fl wa : Ob) : Ob := lpW gtGo (gtStep fl) 120 (gtStart fl wa)
def draws (wa : Ob) (e : Int32) : Bool := decide (¬ rd (gA wa 1) 80 e < 0)
def turns (fl wa : Ob) (e : Int32) : Bool := draws wa e && decide (rd (gA wa 1) 80 e = rd (gA fl 4) 80 e)
/- Picture: int rows 0 layer, 1 start, 2 firstBend, 3 edgeOf, 4 order, 5 place, 6 kept, 7 sum, 8 lines, 9 above, 10 below; ints 0 edgeCount, 1 layerCount, 2 sweeps, 3 fresh -/
def topE (wa pi : Ob) (e : Int32) : Int32 := rd (gA pi 0) 40 (rd (gA wa 1) 80 e)
def botE (wa pi : Ob) (e : Int32) : Int32 := rd (gA pi 0) 40 (rd (gA wa 2) 80 e)
def pdPut (wa pi : Ob) (e : Int32) : Ob := sA pi 0 (wr (gA pi 0) 40 (rd (gA wa 2) 80 e) (topE wa pi e + 1))
def pdStep (wa : Ob) (e : Nat) (p : Ob × Bool) : Ob × Bool :=
  if draws wa (nI e) then (if topE wa p.1 (nI e) < botE wa p.1 (nI e) then p else (pdPut wa p.1 (nI e), true)) else p
def pushDown (wa pi : Ob) : Ob × Bool := lp (pdStep wa) (nN (gi pi 0)) (pi, false)
def slInit (wa : Ob) (b : Nat) (pi : Ob) : Ob := sA pi 0 (wr (gA pi 0) 40 (nI b) (if hs (gl wa 0) (nI b) then 0 else -1))
def slMax (b : Nat) (pi : Ob) : Ob := si pi 1 (imax (gi pi 1) (rd (gA pi 0) 40 (nI b) + 1))
def slPush (wa pi : Ob) : Ob := (lpW (fun p : Ob × Bool => p.2) (fun p => pushDown wa p.1) 40 (lp (slInit wa) 40 pi, true)).1
def setLayers (wa pi : Ob) : Ob := lp slMax 40 (si (slPush wa pi) 1 0)
def bendCount (wa pi : Ob) (e : Int32) : Int32 := if draws wa e then botE wa pi e - topE wa pi e - 1 else -1
def nbIn (e : Nat) (_k : Nat) (p : Ob × Int32) : Ob × Int32 := (sA p.1 3 (wr (gA p.1 3) 1600 p.2 (nI e)), p.2 + 1)
def nbPut (e : Nat) (p : Ob × Int32) : Ob := sA p.1 2 (wr (gA p.1 2) 80 (nI e) p.2)
def nbStep (wa : Ob) (e : Nat) (p : Ob × Int32) : Ob × Int32 := lp (nbIn e) (nN (bendCount wa (nbPut e p) (nI e))) (nbPut e p, p.2)
def numberBends (wa pi : Ob) : Ob := (lp (nbStep wa) (nN (gi pi 0)) (pi, 40)).1
def putPoint (pi : Ob) (l ix pt : Int32) : Ob := sA (sA pi 4 (wr (gA pi 4) 1600 ix pt)) 5 (wr (gA pi 5) 1600 pt (ix - rd (gA pi 1) 41 l))
def pointOn (wa pi : Ob) (e l : Int32) : Int32 :=
  if l = topE wa pi e then rd (gA wa 1) 80 e else if l = botE wa pi e then rd (gA wa 2) 80 e else rd (gA pi 2) 80 e + l - topE wa pi e - 1
def fiA (wa : Ob) (l : Int32) (i : Nat) (p : Ob × Int32) : Ob × Int32 :=
  if rd (gA p.1 0) 40 (rd (gA wa 0) 40 (nI i)) = l then (putPoint p.1 l p.2 (rd (gA wa 0) 40 (nI i)), p.2 + 1) else p
def fiB (wa : Ob) (l : Int32) (e : Nat) (p : Ob × Int32) : Ob × Int32 :=
  if draws wa (nI e) then (if topE wa p.1 (nI e) < l then (if l < botE wa p.1 (nI e) then (putPoint p.1 l p.2 (pointOn wa p.1 (nI e) l), p.2 + 1) else p) else p) else p
def fill (wa pi : Ob) (l filled : Int32) : Ob × Int32 := lp (fiB wa l) (nN (gi pi 0)) (lp (fiA wa l) (nN (gi wa 0)) (pi, filled))
def drStep (wa : Ob) (l : Nat) (p : Ob × Int32) : Ob × Int32 := fill wa (sA p.1 1 (wr (gA p.1 1) 41 (nI l) p.2)) (nI l) p.2
def drNum (fl wa pi : Ob) : Ob := numberBends (goThrough fl wa) (setLayers (goThrough fl wa) (si (si pi 0 (gi fl 1)) 2 0))
def drFill (fl wa pi : Ob) : Ob × Int32 := lp (drStep (goThrough fl wa)) (nN (gi (drNum fl wa pi) 1)) (drNum fl wa pi, 0)
def draw (fl wa pi : Ob) : Ob := sA (drFill fl wa pi).1 1 (wr (gA (drFill fl wa pi).1 1) 41 (gi (drFill fl wa pi).1 1) (drFill fl wa pi).2)
def sizeOf (pi : Ob) (l : Int32) : Int32 := rd (gA pi 1) 41 (l + 1) - rd (gA pi 1) 41 l
def shPt (pi : Ob) (l spot : Int32) : Int32 := rd (gA pi 4) 1600 (rd (gA pi 1) 41 l + spot)
def shownAt (pi : Ob) (l spot : Int32) : Int32 := if shPt pi l spot < 40 then shPt pi l spot else -1 - rd (gA pi 3) 1600 (shPt pi l spot)
def placeB (pi : Ob) (b : Int32) : Int32 := if rd (gA pi 0) 40 b < 0 then -1 else rd (gA pi 5) 1600 b
def placeBend (pi : Ob) (e bend : Int32) : Int32 := rd (gA pi 5) 1600 (rd (gA pi 2) 80 e + bend)
def msStep (wa pi : Ob) (e : Nat) (p : Int32 × Int32) : Int32 × Int32 := if draws wa (nI e) then (p.1 + 1, p.2 + (botE wa pi (nI e) - topE wa pi (nI e))) else p
def msAll (wa pi : Ob) : Int32 × Int32 := lp (msStep wa pi) (nN (gi pi 0)) (0, 0)
def leaves (wa pi : Ob) (e l : Int32) : Bool := draws wa e && (decide (¬ l < topE wa pi e) && decide (l < botE wa pi e))
def cuA (wa : Ob) (l : Int32) (e : Nat) (p : Ob × Int32) : Ob × Int32 :=
  if leaves wa p.1 (nI e) l then (sA (sA p.1 9 (wr (gA p.1 9) 80 p.2 (rd (gA p.1 5) 1600 (pointOn wa p.1 (nI e) l)))) 10 (wr (gA p.1 10) 80 p.2 (rd (gA p.1 5) 1600 (pointOn wa p.1 (nI e) (l + 1)))), p.2 + 1) else p
def cuB (pi : Ob) (i : Nat) (j : Nat) (many : Int32) : Int32 :=
  if (rd (gA pi 9) 80 (nI i) - rd (gA pi 9) 80 (nI j)) * (rd (gA pi 10) 80 (nI i) - rd (gA pi 10) 80 (nI j)) < 0 then many + 1 else many
def cuC (pi : Ob) (i : Nat) (many : Int32) : Int32 := lp (cuB pi i) i many
def cuP (wa pi : Ob) (l : Int32) : Ob × Int32 := lp (cuA wa l) (nN (gi pi 0)) (pi, 0)
def crossN (wa pi : Ob) (l : Int32) : Int32 := lp (cuC (cuP wa pi l).1) (nN (cuP wa pi l).2) 0
def ccStep (wa : Ob) (l : Nat) (p : Ob × Int32) : Ob × Int32 := ((cuP wa p.1 (nI l)).1, p.2 + crossN wa p.1 (nI l))
def countCross (wa pi : Ob) : Ob × Int32 := lp (ccStep wa) (nN (gi pi 1 - 1)) (pi, 0)
def weA (i : Nat) (pi : Ob) : Ob := sA (sA pi 7 (wr (gA pi 7) 120 (nI i) 0)) 8 (wr (gA pi 8) 120 (nI i) 0)
def weSpot (wa pi : Ob) (l : Int32) (e : Nat) : Int32 := rd (gA pi 5) 1600 (pointOn wa pi (nI e) l)
def weB (wa : Ob) (l other over : Int32) (e : Nat) (pi : Ob) : Ob :=
  if leaves wa pi (nI e) over then
    sA (sA pi 7 (wr (gA pi 7) 120 (weSpot wa pi l e) (rd (gA pi 7) 120 (weSpot wa pi l e) + weSpot wa pi other e))) 8 (wr (gA pi 8) 120 (weSpot wa pi l e) (rd (gA pi 8) 120 (weSpot wa pi l e) + 1))
  else pi
def weC (i : Nat) (pi : Ob) : Ob := if rd (gA pi 8) 120 (nI i) = 0 then sA (sA pi 7 (wr (gA pi 7) 120 (nI i) (nI i))) 8 (wr (gA pi 8) 120 (nI i) 1) else pi
def weigh (wa pi : Ob) (l other size : Int32) : Ob := lp weC (nN size) (lp (weB wa l other (imin l other)) (nN (gi pi 0)) (lp weA (nN size) pi))
def isAhead (pi : Ob) (point other : Int32) : Bool :=
  decide (rd (gA pi 7) 120 (rd (gA pi 5) 1600 point) * rd (gA pi 8) 120 (rd (gA pi 5) 1600 other) < rd (gA pi 7) 120 (rd (gA pi 5) 1600 other) * rd (gA pi 8) 120 (rd (gA pi 5) 1600 point))
def slidePut (base : Int32) (k : Nat) (pi : Ob) : Ob := sA pi 4 (wr (gA pi 4) 1600 (base + nI (k + 1)) (rd (gA pi 4) 1600 (base + nI (k + 1) - 1)))
def slide (base point : Int32) (k : Nat) : Ob → Ob × Nat :=
  Nat.rec (fun pi => (pi, 0)) (fun k r pi => if isAhead pi point (rd (gA pi 4) 1600 (base + nI (k + 1) - 1)) then r (slidePut base k pi) else (pi, k + 1)) k
def arPoint (base : Int32) (i : Nat) (pi : Ob) : Int32 := rd (gA pi 4) 1600 (base + nI i)
def arStep (base : Int32) (j : Nat) (pi : Ob) : Ob :=
  sA (slide base (arPoint base (j + 1) pi) (j + 1) pi).1 4 (wr (gA (slide base (arPoint base (j + 1) pi) (j + 1) pi).1 4) 1600 (base + nI (slide base (arPoint base (j + 1) pi) (j + 1) pi).2) (arPoint base (j + 1) pi))
def arPut (l base : Int32) (i : Nat) (pi : Ob) : Ob := putPoint pi l (base + nI i) (rd (gA pi 4) 1600 (base + nI i))
def arrange (wa pi : Ob) (l other : Int32) : Ob :=
  lp (arPut l (rd (gA pi 1) 41 l)) (nN (sizeOf pi l)) (lp (arStep (rd (gA pi 1) 41 l)) (nN (sizeOf pi l) - 1) (weigh wa pi l other (sizeOf pi l)))
def soK (wa : Ob) (down : Bool) (j : Nat) (pi : Ob) : Ob :=
  if down then arrange wa pi (nI (j + 1)) (nI (j + 1) - 1) else arrange wa pi (gi pi 1 - 1 - nI (j + 1)) (gi pi 1 - nI (j + 1))
def soDown (pi : Ob) : Bool := decide ((gi pi 2 &&& 1) = 0)
def soAll (wa pi : Ob) : Ob := lp (soK wa (soDown pi)) (nN (gi pi 1) - 1) pi
def soStep (wa : Ob) (_i : Nat) (pi : Ob) : Ob := si (soAll wa pi) 2 (gi (soAll wa pi) 2 + 1)
def sweepOften (wa pi : Ob) (many : Int32) : Ob := lp (soStep wa) (nN many) pi
def toKeep (i : Nat) (pi : Ob) : Ob := sA pi 6 (wr (gA pi 6) 1600 (nI i) (rd (gA pi 4) 1600 (nI i)))
def toAll (pi : Ob) : Ob := lp toKeep (nN (rd (gA pi 1) 41 (gi pi 1))) pi
def toB (l a : Int32) (j : Nat) (pi : Ob) : Ob := putPoint pi l (a + nI j) (rd (gA pi 6) 1600 (a + nI j))
def toL (l : Nat) (pi : Ob) : Ob := lp (toB (nI l) (rd (gA pi 1) 41 (nI l))) ((rd (gA pi 1) 41 (nI l + 1)).toInt - (rd (gA pi 1) 41 (nI l)).toInt).toNat pi
def toQ (wa pi : Ob) (many : Int32) : Ob × Int32 := countCross wa (sweepOften wa (toAll pi) many)
def tryOut (wa pi : Ob) (many : Int32) : Ob := si (lp toL (nN (gi (toQ wa pi many).1 1)) (toQ wa pi many).1) 2 (gi pi 2)

def XW (ad : Nat → Nat) (cI cJ : ClassId) (co fl ra li re wa pi : Ob) : va_W := [(ad 0, .inr (7, [.ref (ad 1), .ref (ad 2), .ref (ad 3), .ref (ad 4), .ref (ad 5), .ref (ad 6)])), (ad 1, .inr (0, [.ref (ad 8), .ref (ad 9), .ref (ad 10), .ref (ad 11), .int (gi co 0)])), (ad 2, .inr (1, [.ref (ad 12), .ref (ad 13), .ref (ad 14), .ref (ad 15), .ref (ad 16), .ref (ad 17), .ref (ad 18), .int (gi fl 0), .int (gi fl 1), .long (gl fl 0), .int (gi fl 2)])), (ad 3, .inr (4, [.ref (ad 19), .ref (ad 20), .ref (ad 21), .ref (ad 22), .int (gi ra 0), .int (gi ra 1), .int (gi ra 2)])), (ad 4, .inr (2, [.ref (ad 23), .int (gi li 0), .int (gi li 1)])), (ad 5, .inr (5, [.ref (ad 24), .ref (ad 25), .ref (ad 26), .ref (ad 27), .ref (ad 28), .long (gl re 0), .int (gi re 0), .int (gi re 1)])), (ad 6, .inr (3, [.ref (ad 7), .ref (ad 34), .ref (ad 35), .ref (ad 36), .ref (ad 37), .ref (ad 38), .ref (ad 39), .ref (ad 40), .ref (ad 41), .ref (ad 42), .ref (ad 43), .ref (ad 44), .int (gi pi 0), .int (gi pi 1), .int (gi pi 2), .int (gi pi 3)])), (ad 7, .inr (6, [.ref (ad 29), .ref (ad 30), .ref (ad 31), .ref (ad 32), .ref (ad 33), .int (gi wa 0), .int (gi wa 1), .long (gl wa 0), .long (gl wa 1)])), (ad 8, .inl (cI, 40, .inl (gA co 0))), (ad 9, .inl (cI, 40, .inl (gA co 1))), (ad 10, .inl (cI, 40, .inl (gA co 2))), (ad 11, .inl (cI, 40, .inl (gA co 3))), (ad 12, .inl (cI, 40, .inl (gA fl 0))), (ad 13, .inl (cI, 40, .inl (gA fl 1))), (ad 14, .inl (cI, 40, .inl (gA fl 2))), (ad 15, .inl (cI, 80, .inl (gA fl 3))), (ad 16, .inl (cI, 80, .inl (gA fl 4))), (ad 17, .inl (cI, 41, .inl (gA fl 5))), (ad 18, .inl (cJ, 40, .inr (.inl (gB fl 0)))), (ad 19, .inl (cJ, 40, .inr (.inl (gB ra 0)))), (ad 20, .inl (cJ, 40, .inr (.inl (gB ra 1)))), (ad 21, .inl (cJ, 40, .inr (.inl (gB ra 2)))), (ad 22, .inl (cJ, 40, .inr (.inl (gB ra 3)))), (ad 23, .inl (cI, 40, .inl (gA li 0))), (ad 24, .inl (cJ, 40, .inr (.inl (gB re 0)))), (ad 25, .inl (cI, 40, .inl (gA re 0))), (ad 26, .inl (cI, 120, .inl (gA re 1))), (ad 27, .inl (cI, 120, .inl (gA re 2))), (ad 28, .inl (cI, 41, .inl (gA re 3))), (ad 29, .inl (cI, 40, .inl (gA wa 0))), (ad 30, .inl (cI, 80, .inl (gA wa 1))), (ad 31, .inl (cI, 80, .inl (gA wa 2))), (ad 32, .inl (cI, 40, .inl (gA wa 3))), (ad 33, .inl (cI, 40, .inl (gA wa 4))), (ad 34, .inl (cI, 40, .inl (gA pi 0))), (ad 35, .inl (cI, 41, .inl (gA pi 1))), (ad 36, .inl (cI, 80, .inl (gA pi 2))), (ad 37, .inl (cI, 1600, .inl (gA pi 3))), (ad 38, .inl (cI, 1600, .inl (gA pi 4))), (ad 39, .inl (cI, 1600, .inl (gA pi 5))), (ad 40, .inl (cI, 1600, .inl (gA pi 6))), (ad 41, .inl (cI, 120, .inl (gA pi 7))), (ad 42, .inl (cI, 120, .inl (gA pi 8))), (ad 43, .inl (cI, 80, .inl (gA pi 9))), (ad 44, .inl (cI, 80, .inl (gA pi 10)))]
theorem gi_sl (o : Ob) (k j : Nat) (v : Int64) : gi (sl o k v) j = gi o j := rfl
theorem gi_sA (o : Ob) (k j : Nat) (v : Nat → Int32) : gi (sA o k v) j = gi o j := rfl
theorem gi_sB (o : Ob) (k j : Nat) (v : Nat → Int64) : gi (sB o k v) j = gi o j := rfl
theorem gi_si_s (o : Ob) (k : Nat) (v : Int32) : gi (si o k v) k = v := if_pos rfl
theorem gi_si_n (o : Ob) (k j : Nat) (v : Int32) (h : (j == k) = false) : gi (si o k v) j = gi o j := if_neg (fun z => by subst z; simp at h)
theorem gl_si (o : Ob) (k j : Nat) (v : Int32) : gl (si o k v) j = gl o j := rfl
theorem gl_sA (o : Ob) (k j : Nat) (v : Nat → Int32) : gl (sA o k v) j = gl o j := rfl
theorem gl_sB (o : Ob) (k j : Nat) (v : Nat → Int64) : gl (sB o k v) j = gl o j := rfl
theorem gl_sl_s (o : Ob) (k : Nat) (v : Int64) : gl (sl o k v) k = v := if_pos rfl
theorem gl_sl_n (o : Ob) (k j : Nat) (v : Int64) (h : (j == k) = false) : gl (sl o k v) j = gl o j := if_neg (fun z => by subst z; simp at h)
theorem gA_si (o : Ob) (k j : Nat) (v : Int32) : gA (si o k v) j = gA o j := rfl
theorem gA_sl (o : Ob) (k j : Nat) (v : Int64) : gA (sl o k v) j = gA o j := rfl
theorem gA_sB (o : Ob) (k j : Nat) (v : Nat → Int64) : gA (sB o k v) j = gA o j := rfl
theorem gA_sA_s (o : Ob) (k : Nat) (v : Nat → Int32) : gA (sA o k v) k = v := if_pos rfl
theorem gA_sA_n (o : Ob) (k j : Nat) (v : Nat → Int32) (h : (j == k) = false) : gA (sA o k v) j = gA o j := if_neg (fun z => by subst z; simp at h)
theorem gB_si (o : Ob) (k j : Nat) (v : Int32) : gB (si o k v) j = gB o j := rfl
theorem gB_sl (o : Ob) (k j : Nat) (v : Int64) : gB (sl o k v) j = gB o j := rfl
theorem gB_sA (o : Ob) (k j : Nat) (v : Nat → Int32) : gB (sA o k v) j = gB o j := rfl
theorem gB_sB_s (o : Ob) (k : Nat) (v : Nat → Int64) : gB (sB o k v) k = v := if_pos rfl
theorem gB_sB_n (o : Ob) (k j : Nat) (v : Nat → Int64) (h : (j == k) = false) : gB (sB o k v) j = gB o j := if_neg (fun z => by subst z; simp at h)

abbrev TY (cI cJ : ClassId) : List (ClassId × FieldType) := [(cI, .int), (cJ, .long)]
theorem xw_eq {ad : Nat → Nat} {cI cJ : ClassId} {co fl ra li re wa pi co2 fl2 ra2 li2 re2 wa2 pi2 : Ob} (h1 : co = co2) (h2 : fl = fl2) (h3 : ra = ra2) (h4 : li = li2) (h5 : re = re2) (h6 : wa = wa2) (h7 : pi = pi2) : XW ad cI cJ co fl ra li re wa pi = XW ad cI cJ co2 fl2 ra2 li2 re2 wa2 pi2 := by
  rw [h1, h2, h3, h4, h5, h6, h7]
theorem i_ge {x y : Int32} (h : y ≤ x) : ¬ x < y := fun z => by
  rw [Int32.lt_iff_toInt_lt] at z
  rw [Int32.le_iff_toInt_le] at h
  omega
theorem i_nge {x y : Int32} (h : ¬ y ≤ x) : x < y := by
  rw [Int32.le_iff_toInt_le] at h
  rw [Int32.lt_iff_toInt_lt]
  omega
theorem i_ge' {x y : Int32} (h : ¬ x < y) : y ≤ x := by
  rw [Int32.lt_iff_toInt_lt] at h
  rw [Int32.le_iff_toInt_le]
  omega
theorem b2i_tt : b2i true = 1 := rfl
theorem b2i_ff : b2i false = 0 := rfl
theorem b2i_0 {b : Bool} (h : b2i b = 0) : ¬ b = true := by
  cases b
  · decide
  · exact absurd h (by decide)
theorem b2i_1 {b : Bool} (h : ¬ b2i b = 0) : b = true := by
  cases b
  · exact absurd rfl h
  · rfl
theorem bf_of {b : Bool} (h : ¬ b = true) : b = false := by
  cases b
  · rfl
  · exact absurd rfl h
theorem nar_b2i {b : Bool} : narrow .boolean (.int (b2i b)) = .int (b2i b) := by cases b <;> rfl
theorem lcmp_0 {x y : Int64} (h : lg_cmp x y = 0) : x = y := by
  unfold lg_cmp at h
  by_cases h1 : x > y
  · rw [if_pos h1] at h; exact absurd h (by decide)
  · rw [if_neg h1] at h
    by_cases h2 : x = y
    · exact h2
    · rw [if_neg h2] at h; exact absurd h (by decide)
theorem lcmp_1 {x y : Int64} (h : ¬ lg_cmp x y = 0) : ¬ x = y := fun z => h (by
  subst z
  unfold lg_cmp
  by_cases h1 : x > x
  · exact absurd h1 (Int64.lt_irrefl)
  · rw [if_neg h1, if_pos rfl])
theorem lp_go {σ : Type} {f : Nat → σ → σ} {i : Nat} {s p : σ} (h : p = lp f i s) : f i p = lp f (i + 1) s := by subst h; rfl
theorem lpW_go {σ : Type} {c : σ → Bool} {f : σ → σ} {i : Nat} {s p : σ} (h : p = lpW c f i s) (hc : c p = true) : f p = lpW c f (i + 1) s := by
  subst h
  show _ = (if c (lpW c f i s) = true then f (lpW c f i s) else lpW c f i s)
  rw [if_pos hc]
theorem lpW_same {σ : Type} {c : σ → Bool} {f : σ → σ} {s : σ} (hc : c s = false) (n : Nat) : lpW c f n s = s := by
  induction n with
  | zero => rfl
  | succ n ih =>
    show (if c (lpW c f n s) = true then f (lpW c f n s) else lpW c f n s) = s
    rw [ih, if_neg (by rw [hc]; decide)]
theorem lpW_stop {σ : Type} {c : σ → Bool} {f : σ → σ} {i n : Nat} {s p : σ} (h : p = lpW c f i s) (hc : c p = false) (hn : i ≤ n) : p = lpW c f n s := by
  subst h
  obtain ⟨k, rfl⟩ : ∃ k, n = i + k := ⟨n - i, by omega⟩
  induction k with
  | zero => rfl
  | succ k ih =>
    show _ = (if c (lpW c f (i + k) s) = true then f (lpW c f (i + k) s) else lpW c f (i + k) s)
    rw [← ih (by omega), if_neg (by rw [hc]; decide)]
theorem nN_lt (b : Int32) : nN b < 2 ^ 31 := by
  have h := b.toInt_lt
  unfold nN
  omega
theorem lp_out (b : Int32) : b ≤ nI (nN b) := by
  rw [Int32.le_iff_toInt_le, nI_toInt (nN_lt b)]
  unfold nN
  omega
theorem lp_in {b : Int32} {i : Nat} (h : i < nN b) : ¬ b ≤ nI i := by
  have h2 := nN_lt b
  rw [Int32.le_iff_toInt_le, nI_toInt (by omega)]
  unfold nN at h
  omega
theorem nI_01 : nI (0 + 1) = 1 := rfl
theorem sub_nI0 (x : Int32) : x - nI 0 = x := by
  apply Int32.toBitVec_inj.mp
  rw [Int32.toBitVec_sub]
  show x.toBitVec - 0#32 = x.toBitVec
  simp
theorem add_nI0 (x : Int32) : x + nI 0 = x := by
  apply Int32.toBitVec_inj.mp
  rw [Int32.toBitVec_add]
  show x.toBitVec + 0#32 = x.toBitVec
  simp
theorem add_nI1 (x : Int32) (i : Nat) : x + nI i + 1 = x + nI (i + 1) := by
  rw [← nI_1 i, Int32.add_assoc]
theorem sub_nI1 (x : Int32) (i : Nat) : x - nI i + (-1) = x - nI (i + 1) := by
  rw [← nI_1 i, Int32.sub_eq_add_neg, Int32.sub_eq_add_neg, Int32.neg_add, Int32.sub_eq_add_neg, Int32.add_assoc]
theorem set_same {w : va_W} {q0 : Nat} {e : Nat × va_E} (hq : w[q0]? = some e) : w.set q0 e = w := by
  obtain ⟨h, e9⟩ := List.getElem?_eq_some_iff.mp hq
  apply List.ext_getElem?
  intro j
  by_cases hj : j = q0
  · subst hj
    rw [List.getElem?_set_self h, hq]
  · rw [List.getElem?_set_ne (Ne.symm hj)]
theorem vp_yes {i : Int32} {n : Nat} (hn : n < 2 ^ 31) (h0 : ¬ i < 0) (h : i < nI n) : vp_in i n := by
  rw [vp_in_iff]
  rw [Int32.lt_iff_toInt_lt, nI_toInt hn] at h
  rw [Int32.lt_iff_toInt_lt, Int32.toInt_zero] at h0
  omega
end
section
theorem dX7_at_0 : decode cX7_at 0 = .ok (.aload_n 0, 1) := by decide +kernel
theorem dX7_at_1 : decode cX7_at 1 = .ok (.ifnull 19, 3) := by decide +kernel
theorem dX7_at_4 : decode cX7_at 4 = .ok (.iload_n 1, 1) := by decide +kernel
theorem dX7_at_5 : decode cX7_at 5 = .ok (.ifCond .lt 15, 3) := by decide +kernel
theorem dX7_at_8 : decode cX7_at 8 = .ok (.iload_n 1, 1) := by decide +kernel
theorem dX7_at_9 : decode cX7_at 9 = .ok (.aload_n 0, 1) := by decide +kernel
theorem dX7_at_10 : decode cX7_at 10 = .ok (.arraylength, 1) := by decide +kernel
theorem dX7_at_11 : decode cX7_at 11 = .ok (.if_icmp .ge 9, 3) := by decide +kernel
theorem dX7_at_14 : decode cX7_at 14 = .ok (.aload_n 0, 1) := by decide +kernel
theorem dX7_at_15 : decode cX7_at 15 = .ok (.iload_n 1, 1) := by decide +kernel
theorem dX7_at_16 : decode cX7_at 16 = .ok (.iaload, 1) := by decide +kernel
theorem dX7_at_17 : decode cX7_at 17 = .ok (.goto 4, 3) := by decide +kernel
theorem dX7_at_20 : decode cX7_at 20 = .ok (.iconst 0, 1) := by decide +kernel
theorem dX7_at_21 : decode cX7_at 21 = .ok (.ireturn, 1) := by decide +kernel
theorem dX7_at__0 : decode cX7_at_ 0 = .ok (.aload_n 0, 1) := by decide +kernel
theorem dX7_at__1 : decode cX7_at_ 1 = .ok (.ifnull 19, 3) := by decide +kernel
theorem dX7_at__4 : decode cX7_at_ 4 = .ok (.iload_n 1, 1) := by decide +kernel
theorem dX7_at__5 : decode cX7_at_ 5 = .ok (.ifCond .lt 15, 3) := by decide +kernel
theorem dX7_at__8 : decode cX7_at_ 8 = .ok (.iload_n 1, 1) := by decide +kernel
theorem dX7_at__9 : decode cX7_at_ 9 = .ok (.aload_n 0, 1) := by decide +kernel
theorem dX7_at__10 : decode cX7_at_ 10 = .ok (.arraylength, 1) := by decide +kernel
theorem dX7_at__11 : decode cX7_at_ 11 = .ok (.if_icmp .ge 9, 3) := by decide +kernel
theorem dX7_at__14 : decode cX7_at_ 14 = .ok (.aload_n 0, 1) := by decide +kernel
theorem dX7_at__15 : decode cX7_at_ 15 = .ok (.iload_n 1, 1) := by decide +kernel
theorem dX7_at__16 : decode cX7_at_ 16 = .ok (.laload, 1) := by decide +kernel
theorem dX7_at__17 : decode cX7_at_ 17 = .ok (.goto 4, 3) := by decide +kernel
theorem dX7_at__20 : decode cX7_at_ 20 = .ok (.lconst 0, 1) := by decide +kernel
theorem dX7_at__21 : decode cX7_at_ 21 = .ok (.lreturn, 1) := by decide +kernel
theorem dX7_put_0 : decode cX7_put 0 = .ok (.aload_n 0, 1) := by decide +kernel
theorem dX7_put_1 : decode cX7_put 1 = .ok (.ifnull 17, 3) := by decide +kernel
theorem dX7_put_4 : decode cX7_put 4 = .ok (.iload_n 1, 1) := by decide +kernel
theorem dX7_put_5 : decode cX7_put 5 = .ok (.ifCond .lt 13, 3) := by decide +kernel
theorem dX7_put_8 : decode cX7_put 8 = .ok (.iload_n 1, 1) := by decide +kernel
theorem dX7_put_9 : decode cX7_put 9 = .ok (.aload_n 0, 1) := by decide +kernel
theorem dX7_put_10 : decode cX7_put 10 = .ok (.arraylength, 1) := by decide +kernel
theorem dX7_put_11 : decode cX7_put 11 = .ok (.if_icmp .ge 7, 3) := by decide +kernel
theorem dX7_put_14 : decode cX7_put 14 = .ok (.aload_n 0, 1) := by decide +kernel
theorem dX7_put_15 : decode cX7_put 15 = .ok (.iload_n 1, 1) := by decide +kernel
theorem dX7_put_16 : decode cX7_put 16 = .ok (.iload_n 2, 1) := by decide +kernel
theorem dX7_put_17 : decode cX7_put 17 = .ok (.iastore, 1) := by decide +kernel
theorem dX7_put_18 : decode cX7_put 18 = .ok (.return_, 1) := by decide +kernel
theorem dX7_put__0 : decode cX7_put_ 0 = .ok (.aload_n 0, 1) := by decide +kernel
theorem dX7_put__1 : decode cX7_put_ 1 = .ok (.ifnull 17, 3) := by decide +kernel
theorem dX7_put__4 : decode cX7_put_ 4 = .ok (.iload_n 1, 1) := by decide +kernel
theorem dX7_put__5 : decode cX7_put_ 5 = .ok (.ifCond .lt 13, 3) := by decide +kernel
theorem dX7_put__8 : decode cX7_put_ 8 = .ok (.iload_n 1, 1) := by decide +kernel
theorem dX7_put__9 : decode cX7_put_ 9 = .ok (.aload_n 0, 1) := by decide +kernel
theorem dX7_put__10 : decode cX7_put_ 10 = .ok (.arraylength, 1) := by decide +kernel
theorem dX7_put__11 : decode cX7_put_ 11 = .ok (.if_icmp .ge 7, 3) := by decide +kernel
theorem dX7_put__14 : decode cX7_put_ 14 = .ok (.aload_n 0, 1) := by decide +kernel
theorem dX7_put__15 : decode cX7_put_ 15 = .ok (.iload_n 1, 1) := by decide +kernel
theorem dX7_put__16 : decode cX7_put_ 16 = .ok (.lload_n 2, 1) := by decide +kernel
theorem dX7_put__17 : decode cX7_put_ 17 = .ok (.lastore, 1) := by decide +kernel
theorem dX7_put__18 : decode cX7_put_ 18 = .ok (.return_, 1) := by decide +kernel
theorem dX7_bit_0 : decode cX7_bit 0 = .ok (.lconst 1, 1) := by decide +kernel
theorem dX7_bit_1 : decode cX7_bit 1 = .ok (.iload_n 0, 1) := by decide +kernel
theorem dX7_bit_2 : decode cX7_bit 2 = .ok (.lshl, 1) := by decide +kernel
theorem dX7_bit_3 : decode cX7_bit 3 = .ok (.lreturn, 1) := by decide +kernel
theorem dX7_has_0 : decode cX7_has 0 = .ok (.lload_n 0, 1) := by decide +kernel
theorem dX7_has_1 : decode cX7_has 1 = .ok (.iload_n 2, 1) := by decide +kernel
theorem dX7_has_2 : decode cX7_has 2 = .ok (.lushr, 1) := by decide +kernel
theorem dX7_has_3 : decode cX7_has 3 = .ok (.lconst 1, 1) := by decide +kernel
theorem dX7_has_4 : decode cX7_has 4 = .ok (.land, 1) := by decide +kernel
theorem dX7_has_5 : decode cX7_has 5 = .ok (.lconst 0, 1) := by decide +kernel
theorem dX7_has_6 : decode cX7_has 6 = .ok (.lcmp, 1) := by decide +kernel
theorem dX7_has_7 : decode cX7_has 7 = .ok (.ifCond .eq 7, 3) := by decide +kernel
theorem dX7_has_10 : decode cX7_has 10 = .ok (.iconst 1, 1) := by decide +kernel
theorem dX7_has_11 : decode cX7_has 11 = .ok (.goto 4, 3) := by decide +kernel
theorem dX7_has_14 : decode cX7_has 14 = .ok (.iconst 0, 1) := by decide +kernel
theorem dX7_has_15 : decode cX7_has 15 = .ok (.ireturn, 1) := by decide +kernel
theorem dJ13_bitCount_95d88_0 : decode cJ13_bitCount_95d88 0 = .ok (.lload_n 0, 1) := by decide +kernel
theorem dJ13_bitCount_95d88_1 : decode cJ13_bitCount_95d88 1 = .ok (.lload_n 0, 1) := by decide +kernel
theorem dJ13_bitCount_95d88_2 : decode cJ13_bitCount_95d88 2 = .ok (.iconst 1, 1) := by decide +kernel
theorem dJ13_bitCount_95d88_3 : decode cJ13_bitCount_95d88 3 = .ok (.lushr, 1) := by decide +kernel
theorem dJ13_bitCount_95d88_4 : decode cJ13_bitCount_95d88 4 = .ok (.ldc2_w 314, 3) := by decide +kernel
theorem dJ13_bitCount_95d88_7 : decode cJ13_bitCount_95d88 7 = .ok (.land, 1) := by decide +kernel
theorem dJ13_bitCount_95d88_8 : decode cJ13_bitCount_95d88 8 = .ok (.lsub, 1) := by decide +kernel
theorem dJ13_bitCount_95d88_9 : decode cJ13_bitCount_95d88 9 = .ok (.lstore_n 0, 1) := by decide +kernel
theorem dJ13_bitCount_95d88_10 : decode cJ13_bitCount_95d88 10 = .ok (.lload_n 0, 1) := by decide +kernel
theorem dJ13_bitCount_95d88_11 : decode cJ13_bitCount_95d88 11 = .ok (.ldc2_w 316, 3) := by decide +kernel
theorem dJ13_bitCount_95d88_14 : decode cJ13_bitCount_95d88 14 = .ok (.land, 1) := by decide +kernel
theorem dJ13_bitCount_95d88_15 : decode cJ13_bitCount_95d88 15 = .ok (.lload_n 0, 1) := by decide +kernel
theorem dJ13_bitCount_95d88_16 : decode cJ13_bitCount_95d88 16 = .ok (.iconst 2, 1) := by decide +kernel
theorem dJ13_bitCount_95d88_17 : decode cJ13_bitCount_95d88 17 = .ok (.lushr, 1) := by decide +kernel
theorem dJ13_bitCount_95d88_18 : decode cJ13_bitCount_95d88 18 = .ok (.ldc2_w 316, 3) := by decide +kernel
theorem dJ13_bitCount_95d88_21 : decode cJ13_bitCount_95d88 21 = .ok (.land, 1) := by decide +kernel
theorem dJ13_bitCount_95d88_22 : decode cJ13_bitCount_95d88 22 = .ok (.ladd, 1) := by decide +kernel
theorem dJ13_bitCount_95d88_23 : decode cJ13_bitCount_95d88 23 = .ok (.lstore_n 0, 1) := by decide +kernel
theorem dJ13_bitCount_95d88_24 : decode cJ13_bitCount_95d88 24 = .ok (.lload_n 0, 1) := by decide +kernel
theorem dJ13_bitCount_95d88_25 : decode cJ13_bitCount_95d88 25 = .ok (.lload_n 0, 1) := by decide +kernel
theorem dJ13_bitCount_95d88_26 : decode cJ13_bitCount_95d88 26 = .ok (.iconst 4, 1) := by decide +kernel
theorem dJ13_bitCount_95d88_27 : decode cJ13_bitCount_95d88 27 = .ok (.lushr, 1) := by decide +kernel
theorem dJ13_bitCount_95d88_28 : decode cJ13_bitCount_95d88 28 = .ok (.ladd, 1) := by decide +kernel
theorem dJ13_bitCount_95d88_29 : decode cJ13_bitCount_95d88 29 = .ok (.ldc2_w 318, 3) := by decide +kernel
theorem dJ13_bitCount_95d88_32 : decode cJ13_bitCount_95d88 32 = .ok (.land, 1) := by decide +kernel
theorem dJ13_bitCount_95d88_33 : decode cJ13_bitCount_95d88 33 = .ok (.lstore_n 0, 1) := by decide +kernel
theorem dJ13_bitCount_95d88_34 : decode cJ13_bitCount_95d88 34 = .ok (.lload_n 0, 1) := by decide +kernel
theorem dJ13_bitCount_95d88_35 : decode cJ13_bitCount_95d88 35 = .ok (.lload_n 0, 1) := by decide +kernel
theorem dJ13_bitCount_95d88_36 : decode cJ13_bitCount_95d88 36 = .ok (.bipush 8, 2) := by decide +kernel
theorem dJ13_bitCount_95d88_38 : decode cJ13_bitCount_95d88 38 = .ok (.lushr, 1) := by decide +kernel
theorem dJ13_bitCount_95d88_39 : decode cJ13_bitCount_95d88 39 = .ok (.ladd, 1) := by decide +kernel
theorem dJ13_bitCount_95d88_40 : decode cJ13_bitCount_95d88 40 = .ok (.lstore_n 0, 1) := by decide +kernel
theorem dJ13_bitCount_95d88_41 : decode cJ13_bitCount_95d88 41 = .ok (.lload_n 0, 1) := by decide +kernel
theorem dJ13_bitCount_95d88_42 : decode cJ13_bitCount_95d88 42 = .ok (.lload_n 0, 1) := by decide +kernel
theorem dJ13_bitCount_95d88_43 : decode cJ13_bitCount_95d88 43 = .ok (.bipush 16, 2) := by decide +kernel
theorem dJ13_bitCount_95d88_45 : decode cJ13_bitCount_95d88 45 = .ok (.lushr, 1) := by decide +kernel
theorem dJ13_bitCount_95d88_46 : decode cJ13_bitCount_95d88 46 = .ok (.ladd, 1) := by decide +kernel
theorem dJ13_bitCount_95d88_47 : decode cJ13_bitCount_95d88 47 = .ok (.lstore_n 0, 1) := by decide +kernel
theorem dJ13_bitCount_95d88_48 : decode cJ13_bitCount_95d88 48 = .ok (.lload_n 0, 1) := by decide +kernel
theorem dJ13_bitCount_95d88_49 : decode cJ13_bitCount_95d88 49 = .ok (.lload_n 0, 1) := by decide +kernel
theorem dJ13_bitCount_95d88_50 : decode cJ13_bitCount_95d88 50 = .ok (.bipush 32, 2) := by decide +kernel
theorem dJ13_bitCount_95d88_52 : decode cJ13_bitCount_95d88 52 = .ok (.lushr, 1) := by decide +kernel
theorem dJ13_bitCount_95d88_53 : decode cJ13_bitCount_95d88 53 = .ok (.ladd, 1) := by decide +kernel
theorem dJ13_bitCount_95d88_54 : decode cJ13_bitCount_95d88 54 = .ok (.lstore_n 0, 1) := by decide +kernel
theorem dJ13_bitCount_95d88_55 : decode cJ13_bitCount_95d88 55 = .ok (.lload_n 0, 1) := by decide +kernel
theorem dJ13_bitCount_95d88_56 : decode cJ13_bitCount_95d88 56 = .ok (.l2i, 1) := by decide +kernel
theorem dJ13_bitCount_95d88_57 : decode cJ13_bitCount_95d88 57 = .ok (.bipush 127, 2) := by decide +kernel
theorem dJ13_bitCount_95d88_59 : decode cJ13_bitCount_95d88 59 = .ok (.iand, 1) := by decide +kernel
theorem dJ13_bitCount_95d88_60 : decode cJ13_bitCount_95d88 60 = .ok (.ireturn, 1) := by decide +kernel
theorem dX7_lowest_0 : decode cX7_lowest 0 = .ok (.lload_n 0, 1) := by decide +kernel
theorem dX7_lowest_1 : decode cX7_lowest 1 = .ok (.lload_n 0, 1) := by decide +kernel
theorem dX7_lowest_2 : decode cX7_lowest 2 = .ok (.lneg, 1) := by decide +kernel
theorem dX7_lowest_3 : decode cX7_lowest 3 = .ok (.land, 1) := by decide +kernel
theorem dX7_lowest_4 : decode cX7_lowest 4 = .ok (.lconst 1, 1) := by decide +kernel
theorem dX7_lowest_5 : decode cX7_lowest 5 = .ok (.lsub, 1) := by decide +kernel
theorem dX7_lowest_6 : decode cX7_lowest 6 = .ok (.invokestatic 188, 3) := by decide +kernel
theorem dX7_lowest_9 : decode cX7_lowest 9 = .ok (.ireturn, 1) := by decide +kernel
theorem dX7_jumps_0 : decode cX7_jumps 0 = .ok (.iload_n 0, 1) := by decide +kernel
theorem dX7_jumps_1 : decode cX7_jumps 1 = .ok (.iconst 1, 1) := by decide +kernel
theorem dX7_jumps_2 : decode cX7_jumps 2 = .ok (.if_icmp .eq 8, 3) := by decide +kernel
theorem dX7_jumps_5 : decode cX7_jumps 5 = .ok (.iload_n 0, 1) := by decide +kernel
theorem dX7_jumps_6 : decode cX7_jumps 6 = .ok (.iconst 2, 1) := by decide +kernel
theorem dX7_jumps_7 : decode cX7_jumps 7 = .ok (.if_icmp .ne 7, 3) := by decide +kernel
theorem dX7_jumps_10 : decode cX7_jumps 10 = .ok (.iconst 1, 1) := by decide +kernel
theorem dX7_jumps_11 : decode cX7_jumps 11 = .ok (.goto 4, 3) := by decide +kernel
theorem dX7_jumps_14 : decode cX7_jumps 14 = .ok (.iconst 0, 1) := by decide +kernel
theorem dX7_jumps_15 : decode cX7_jumps 15 = .ok (.ireturn, 1) := by decide +kernel
theorem dX7_isTarget_0 : decode cX7_isTarget 0 = .ok (.iload_n 0, 1) := by decide +kernel
theorem dX7_isTarget_1 : decode cX7_isTarget 1 = .ok (.ifCond .lt 13, 3) := by decide +kernel
theorem dX7_isTarget_4 : decode cX7_isTarget 4 = .ok (.iload_n 0, 1) := by decide +kernel
theorem dX7_isTarget_5 : decode cX7_isTarget 5 = .ok (.bipush 40, 2) := by decide +kernel
theorem dX7_isTarget_7 : decode cX7_isTarget 7 = .ok (.if_icmp .gt 7, 3) := by decide +kernel
theorem dX7_isTarget_10 : decode cX7_isTarget 10 = .ok (.iconst 1, 1) := by decide +kernel
theorem dX7_isTarget_11 : decode cX7_isTarget 11 = .ok (.goto 4, 3) := by decide +kernel
theorem dX7_isTarget_14 : decode cX7_isTarget 14 = .ok (.iconst 0, 1) := by decide +kernel
theorem dX7_isTarget_15 : decode cX7_isTarget 15 = .ok (.ireturn, 1) := by decide +kernel
theorem dX7_mix_0 : decode cX7_mix 0 = .ok (.lload_n 0, 1) := by decide +kernel
theorem dX7_mix_1 : decode cX7_mix 1 = .ok (.ldc2_w 364, 3) := by decide +kernel
theorem dX7_mix_4 : decode cX7_mix 4 = .ok (.lmul, 1) := by decide +kernel
theorem dX7_mix_5 : decode cX7_mix 5 = .ok (.iload_n 2, 1) := by decide +kernel
theorem dX7_mix_6 : decode cX7_mix 6 = .ok (.i2l, 1) := by decide +kernel
theorem dX7_mix_7 : decode cX7_mix 7 = .ok (.ladd, 1) := by decide +kernel
theorem dX7_mix_8 : decode cX7_mix 8 = .ok (.lreturn, 1) := by decide +kernel
theorem dX7_mix__0 : decode cX7_mix_ 0 = .ok (.lload_n 0, 1) := by decide +kernel
theorem dX7_mix__1 : decode cX7_mix_ 1 = .ok (.ldc2_w 364, 3) := by decide +kernel
theorem dX7_mix__4 : decode cX7_mix_ 4 = .ok (.lmul, 1) := by decide +kernel
theorem dX7_mix__5 : decode cX7_mix_ 5 = .ok (.iload_n 2, 1) := by decide +kernel
theorem dX7_mix__6 : decode cX7_mix_ 6 = .ok (.ifCond .eq 7, 3) := by decide +kernel
theorem dX7_mix__9 : decode cX7_mix_ 9 = .ok (.lconst 1, 1) := by decide +kernel
theorem dX7_mix__10 : decode cX7_mix_ 10 = .ok (.goto 4, 3) := by decide +kernel
theorem dX7_mix__13 : decode cX7_mix_ 13 = .ok (.lconst 0, 1) := by decide +kernel
theorem dX7_mix__14 : decode cX7_mix_ 14 = .ok (.ladd, 1) := by decide +kernel
theorem dX7_mix__15 : decode cX7_mix_ 15 = .ok (.lreturn, 1) := by decide +kernel
theorem mw_0 : Cond.laysFinal "OrielChart$Code" "OrielChart$Code" "kind" "[I" ∈ GW := gw_mem (inT1 _ (List.mem_of_getElem? (i := 46) rfl)) rfl
theorem mw_1 : Cond.laysFinal "OrielChart$Code" "OrielChart$Code" "target" "[I" ∈ GW := gw_mem (inT1 _ (List.mem_of_getElem? (i := 48) rfl)) rfl
theorem mw_2 : Cond.laysFinal "OrielChart$Code" "OrielChart$Code" "sets" "[I" ∈ GW := gw_mem (inT1 _ (List.mem_of_getElem? (i := 50) rfl)) rfl
theorem mw_3 : Cond.laysFinal "OrielChart$Code" "OrielChart$Code" "uses" "[I" ∈ GW := gw_mem (inT1 _ (List.mem_of_getElem? (i := 52) rfl)) rfl
theorem mw_4 : Cond.lays "OrielChart$Code" "OrielChart$Code" "count" "I" ∈ GW := gw_mem (inT1 _ (List.mem_of_getElem? (i := 54) rfl)) rfl
theorem mw_5 : Cond.laysFinal "OrielChart$Flow" "OrielChart$Flow" "home" "[I" ∈ GW := gw_mem (inT1 _ (List.mem_of_getElem? (i := 99) rfl)) rfl
theorem mw_6 : Cond.laysFinal "OrielChart$Flow" "OrielChart$Flow" "first" "[I" ∈ GW := gw_mem (inT1 _ (List.mem_of_getElem? (i := 101) rfl)) rfl
theorem mw_7 : Cond.laysFinal "OrielChart$Flow" "OrielChart$Flow" "last" "[I" ∈ GW := gw_mem (inT1 _ (List.mem_of_getElem? (i := 103) rfl)) rfl
theorem mw_8 : Cond.laysFinal "OrielChart$Flow" "OrielChart$Flow" "from" "[I" ∈ GW := gw_mem (inT1 _ (List.mem_of_getElem? (i := 105) rfl)) rfl
theorem mw_9 : Cond.laysFinal "OrielChart$Flow" "OrielChart$Flow" "to" "[I" ∈ GW := gw_mem (inT1 _ (List.mem_of_getElem? (i := 107) rfl)) rfl
theorem mw_10 : Cond.laysFinal "OrielChart$Flow" "OrielChart$Flow" "firstEdge" "[I" ∈ GW := gw_mem (inT1 _ (List.mem_of_getElem? (i := 109) rfl)) rfl
theorem mw_11 : Cond.laysFinal "OrielChart$Flow" "OrielChart$Flow" "next" "[J" ∈ GW := gw_mem (inT1 _ (List.mem_of_getElem? (i := 111) rfl)) rfl
theorem mw_12 : Cond.lays "OrielChart$Flow" "OrielChart$Flow" "blockCount" "I" ∈ GW := gw_mem (inT1 _ (List.mem_of_getElem? (i := 113) rfl)) rfl
theorem mw_13 : Cond.lays "OrielChart$Flow" "OrielChart$Flow" "edgeCount" "I" ∈ GW := gw_mem (inT1 _ (List.mem_of_getElem? (i := 115) rfl)) rfl
theorem mw_14 : Cond.lays "OrielChart$Flow" "OrielChart$Flow" "reached" "J" ∈ GW := gw_mem (inT1 _ (List.mem_of_getElem? (i := 117) rfl)) rfl
theorem mw_15 : Cond.lays "OrielChart$Flow" "OrielChart$Flow" "fresh" "Z" ∈ GW := gw_mem (inT1 _ (List.mem_of_getElem? (i := 119) rfl)) rfl
theorem mw_16 : Cond.laysFinal "OrielChart$Lives" "OrielChart$Lives" "live" "[I" ∈ GW := gw_mem (inT1 _ (List.mem_of_getElem? (i := 165) rfl)) rfl
theorem mw_17 : Cond.lays "OrielChart$Lives" "OrielChart$Lives" "vainCount" "I" ∈ GW := gw_mem (inT1 _ (List.mem_of_getElem? (i := 167) rfl)) rfl
theorem mw_18 : Cond.lays "OrielChart$Lives" "OrielChart$Lives" "fresh" "Z" ∈ GW := gw_mem (inT1 _ (List.mem_of_getElem? (i := 169) rfl)) rfl
theorem mw_19 : Cond.laysFinal "OrielChart$Picture" "OrielChart$Picture" "walk" "LOrielChart$Walk;" ∈ GW := gw_mem (inT2 _ (List.mem_of_getElem? (i := 33) rfl)) rfl
theorem mw_20 : Cond.laysFinal "OrielChart$Picture" "OrielChart$Picture" "layer" "[I" ∈ GW := gw_mem (inT2 _ (List.mem_of_getElem? (i := 35) rfl)) rfl
theorem mw_21 : Cond.laysFinal "OrielChart$Picture" "OrielChart$Picture" "start" "[I" ∈ GW := gw_mem (inT2 _ (List.mem_of_getElem? (i := 37) rfl)) rfl
theorem mw_22 : Cond.laysFinal "OrielChart$Picture" "OrielChart$Picture" "firstBend" "[I" ∈ GW := gw_mem (inT2 _ (List.mem_of_getElem? (i := 39) rfl)) rfl
theorem mw_23 : Cond.laysFinal "OrielChart$Picture" "OrielChart$Picture" "edgeOf" "[I" ∈ GW := gw_mem (inT2 _ (List.mem_of_getElem? (i := 41) rfl)) rfl
theorem mw_24 : Cond.laysFinal "OrielChart$Picture" "OrielChart$Picture" "order" "[I" ∈ GW := gw_mem (inT2 _ (List.mem_of_getElem? (i := 43) rfl)) rfl
theorem mw_25 : Cond.laysFinal "OrielChart$Picture" "OrielChart$Picture" "place" "[I" ∈ GW := gw_mem (inT2 _ (List.mem_of_getElem? (i := 45) rfl)) rfl
theorem mw_26 : Cond.laysFinal "OrielChart$Picture" "OrielChart$Picture" "kept" "[I" ∈ GW := gw_mem (inT2 _ (List.mem_of_getElem? (i := 47) rfl)) rfl
theorem mw_27 : Cond.laysFinal "OrielChart$Picture" "OrielChart$Picture" "sum" "[I" ∈ GW := gw_mem (inT2 _ (List.mem_of_getElem? (i := 49) rfl)) rfl
theorem mw_28 : Cond.laysFinal "OrielChart$Picture" "OrielChart$Picture" "lines" "[I" ∈ GW := gw_mem (inT2 _ (List.mem_of_getElem? (i := 51) rfl)) rfl
theorem mw_29 : Cond.laysFinal "OrielChart$Picture" "OrielChart$Picture" "above" "[I" ∈ GW := gw_mem (inT2 _ (List.mem_of_getElem? (i := 53) rfl)) rfl
theorem mw_30 : Cond.laysFinal "OrielChart$Picture" "OrielChart$Picture" "below" "[I" ∈ GW := gw_mem (inT2 _ (List.mem_of_getElem? (i := 55) rfl)) rfl
theorem mw_31 : Cond.lays "OrielChart$Picture" "OrielChart$Picture" "edgeCount" "I" ∈ GW := gw_mem (inT2 _ (List.mem_of_getElem? (i := 57) rfl)) rfl
theorem mw_32 : Cond.lays "OrielChart$Picture" "OrielChart$Picture" "layerCount" "I" ∈ GW := gw_mem (inT2 _ (List.mem_of_getElem? (i := 59) rfl)) rfl
theorem mw_33 : Cond.lays "OrielChart$Picture" "OrielChart$Picture" "sweeps" "I" ∈ GW := gw_mem (inT2 _ (List.mem_of_getElem? (i := 61) rfl)) rfl
theorem mw_34 : Cond.lays "OrielChart$Picture" "OrielChart$Picture" "fresh" "Z" ∈ GW := gw_mem (inT2 _ (List.mem_of_getElem? (i := 63) rfl)) rfl
theorem mw_35 : Cond.laysFinal "OrielChart$Ranks" "OrielChart$Ranks" "ruled" "[J" ∈ GW := gw_mem (inT1 _ (List.mem_of_getElem? (i := 139) rfl)) rfl
theorem mw_36 : Cond.laysFinal "OrielChart$Ranks" "OrielChart$Ranks" "loop" "[J" ∈ GW := gw_mem (inT1 _ (List.mem_of_getElem? (i := 141) rfl)) rfl
theorem mw_37 : Cond.laysFinal "OrielChart$Ranks" "OrielChart$Ranks" "previous" "[J" ∈ GW := gw_mem (inT1 _ (List.mem_of_getElem? (i := 143) rfl)) rfl
theorem mw_38 : Cond.laysFinal "OrielChart$Ranks" "OrielChart$Ranks" "onward" "[J" ∈ GW := gw_mem (inT1 _ (List.mem_of_getElem? (i := 145) rfl)) rfl
theorem mw_39 : Cond.lays "OrielChart$Ranks" "OrielChart$Ranks" "loopCount" "I" ∈ GW := gw_mem (inT1 _ (List.mem_of_getElem? (i := 147) rfl)) rfl
theorem mw_40 : Cond.lays "OrielChart$Ranks" "OrielChart$Ranks" "tame" "Z" ∈ GW := gw_mem (inT1 _ (List.mem_of_getElem? (i := 149) rfl)) rfl
theorem mw_41 : Cond.lays "OrielChart$Ranks" "OrielChart$Ranks" "fresh" "Z" ∈ GW := gw_mem (inT1 _ (List.mem_of_getElem? (i := 151) rfl)) rfl
theorem mw_42 : Cond.laysFinal "OrielChart$Reduction" "OrielChart$Reduction" "next" "[J" ∈ GW := gw_mem (inT1 _ (List.mem_of_getElem? (i := 191) rfl)) rfl
theorem mw_43 : Cond.laysFinal "OrielChart$Reduction" "OrielChart$Reduction" "home" "[I" ∈ GW := gw_mem (inT1 _ (List.mem_of_getElem? (i := 193) rfl)) rfl
theorem mw_44 : Cond.laysFinal "OrielChart$Reduction" "OrielChart$Reduction" "rule" "[I" ∈ GW := gw_mem (inT1 _ (List.mem_of_getElem? (i := 195) rfl)) rfl
theorem mw_45 : Cond.laysFinal "OrielChart$Reduction" "OrielChart$Reduction" "node" "[I" ∈ GW := gw_mem (inT1 _ (List.mem_of_getElem? (i := 197) rfl)) rfl
theorem mw_46 : Cond.laysFinal "OrielChart$Reduction" "OrielChart$Reduction" "entry" "[I" ∈ GW := gw_mem (inT1 _ (List.mem_of_getElem? (i := 199) rfl)) rfl
theorem mw_47 : Cond.lays "OrielChart$Reduction" "OrielChart$Reduction" "nodes" "J" ∈ GW := gw_mem (inT1 _ (List.mem_of_getElem? (i := 201) rfl)) rfl
theorem mw_48 : Cond.lays "OrielChart$Reduction" "OrielChart$Reduction" "stepCount" "I" ∈ GW := gw_mem (inT1 _ (List.mem_of_getElem? (i := 203) rfl)) rfl
theorem mw_49 : Cond.lays "OrielChart$Reduction" "OrielChart$Reduction" "fresh" "Z" ∈ GW := gw_mem (inT1 _ (List.mem_of_getElem? (i := 205) rfl)) rfl
theorem mw_50 : Cond.laysFinal "OrielChart$Walk" "OrielChart$Walk" "came" "[I" ∈ GW := gw_mem (inT1 _ (List.mem_of_getElem? (i := 234) rfl)) rfl
theorem mw_51 : Cond.laysFinal "OrielChart$Walk" "OrielChart$Walk" "upper" "[I" ∈ GW := gw_mem (inT1 _ (List.mem_of_getElem? (i := 236) rfl)) rfl
theorem mw_52 : Cond.laysFinal "OrielChart$Walk" "OrielChart$Walk" "lower" "[I" ∈ GW := gw_mem (inT1 _ (List.mem_of_getElem? (i := 238) rfl)) rfl
theorem mw_53 : Cond.laysFinal "OrielChart$Walk" "OrielChart$Walk" "open" "[I" ∈ GW := gw_mem (inT2 _ (List.mem_of_getElem? (i := 0) rfl)) rfl
theorem mw_54 : Cond.laysFinal "OrielChart$Walk" "OrielChart$Walk" "edge" "[I" ∈ GW := gw_mem (inT2 _ (List.mem_of_getElem? (i := 2) rfl)) rfl
theorem mw_55 : Cond.lays "OrielChart$Walk" "OrielChart$Walk" "cameCount" "I" ∈ GW := gw_mem (inT2 _ (List.mem_of_getElem? (i := 4) rfl)) rfl
theorem mw_56 : Cond.lays "OrielChart$Walk" "OrielChart$Walk" "openCount" "I" ∈ GW := gw_mem (inT2 _ (List.mem_of_getElem? (i := 6) rfl)) rfl
theorem mw_57 : Cond.lays "OrielChart$Walk" "OrielChart$Walk" "seen" "J" ∈ GW := gw_mem (inT2 _ (List.mem_of_getElem? (i := 8) rfl)) rfl
theorem mw_58 : Cond.lays "OrielChart$Walk" "OrielChart$Walk" "stillGoing" "J" ∈ GW := gw_mem (inT2 _ (List.mem_of_getElem? (i := 10) rfl)) rfl
theorem mw_59 : Cond.laysFinal "OrielChart" "OrielChart" "code" "LOrielChart$Code;" ∈ GW := gw_mem (inT2 _ (List.mem_of_getElem? (i := 72) rfl)) rfl
theorem mw_60 : Cond.laysFinal "OrielChart" "OrielChart" "flow" "LOrielChart$Flow;" ∈ GW := gw_mem (inT2 _ (List.mem_of_getElem? (i := 74) rfl)) rfl
theorem mw_61 : Cond.laysFinal "OrielChart" "OrielChart" "ranks" "LOrielChart$Ranks;" ∈ GW := gw_mem (inT2 _ (List.mem_of_getElem? (i := 76) rfl)) rfl
theorem mw_62 : Cond.laysFinal "OrielChart" "OrielChart" "lives" "LOrielChart$Lives;" ∈ GW := gw_mem (inT2 _ (List.mem_of_getElem? (i := 78) rfl)) rfl
theorem mw_63 : Cond.laysFinal "OrielChart" "OrielChart" "reduction" "LOrielChart$Reduction;" ∈ GW := gw_mem (inT2 _ (List.mem_of_getElem? (i := 80) rfl)) rfl
theorem mw_64 : Cond.laysFinal "OrielChart" "OrielChart" "picture" "LOrielChart$Picture;" ∈ GW := gw_mem (inT2 _ (List.mem_of_getElem? (i := 82) rfl)) rfl
theorem mw_65 : Cond.constantLong RJ13 314 (6148914691236517205) ∈ GW := gw_mem (inT2 _ (List.mem_of_getElem? (i := 147) rfl)) rfl
theorem mw_66 : Cond.constantLong RJ13 316 (3689348814741910323) ∈ GW := gw_mem (inT2 _ (List.mem_of_getElem? (i := 148) rfl)) rfl
theorem mw_67 : Cond.constantLong RJ13 318 (1085102592571150095) ∈ GW := gw_mem (inT2 _ (List.mem_of_getElem? (i := 149) rfl)) rfl
theorem mw_68 : Cond.code yJ13_bitCount_95d88 cJ13_bitCount_95d88 2 (some Jvm.ClassFile.FieldType.int) ∈ GW := gw_mem (inT2 _ (List.mem_of_getElem? (i := 146) rfl)) rfl
theorem mw_69 : Cond.methodLink RX7 188 yJ13_bitCount_95d88 ∈ GW := gw_mem (inT2 _ (List.mem_of_getElem? (i := 144) rfl)) rfl
theorem mw_70 : Cond.static yJ13_bitCount_95d88 ∈ GW := gw_mem (inT2 _ (List.mem_of_getElem? (i := 145) rfl)) rfl
theorem mw_71 : Cond.initialized RJ13 ∈ GW := gw_mem (inT1 _ (List.mem_of_getElem? (i := 9) rfl)) rfl
theorem mw_72 : Cond.constantLong RX7 364 (31) ∈ GW := gw_mem (inT3 _ (List.mem_of_getElem? (i := 89) rfl)) rfl
theorem pd_J13_bitCount_95d88 : yJ13_bitCount_95d88.cls ≠ "java/lang/invoke/MethodHandle" ∧ yJ13_bitCount_95d88.cls ≠ "java/lang/invoke/VarHandle" ∧ (parseMethodDescriptor yJ13_bitCount_95d88.desc).map (fun d => d.parameters.length) = some 1 := by decide +kernel
set_option maxRecDepth 20000 in
theorem inGX0 : ∀ w ∈ u_ws RX0 TX0 5, w ∈ GW := List.forall_mem_cons.mpr ⟨mw_0, List.forall_mem_cons.mpr ⟨mw_1, List.forall_mem_cons.mpr ⟨mw_2, List.forall_mem_cons.mpr ⟨mw_3, List.forall_mem_cons.mpr ⟨mw_4, fun _ h => absurd h List.not_mem_nil⟩⟩⟩⟩⟩
set_option maxRecDepth 20000 in
theorem inGX1 : ∀ w ∈ u_ws RX1 TX1 11, w ∈ GW := List.forall_mem_cons.mpr ⟨mw_5, List.forall_mem_cons.mpr ⟨mw_6, List.forall_mem_cons.mpr ⟨mw_7, List.forall_mem_cons.mpr ⟨mw_8, List.forall_mem_cons.mpr ⟨mw_9, List.forall_mem_cons.mpr ⟨mw_10, List.forall_mem_cons.mpr ⟨mw_11, List.forall_mem_cons.mpr ⟨mw_12, List.forall_mem_cons.mpr ⟨mw_13, List.forall_mem_cons.mpr ⟨mw_14, List.forall_mem_cons.mpr ⟨mw_15, fun _ h => absurd h List.not_mem_nil⟩⟩⟩⟩⟩⟩⟩⟩⟩⟩⟩
set_option maxRecDepth 20000 in
theorem inGX2 : ∀ w ∈ u_ws RX2 TX2 3, w ∈ GW := List.forall_mem_cons.mpr ⟨mw_16, List.forall_mem_cons.mpr ⟨mw_17, List.forall_mem_cons.mpr ⟨mw_18, fun _ h => absurd h List.not_mem_nil⟩⟩⟩
set_option maxRecDepth 20000 in
theorem inGX3 : ∀ w ∈ u_ws RX3 TX3 16, w ∈ GW := List.forall_mem_cons.mpr ⟨mw_19, List.forall_mem_cons.mpr ⟨mw_20, List.forall_mem_cons.mpr ⟨mw_21, List.forall_mem_cons.mpr ⟨mw_22, List.forall_mem_cons.mpr ⟨mw_23, List.forall_mem_cons.mpr ⟨mw_24, List.forall_mem_cons.mpr ⟨mw_25, List.forall_mem_cons.mpr ⟨mw_26, List.forall_mem_cons.mpr ⟨mw_27, List.forall_mem_cons.mpr ⟨mw_28, List.forall_mem_cons.mpr ⟨mw_29, List.forall_mem_cons.mpr ⟨mw_30, List.forall_mem_cons.mpr ⟨mw_31, List.forall_mem_cons.mpr ⟨mw_32, List.forall_mem_cons.mpr ⟨mw_33, List.forall_mem_cons.mpr ⟨mw_34, fun _ h => absurd h List.not_mem_nil⟩⟩⟩⟩⟩⟩⟩⟩⟩⟩⟩⟩⟩⟩⟩⟩
set_option maxRecDepth 20000 in
theorem inGX4 : ∀ w ∈ u_ws RX4 TX4 7, w ∈ GW := List.forall_mem_cons.mpr ⟨mw_35, List.forall_mem_cons.mpr ⟨mw_36, List.forall_mem_cons.mpr ⟨mw_37, List.forall_mem_cons.mpr ⟨mw_38, List.forall_mem_cons.mpr ⟨mw_39, List.forall_mem_cons.mpr ⟨mw_40, List.forall_mem_cons.mpr ⟨mw_41, fun _ h => absurd h List.not_mem_nil⟩⟩⟩⟩⟩⟩⟩
set_option maxRecDepth 20000 in
theorem inGX5 : ∀ w ∈ u_ws RX5 TX5 8, w ∈ GW := List.forall_mem_cons.mpr ⟨mw_42, List.forall_mem_cons.mpr ⟨mw_43, List.forall_mem_cons.mpr ⟨mw_44, List.forall_mem_cons.mpr ⟨mw_45, List.forall_mem_cons.mpr ⟨mw_46, List.forall_mem_cons.mpr ⟨mw_47, List.forall_mem_cons.mpr ⟨mw_48, List.forall_mem_cons.mpr ⟨mw_49, fun _ h => absurd h List.not_mem_nil⟩⟩⟩⟩⟩⟩⟩⟩
set_option maxRecDepth 20000 in
theorem inGX6 : ∀ w ∈ u_ws RX6 TX6 9, w ∈ GW := List.forall_mem_cons.mpr ⟨mw_50, List.forall_mem_cons.mpr ⟨mw_51, List.forall_mem_cons.mpr ⟨mw_52, List.forall_mem_cons.mpr ⟨mw_53, List.forall_mem_cons.mpr ⟨mw_54, List.forall_mem_cons.mpr ⟨mw_55, List.forall_mem_cons.mpr ⟨mw_56, List.forall_mem_cons.mpr ⟨mw_57, List.forall_mem_cons.mpr ⟨mw_58, fun _ h => absurd h List.not_mem_nil⟩⟩⟩⟩⟩⟩⟩⟩⟩
set_option maxRecDepth 20000 in
theorem inGX7 : ∀ w ∈ u_ws RX7 TX7 6, w ∈ GW := List.forall_mem_cons.mpr ⟨mw_59, List.forall_mem_cons.mpr ⟨mw_60, List.forall_mem_cons.mpr ⟨mw_61, List.forall_mem_cons.mpr ⟨mw_62, List.forall_mem_cons.mpr ⟨mw_63, List.forall_mem_cons.mpr ⟨mw_64, fun _ h => absurd h List.not_mem_nil⟩⟩⟩⟩⟩⟩
set_option maxHeartbeats 4000000 in
set_option maxRecDepth 100000 in
theorem c_at (l : Launch) (D : va_G) (cI cJ : ClassId) (w : va_W) (q0 a n : Nat) (f : Nat → Int32) (i : Int32) (hq : w[q0]? = some (a, .inl (cI, n, .inl f))) (hn : n < 2 ^ 31) : CT l D (TY cI cJ) yX7_at (.code yX7_at cX7_at 2 (some Jvm.ClassFile.FieldType.int)) 0 0 0 w [.ref a, .int i] (QI D (TY cI cJ) (fun r u => r = rd f n i ∧ u = w)) := by
  refine ent (by decide) (Nat.le_of_ble_eq_true rfl) ?_
  intro p e s m below meth c ls A hx hb hr hg hown hml hlocks hnm hP hK hD hS hA hN hl
  have hl : lv_has ls 2 [(0, .ref a), (1, .int i)] := hl
  refine lv_aload_n hx hb dX7_at_0 rfl (lv_at hl 0 rfl) ?_
  refine lv_ifnull hx hb dX7_at_1 ?_
  refine lv_iload_n hx hb dX7_at_4 rfl (lv_at hl 1 rfl) ?_
  refine lv_if_lt (tgt := 20) hx hb dX7_at_5 (by decide) (fun c_5 => ?_) (fun c_5 => ?_)
  · refine lv_iconst (v := 0) hx hb dX7_at_20 (by decide) ?_
    exact W.iret (v := 0) hx hb hr (fun t ht hW => ⟨⟨0, w, rfl, ⟨(show 0 = rd f n i from (by first | (simp only [rd, if_pos c_5, decide_eq_true c_5, decide_eq_false (not_not_intro c_5), gi_sl, gi_sA, gi_sB, gi_si_s, gi_si_n, gl_si, gl_sA, gl_sB, gl_sl_s, gl_sl_n, gA_si, gA_sl, gA_sB, gA_sA_s, gA_sA_n, gB_si, gB_sl, gB_sA, gB_sB_s, gB_sB_n, Nat.reduceBEq, if_true, if_false, eq_self, Bool.false_eq_true, reduceCtorEq, not_true_eq_false, not_false_eq_true, decide_true, decide_false, cond_true, cond_false, Bool.true_and, Bool.false_and, Bool.and_true, Bool.and_false, Bool.true_or, Bool.false_or, Bool.or_true, Bool.or_false, b2i_tt, b2i_ff]; done) | (simp only [rd, if_pos c_5, decide_eq_true c_5, decide_eq_false (not_not_intro c_5), gi_sl, gi_sA, gi_sB, gi_si_s, gi_si_n, gl_si, gl_sA, gl_sB, gl_sl_s, gl_sl_n, gA_si, gA_sl, gA_sB, gA_sA_s, gA_sA_n, gB_si, gB_sl, gB_sA, gB_sB_s, gB_sB_n, Nat.reduceBEq, if_true, if_false, eq_self, Bool.false_eq_true, reduceCtorEq, not_true_eq_false, not_false_eq_true, decide_true, decide_false, cond_true, cond_false, Bool.true_and, Bool.false_and, Bool.and_true, Bool.and_false, Bool.true_or, Bool.false_or, Bool.or_true, Bool.or_false, b2i_tt, b2i_ff]; rfl) | (simp [rd, c_5, gi_sl, gi_sA, gi_sB, gi_si_s, gi_si_n, gl_si, gl_sA, gl_sB, gl_sl_s, gl_sl_n, gA_si, gA_sl, gA_sB, gA_sA_s, gA_sA_n, gB_si, gB_sl, gB_sA, gB_sB_s, gB_sB_n, Nat.reduceBEq]; done))), rfl⟩, ⟨by rw [ht]; exact hP, va_K.moved hW.alike hK, hD⟩⟩, hS.F ht⟩) hS.2.2 dX7_at_21
  · refine lv_iload_n hx hb dX7_at_8 rfl (lv_at hl 1 rfl) ?_
    refine lv_aload_n hx hb dX7_at_9 rfl (lv_at hl 0 rfl) ?_
    refine va_alen (v := (nI n)) hx hb hK hP q0 0 hq rfl rfl dX7_at_10 ?_
    refine lv_icmp_ge (tgt := 20) hx hb dX7_at_11 (by decide) (fun c_11 => ?_) (fun c_11 => ?_)
    · have c_11 : ¬ i < (nI n) := i_ge c_11
      refine lv_iconst (v := 0) hx hb dX7_at_20 (by decide) ?_
      exact W.iret (v := 0) hx hb hr (fun t ht hW => ⟨⟨0, w, rfl, ⟨(show 0 = rd f n i from (by first | (simp only [rd, if_neg c_5, decide_eq_false c_5, decide_eq_true c_5, if_pos c_5, if_neg c_11, decide_eq_false c_11, decide_eq_true c_11, if_pos c_11, gi_sl, gi_sA, gi_sB, gi_si_s, gi_si_n, gl_si, gl_sA, gl_sB, gl_sl_s, gl_sl_n, gA_si, gA_sl, gA_sB, gA_sA_s, gA_sA_n, gB_si, gB_sl, gB_sA, gB_sB_s, gB_sB_n, Nat.reduceBEq, if_true, if_false, eq_self, Bool.false_eq_true, reduceCtorEq, not_true_eq_false, not_false_eq_true, decide_true, decide_false, cond_true, cond_false, Bool.true_and, Bool.false_and, Bool.and_true, Bool.and_false, Bool.true_or, Bool.false_or, Bool.or_true, Bool.or_false, b2i_tt, b2i_ff]; done) | (simp only [rd, if_neg c_5, decide_eq_false c_5, decide_eq_true c_5, if_pos c_5, if_neg c_11, decide_eq_false c_11, decide_eq_true c_11, if_pos c_11, gi_sl, gi_sA, gi_sB, gi_si_s, gi_si_n, gl_si, gl_sA, gl_sB, gl_sl_s, gl_sl_n, gA_si, gA_sl, gA_sB, gA_sA_s, gA_sA_n, gB_si, gB_sl, gB_sA, gB_sB_s, gB_sB_n, Nat.reduceBEq, if_true, if_false, eq_self, Bool.false_eq_true, reduceCtorEq, not_true_eq_false, not_false_eq_true, decide_true, decide_false, cond_true, cond_false, Bool.true_and, Bool.false_and, Bool.and_true, Bool.and_false, Bool.true_or, Bool.false_or, Bool.or_true, Bool.or_false, b2i_tt, b2i_ff]; rfl) | (simp [rd, c_5, c_11, gi_sl, gi_sA, gi_sB, gi_si_s, gi_si_n, gl_si, gl_sA, gl_sB, gl_sl_s, gl_sl_n, gA_si, gA_sl, gA_sB, gA_sA_s, gA_sA_n, gB_si, gB_sl, gB_sA, gB_sB_s, gB_sB_n, Nat.reduceBEq]; done))), rfl⟩, ⟨by rw [ht]; exact hP, va_K.moved hW.alike hK, hD⟩⟩, hS.F ht⟩) hS.2.2 dX7_at_21
    · have c_11 : i < (nI n) := i_nge c_11
      refine lv_aload_n hx hb dX7_at_14 rfl (lv_at hl 0 rfl) ?_
      refine lv_iload_n hx hb dX7_at_15 rfl (lv_at hl 1 rfl) ?_
      refine va_iald hx hb hK hP q0 0 hq rfl (vp_yes hn c_5 c_11) dX7_at_16 ?_
      refine lv_goto (tgt := 21) hx hb dX7_at_17 (by decide) ?_
      exact W.iret (v := (f (i : Int32).toNatClampNeg)) hx hb hr (fun t ht hW => ⟨⟨(f (i : Int32).toNatClampNeg), w, rfl, ⟨(show (f (i : Int32).toNatClampNeg) = rd f n i from (by first | (simp only [rd, if_neg c_5, decide_eq_false c_5, decide_eq_true c_5, if_pos c_5, if_pos c_11, decide_eq_true c_11, decide_eq_false (not_not_intro c_11), gi_sl, gi_sA, gi_sB, gi_si_s, gi_si_n, gl_si, gl_sA, gl_sB, gl_sl_s, gl_sl_n, gA_si, gA_sl, gA_sB, gA_sA_s, gA_sA_n, gB_si, gB_sl, gB_sA, gB_sB_s, gB_sB_n, Nat.reduceBEq, if_true, if_false, eq_self, Bool.false_eq_true, reduceCtorEq, not_true_eq_false, not_false_eq_true, decide_true, decide_false, cond_true, cond_false, Bool.true_and, Bool.false_and, Bool.and_true, Bool.and_false, Bool.true_or, Bool.false_or, Bool.or_true, Bool.or_false, b2i_tt, b2i_ff]; done) | (simp only [rd, if_neg c_5, decide_eq_false c_5, decide_eq_true c_5, if_pos c_5, if_pos c_11, decide_eq_true c_11, decide_eq_false (not_not_intro c_11), gi_sl, gi_sA, gi_sB, gi_si_s, gi_si_n, gl_si, gl_sA, gl_sB, gl_sl_s, gl_sl_n, gA_si, gA_sl, gA_sB, gA_sA_s, gA_sA_n, gB_si, gB_sl, gB_sA, gB_sB_s, gB_sB_n, Nat.reduceBEq, if_true, if_false, eq_self, Bool.false_eq_true, reduceCtorEq, not_true_eq_false, not_false_eq_true, decide_true, decide_false, cond_true, cond_false, Bool.true_and, Bool.false_and, Bool.and_true, Bool.and_false, Bool.true_or, Bool.false_or, Bool.or_true, Bool.or_false, b2i_tt, b2i_ff]; rfl) | (simp [rd, c_5, c_11, gi_sl, gi_sA, gi_sB, gi_si_s, gi_si_n, gl_si, gl_sA, gl_sB, gl_sl_s, gl_sl_n, gA_si, gA_sl, gA_sB, gA_sA_s, gA_sA_n, gB_si, gB_sl, gB_sA, gB_sB_s, gB_sB_n, Nat.reduceBEq]; done))), rfl⟩, ⟨by rw [ht]; exact hP, va_K.moved hW.alike hK, hD⟩⟩, hS.F ht⟩) hS.2.2 dX7_at_21
set_option maxHeartbeats 4000000 in
set_option maxRecDepth 100000 in
theorem c_atL (l : Launch) (D : va_G) (cI cJ : ClassId) (w : va_W) (q0 a n : Nat) (f : Nat → Int64) (i : Int32) (hq : w[q0]? = some (a, .inl (cJ, n, .inr (.inl f)))) (hn : n < 2 ^ 31) : CT l D (TY cI cJ) yX7_at_ (.code yX7_at_ cX7_at_ 2 (some Jvm.ClassFile.FieldType.long)) 0 0 0 w [.ref a, .int i] (QL D (TY cI cJ) (fun r u => r = rdL f n i ∧ u = w)) := by
  refine ent (by decide) (Nat.le_of_ble_eq_true rfl) ?_
  intro p e s m below meth c ls A hx hb hr hg hown hml hlocks hnm hP hK hD hS hA hN hl
  have hl : lv_has ls 2 [(0, .ref a), (1, .int i)] := hl
  refine lv_aload_n hx hb dX7_at__0 rfl (lv_at hl 0 rfl) ?_
  refine lv_ifnull hx hb dX7_at__1 ?_
  refine lv_iload_n hx hb dX7_at__4 rfl (lv_at hl 1 rfl) ?_
  refine lv_if_lt (tgt := 20) hx hb dX7_at__5 (by decide) (fun c_5 => ?_) (fun c_5 => ?_)
  · refine lv_lconst (v := 0) hx hb dX7_at__20 (by decide) ?_
    exact W.lret (v := 0) hx hb hr (fun t ht hW => ⟨⟨0, w, rfl, ⟨(show 0 = rdL f n i from (by first | (simp only [rdL, if_pos c_5, decide_eq_true c_5, decide_eq_false (not_not_intro c_5), gi_sl, gi_sA, gi_sB, gi_si_s, gi_si_n, gl_si, gl_sA, gl_sB, gl_sl_s, gl_sl_n, gA_si, gA_sl, gA_sB, gA_sA_s, gA_sA_n, gB_si, gB_sl, gB_sA, gB_sB_s, gB_sB_n, Nat.reduceBEq, if_true, if_false, eq_self, Bool.false_eq_true, reduceCtorEq, not_true_eq_false, not_false_eq_true, decide_true, decide_false, cond_true, cond_false, Bool.true_and, Bool.false_and, Bool.and_true, Bool.and_false, Bool.true_or, Bool.false_or, Bool.or_true, Bool.or_false, b2i_tt, b2i_ff]; done) | (simp only [rdL, if_pos c_5, decide_eq_true c_5, decide_eq_false (not_not_intro c_5), gi_sl, gi_sA, gi_sB, gi_si_s, gi_si_n, gl_si, gl_sA, gl_sB, gl_sl_s, gl_sl_n, gA_si, gA_sl, gA_sB, gA_sA_s, gA_sA_n, gB_si, gB_sl, gB_sA, gB_sB_s, gB_sB_n, Nat.reduceBEq, if_true, if_false, eq_self, Bool.false_eq_true, reduceCtorEq, not_true_eq_false, not_false_eq_true, decide_true, decide_false, cond_true, cond_false, Bool.true_and, Bool.false_and, Bool.and_true, Bool.and_false, Bool.true_or, Bool.false_or, Bool.or_true, Bool.or_false, b2i_tt, b2i_ff]; rfl) | (simp [rdL, c_5, gi_sl, gi_sA, gi_sB, gi_si_s, gi_si_n, gl_si, gl_sA, gl_sB, gl_sl_s, gl_sl_n, gA_si, gA_sl, gA_sB, gA_sA_s, gA_sA_n, gB_si, gB_sl, gB_sA, gB_sB_s, gB_sB_n, Nat.reduceBEq]; done))), rfl⟩, ⟨by rw [ht]; exact hP, va_K.moved hW.alike hK, hD⟩⟩, hS.F ht⟩) hS.2.2 dX7_at__21
  · refine lv_iload_n hx hb dX7_at__8 rfl (lv_at hl 1 rfl) ?_
    refine lv_aload_n hx hb dX7_at__9 rfl (lv_at hl 0 rfl) ?_
    refine va_alen (v := (nI n)) hx hb hK hP q0 1 hq rfl rfl dX7_at__10 ?_
    refine lv_icmp_ge (tgt := 20) hx hb dX7_at__11 (by decide) (fun c_11 => ?_) (fun c_11 => ?_)
    · have c_11 : ¬ i < (nI n) := i_ge c_11
      refine lv_lconst (v := 0) hx hb dX7_at__20 (by decide) ?_
      exact W.lret (v := 0) hx hb hr (fun t ht hW => ⟨⟨0, w, rfl, ⟨(show 0 = rdL f n i from (by first | (simp only [rdL, if_neg c_5, decide_eq_false c_5, decide_eq_true c_5, if_pos c_5, if_neg c_11, decide_eq_false c_11, decide_eq_true c_11, if_pos c_11, gi_sl, gi_sA, gi_sB, gi_si_s, gi_si_n, gl_si, gl_sA, gl_sB, gl_sl_s, gl_sl_n, gA_si, gA_sl, gA_sB, gA_sA_s, gA_sA_n, gB_si, gB_sl, gB_sA, gB_sB_s, gB_sB_n, Nat.reduceBEq, if_true, if_false, eq_self, Bool.false_eq_true, reduceCtorEq, not_true_eq_false, not_false_eq_true, decide_true, decide_false, cond_true, cond_false, Bool.true_and, Bool.false_and, Bool.and_true, Bool.and_false, Bool.true_or, Bool.false_or, Bool.or_true, Bool.or_false, b2i_tt, b2i_ff]; done) | (simp only [rdL, if_neg c_5, decide_eq_false c_5, decide_eq_true c_5, if_pos c_5, if_neg c_11, decide_eq_false c_11, decide_eq_true c_11, if_pos c_11, gi_sl, gi_sA, gi_sB, gi_si_s, gi_si_n, gl_si, gl_sA, gl_sB, gl_sl_s, gl_sl_n, gA_si, gA_sl, gA_sB, gA_sA_s, gA_sA_n, gB_si, gB_sl, gB_sA, gB_sB_s, gB_sB_n, Nat.reduceBEq, if_true, if_false, eq_self, Bool.false_eq_true, reduceCtorEq, not_true_eq_false, not_false_eq_true, decide_true, decide_false, cond_true, cond_false, Bool.true_and, Bool.false_and, Bool.and_true, Bool.and_false, Bool.true_or, Bool.false_or, Bool.or_true, Bool.or_false, b2i_tt, b2i_ff]; rfl) | (simp [rdL, c_5, c_11, gi_sl, gi_sA, gi_sB, gi_si_s, gi_si_n, gl_si, gl_sA, gl_sB, gl_sl_s, gl_sl_n, gA_si, gA_sl, gA_sB, gA_sA_s, gA_sA_n, gB_si, gB_sl, gB_sA, gB_sB_s, gB_sB_n, Nat.reduceBEq]; done))), rfl⟩, ⟨by rw [ht]; exact hP, va_K.moved hW.alike hK, hD⟩⟩, hS.F ht⟩) hS.2.2 dX7_at__21
    · have c_11 : i < (nI n) := i_nge c_11
      refine lv_aload_n hx hb dX7_at__14 rfl (lv_at hl 0 rfl) ?_
      refine lv_iload_n hx hb dX7_at__15 rfl (lv_at hl 1 rfl) ?_
      refine va_lald hx hb hK hP q0 1 hq rfl (vp_yes hn c_5 c_11) dX7_at__16 ?_
      refine lv_goto (tgt := 21) hx hb dX7_at__17 (by decide) ?_
      exact W.lret (v := (f (i : Int32).toNatClampNeg)) hx hb hr (fun t ht hW => ⟨⟨(f (i : Int32).toNatClampNeg), w, rfl, ⟨(show (f (i : Int32).toNatClampNeg) = rdL f n i from (by first | (simp only [rdL, if_neg c_5, decide_eq_false c_5, decide_eq_true c_5, if_pos c_5, if_pos c_11, decide_eq_true c_11, decide_eq_false (not_not_intro c_11), gi_sl, gi_sA, gi_sB, gi_si_s, gi_si_n, gl_si, gl_sA, gl_sB, gl_sl_s, gl_sl_n, gA_si, gA_sl, gA_sB, gA_sA_s, gA_sA_n, gB_si, gB_sl, gB_sA, gB_sB_s, gB_sB_n, Nat.reduceBEq, if_true, if_false, eq_self, Bool.false_eq_true, reduceCtorEq, not_true_eq_false, not_false_eq_true, decide_true, decide_false, cond_true, cond_false, Bool.true_and, Bool.false_and, Bool.and_true, Bool.and_false, Bool.true_or, Bool.false_or, Bool.or_true, Bool.or_false, b2i_tt, b2i_ff]; done) | (simp only [rdL, if_neg c_5, decide_eq_false c_5, decide_eq_true c_5, if_pos c_5, if_pos c_11, decide_eq_true c_11, decide_eq_false (not_not_intro c_11), gi_sl, gi_sA, gi_sB, gi_si_s, gi_si_n, gl_si, gl_sA, gl_sB, gl_sl_s, gl_sl_n, gA_si, gA_sl, gA_sB, gA_sA_s, gA_sA_n, gB_si, gB_sl, gB_sA, gB_sB_s, gB_sB_n, Nat.reduceBEq, if_true, if_false, eq_self, Bool.false_eq_true, reduceCtorEq, not_true_eq_false, not_false_eq_true, decide_true, decide_false, cond_true, cond_false, Bool.true_and, Bool.false_and, Bool.and_true, Bool.and_false, Bool.true_or, Bool.false_or, Bool.or_true, Bool.or_false, b2i_tt, b2i_ff]; rfl) | (simp [rdL, c_5, c_11, gi_sl, gi_sA, gi_sB, gi_si_s, gi_si_n, gl_si, gl_sA, gl_sB, gl_sl_s, gl_sl_n, gA_si, gA_sl, gA_sB, gA_sA_s, gA_sA_n, gB_si, gB_sl, gB_sA, gB_sB_s, gB_sB_n, Nat.reduceBEq]; done))), rfl⟩, ⟨by rw [ht]; exact hP, va_K.moved hW.alike hK, hD⟩⟩, hS.F ht⟩) hS.2.2 dX7_at__21
set_option maxHeartbeats 4000000 in
set_option maxRecDepth 100000 in
theorem c_put (l : Launch) (D : va_G) (cI cJ : ClassId) (w : va_W) (q0 a n : Nat) (f : Nat → Int32) (i : Int32) (v : Int32) (hq : w[q0]? = some (a, .inl (cI, n, .inl f))) (hn : n < 2 ^ 31) : CT l D (TY cI cJ) yX7_put (.code yX7_put cX7_put 3 (none : Option FieldType)) 0 0 0 w [.ref a, .int i, .int v] (QV D (TY cI cJ) (fun u => u = w.set q0 (a, .inl (cI, n, .inl (wr f n i v))))) := by
  refine ent (by decide) (Nat.le_of_ble_eq_true rfl) ?_
  intro p e s m below meth c ls A hx hb hr hg hown hml hlocks hnm hP hK hD hS hA hN hl
  have hl : lv_has ls 3 [(0, .ref a), (1, .int i), (2, .int v)] := hl
  refine lv_aload_n hx hb dX7_put_0 rfl (lv_at hl 0 rfl) ?_
  refine lv_ifnull hx hb dX7_put_1 ?_
  refine lv_iload_n hx hb dX7_put_4 rfl (lv_at hl 1 rfl) ?_
  refine lv_if_lt (tgt := 18) hx hb dX7_put_5 (by decide) (fun c_5 => ?_) (fun c_5 => ?_)
  · exact W.vret hx hb hr (fun t ht hW => ⟨⟨w, rfl, (by rw [show wr f n i v = f from (by first | (simp only [wr, if_pos c_5, decide_eq_true c_5, decide_eq_false (not_not_intro c_5), gi_sl, gi_sA, gi_sB, gi_si_s, gi_si_n, gl_si, gl_sA, gl_sB, gl_sl_s, gl_sl_n, gA_si, gA_sl, gA_sB, gA_sA_s, gA_sA_n, gB_si, gB_sl, gB_sA, gB_sB_s, gB_sB_n, Nat.reduceBEq, if_true, if_false, eq_self, Bool.false_eq_true, reduceCtorEq, not_true_eq_false, not_false_eq_true, decide_true, decide_false, cond_true, cond_false, Bool.true_and, Bool.false_and, Bool.and_true, Bool.and_false, Bool.true_or, Bool.false_or, Bool.or_true, Bool.or_false, b2i_tt, b2i_ff]; done) | (simp only [wr, if_pos c_5, decide_eq_true c_5, decide_eq_false (not_not_intro c_5), gi_sl, gi_sA, gi_sB, gi_si_s, gi_si_n, gl_si, gl_sA, gl_sB, gl_sl_s, gl_sl_n, gA_si, gA_sl, gA_sB, gA_sA_s, gA_sA_n, gB_si, gB_sl, gB_sA, gB_sB_s, gB_sB_n, Nat.reduceBEq, if_true, if_false, eq_self, Bool.false_eq_true, reduceCtorEq, not_true_eq_false, not_false_eq_true, decide_true, decide_false, cond_true, cond_false, Bool.true_and, Bool.false_and, Bool.and_true, Bool.and_false, Bool.true_or, Bool.false_or, Bool.or_true, Bool.or_false, b2i_tt, b2i_ff]; rfl) | (simp [wr, c_5, gi_sl, gi_sA, gi_sB, gi_si_s, gi_si_n, gl_si, gl_sA, gl_sB, gl_sl_s, gl_sl_n, gA_si, gA_sl, gA_sB, gA_sA_s, gA_sA_n, gB_si, gB_sl, gB_sA, gB_sB_s, gB_sB_n, Nat.reduceBEq]; done))]; exact (set_same hq).symm), ⟨by rw [ht]; exact hP, va_K.moved hW.alike hK, hD⟩⟩, hS.F ht⟩) hS.2.2 dX7_put_18
  · refine lv_iload_n hx hb dX7_put_8 rfl (lv_at hl 1 rfl) ?_
    refine lv_aload_n hx hb dX7_put_9 rfl (lv_at hl 0 rfl) ?_
    refine va_alen (v := (nI n)) hx hb hK hP q0 0 hq rfl rfl dX7_put_10 ?_
    refine lv_icmp_ge (tgt := 18) hx hb dX7_put_11 (by decide) (fun c_11 => ?_) (fun c_11 => ?_)
    · have c_11 : ¬ i < (nI n) := i_ge c_11
      exact W.vret hx hb hr (fun t ht hW => ⟨⟨w, rfl, (by rw [show wr f n i v = f from (by first | (simp only [wr, if_neg c_5, decide_eq_false c_5, decide_eq_true c_5, if_pos c_5, if_neg c_11, decide_eq_false c_11, decide_eq_true c_11, if_pos c_11, gi_sl, gi_sA, gi_sB, gi_si_s, gi_si_n, gl_si, gl_sA, gl_sB, gl_sl_s, gl_sl_n, gA_si, gA_sl, gA_sB, gA_sA_s, gA_sA_n, gB_si, gB_sl, gB_sA, gB_sB_s, gB_sB_n, Nat.reduceBEq, if_true, if_false, eq_self, Bool.false_eq_true, reduceCtorEq, not_true_eq_false, not_false_eq_true, decide_true, decide_false, cond_true, cond_false, Bool.true_and, Bool.false_and, Bool.and_true, Bool.and_false, Bool.true_or, Bool.false_or, Bool.or_true, Bool.or_false, b2i_tt, b2i_ff]; done) | (simp only [wr, if_neg c_5, decide_eq_false c_5, decide_eq_true c_5, if_pos c_5, if_neg c_11, decide_eq_false c_11, decide_eq_true c_11, if_pos c_11, gi_sl, gi_sA, gi_sB, gi_si_s, gi_si_n, gl_si, gl_sA, gl_sB, gl_sl_s, gl_sl_n, gA_si, gA_sl, gA_sB, gA_sA_s, gA_sA_n, gB_si, gB_sl, gB_sA, gB_sB_s, gB_sB_n, Nat.reduceBEq, if_true, if_false, eq_self, Bool.false_eq_true, reduceCtorEq, not_true_eq_false, not_false_eq_true, decide_true, decide_false, cond_true, cond_false, Bool.true_and, Bool.false_and, Bool.and_true, Bool.and_false, Bool.true_or, Bool.false_or, Bool.or_true, Bool.or_false, b2i_tt, b2i_ff]; rfl) | (simp [wr, c_5, c_11, gi_sl, gi_sA, gi_sB, gi_si_s, gi_si_n, gl_si, gl_sA, gl_sB, gl_sl_s, gl_sl_n, gA_si, gA_sl, gA_sB, gA_sA_s, gA_sA_n, gB_si, gB_sl, gB_sA, gB_sB_s, gB_sB_n, Nat.reduceBEq]; done))]; exact (set_same hq).symm), ⟨by rw [ht]; exact hP, va_K.moved hW.alike hK, hD⟩⟩, hS.F ht⟩) hS.2.2 dX7_put_18
    · have c_11 : i < (nI n) := i_nge c_11
      refine lv_aload_n hx hb dX7_put_14 rfl (lv_at hl 0 rfl) ?_
      refine lv_iload_n hx hb dX7_put_15 rfl (lv_at hl 1 rfl) ?_
      refine lv_iload_n hx hb dX7_put_16 rfl (lv_at hl 2 rfl) ?_
      refine va_iast hx hb hK hP hD hS q0 0 hq rfl (vp_yes hn c_5 c_11) dX7_put_17 (fun H locs hP hD hS => ?_)
      have hP : va_P D vwCl (w.set q0 (a, .inl (cI, n, .inl (upd f (i : Int32).toNatClampNeg v)))) H := hP
      have hD : va_D A (w.set q0 (a, .inl (cI, n, .inl (upd f (i : Int32).toNatClampNeg v)))) := hD
      exact W.vret hx hb hr (fun t ht hW => ⟨⟨(w.set q0 (a, .inl (cI, n, .inl (upd f (i : Int32).toNatClampNeg v)))), rfl, (by rw [show wr f n i v = upd f i.toNatClampNeg v from (by first | (simp only [wr, if_neg c_5, decide_eq_false c_5, decide_eq_true c_5, if_pos c_5, if_pos c_11, decide_eq_true c_11, decide_eq_false (not_not_intro c_11), gi_sl, gi_sA, gi_sB, gi_si_s, gi_si_n, gl_si, gl_sA, gl_sB, gl_sl_s, gl_sl_n, gA_si, gA_sl, gA_sB, gA_sA_s, gA_sA_n, gB_si, gB_sl, gB_sA, gB_sB_s, gB_sB_n, Nat.reduceBEq, if_true, if_false, eq_self, Bool.false_eq_true, reduceCtorEq, not_true_eq_false, not_false_eq_true, decide_true, decide_false, cond_true, cond_false, Bool.true_and, Bool.false_and, Bool.and_true, Bool.and_false, Bool.true_or, Bool.false_or, Bool.or_true, Bool.or_false, b2i_tt, b2i_ff]; done) | (simp only [wr, if_neg c_5, decide_eq_false c_5, decide_eq_true c_5, if_pos c_5, if_pos c_11, decide_eq_true c_11, decide_eq_false (not_not_intro c_11), gi_sl, gi_sA, gi_sB, gi_si_s, gi_si_n, gl_si, gl_sA, gl_sB, gl_sl_s, gl_sl_n, gA_si, gA_sl, gA_sB, gA_sA_s, gA_sA_n, gB_si, gB_sl, gB_sA, gB_sB_s, gB_sB_n, Nat.reduceBEq, if_true, if_false, eq_self, Bool.false_eq_true, reduceCtorEq, not_true_eq_false, not_false_eq_true, decide_true, decide_false, cond_true, cond_false, Bool.true_and, Bool.false_and, Bool.and_true, Bool.and_false, Bool.true_or, Bool.false_or, Bool.or_true, Bool.or_false, b2i_tt, b2i_ff]; rfl) | (simp [wr, c_5, c_11, gi_sl, gi_sA, gi_sB, gi_si_s, gi_si_n, gl_si, gl_sA, gl_sB, gl_sl_s, gl_sl_n, gA_si, gA_sl, gA_sB, gA_sA_s, gA_sA_n, gB_si, gB_sl, gB_sA, gB_sB_s, gB_sB_n, Nat.reduceBEq]; done))]), ⟨by rw [ht]; exact hP, va_K.moved hW.alike hK, hD⟩⟩, hS.F ht⟩) hS.2.2 dX7_put_18
set_option maxHeartbeats 4000000 in
set_option maxRecDepth 100000 in
theorem c_putL (l : Launch) (D : va_G) (cI cJ : ClassId) (w : va_W) (q0 a n : Nat) (f : Nat → Int64) (i : Int32) (v : Int64) (hq : w[q0]? = some (a, .inl (cJ, n, .inr (.inl f)))) (hn : n < 2 ^ 31) : CT l D (TY cI cJ) yX7_put_ (.code yX7_put_ cX7_put_ 4 (none : Option FieldType)) 0 0 0 w [.ref a, .int i, .long v] (QV D (TY cI cJ) (fun u => u = w.set q0 (a, .inl (cJ, n, .inr (.inl (wrL f n i v)))))) := by
  refine ent (by decide) (Nat.le_of_ble_eq_true rfl) ?_
  intro p e s m below meth c ls A hx hb hr hg hown hml hlocks hnm hP hK hD hS hA hN hl
  have hl : lv_has ls 4 [(0, .ref a), (1, .int i), (2, .long v)] := hl
  refine lv_aload_n hx hb dX7_put__0 rfl (lv_at hl 0 rfl) ?_
  refine lv_ifnull hx hb dX7_put__1 ?_
  refine lv_iload_n hx hb dX7_put__4 rfl (lv_at hl 1 rfl) ?_
  refine lv_if_lt (tgt := 18) hx hb dX7_put__5 (by decide) (fun c_5 => ?_) (fun c_5 => ?_)
  · exact W.vret hx hb hr (fun t ht hW => ⟨⟨w, rfl, (by rw [show wrL f n i v = f from (by first | (simp only [wrL, if_pos c_5, decide_eq_true c_5, decide_eq_false (not_not_intro c_5), gi_sl, gi_sA, gi_sB, gi_si_s, gi_si_n, gl_si, gl_sA, gl_sB, gl_sl_s, gl_sl_n, gA_si, gA_sl, gA_sB, gA_sA_s, gA_sA_n, gB_si, gB_sl, gB_sA, gB_sB_s, gB_sB_n, Nat.reduceBEq, if_true, if_false, eq_self, Bool.false_eq_true, reduceCtorEq, not_true_eq_false, not_false_eq_true, decide_true, decide_false, cond_true, cond_false, Bool.true_and, Bool.false_and, Bool.and_true, Bool.and_false, Bool.true_or, Bool.false_or, Bool.or_true, Bool.or_false, b2i_tt, b2i_ff]; done) | (simp only [wrL, if_pos c_5, decide_eq_true c_5, decide_eq_false (not_not_intro c_5), gi_sl, gi_sA, gi_sB, gi_si_s, gi_si_n, gl_si, gl_sA, gl_sB, gl_sl_s, gl_sl_n, gA_si, gA_sl, gA_sB, gA_sA_s, gA_sA_n, gB_si, gB_sl, gB_sA, gB_sB_s, gB_sB_n, Nat.reduceBEq, if_true, if_false, eq_self, Bool.false_eq_true, reduceCtorEq, not_true_eq_false, not_false_eq_true, decide_true, decide_false, cond_true, cond_false, Bool.true_and, Bool.false_and, Bool.and_true, Bool.and_false, Bool.true_or, Bool.false_or, Bool.or_true, Bool.or_false, b2i_tt, b2i_ff]; rfl) | (simp [wrL, c_5, gi_sl, gi_sA, gi_sB, gi_si_s, gi_si_n, gl_si, gl_sA, gl_sB, gl_sl_s, gl_sl_n, gA_si, gA_sl, gA_sB, gA_sA_s, gA_sA_n, gB_si, gB_sl, gB_sA, gB_sB_s, gB_sB_n, Nat.reduceBEq]; done))]; exact (set_same hq).symm), ⟨by rw [ht]; exact hP, va_K.moved hW.alike hK, hD⟩⟩, hS.F ht⟩) hS.2.2 dX7_put__18
  · refine lv_iload_n hx hb dX7_put__8 rfl (lv_at hl 1 rfl) ?_
    refine lv_aload_n hx hb dX7_put__9 rfl (lv_at hl 0 rfl) ?_
    refine va_alen (v := (nI n)) hx hb hK hP q0 1 hq rfl rfl dX7_put__10 ?_
    refine lv_icmp_ge (tgt := 18) hx hb dX7_put__11 (by decide) (fun c_11 => ?_) (fun c_11 => ?_)
    · have c_11 : ¬ i < (nI n) := i_ge c_11
      exact W.vret hx hb hr (fun t ht hW => ⟨⟨w, rfl, (by rw [show wrL f n i v = f from (by first | (simp only [wrL, if_neg c_5, decide_eq_false c_5, decide_eq_true c_5, if_pos c_5, if_neg c_11, decide_eq_false c_11, decide_eq_true c_11, if_pos c_11, gi_sl, gi_sA, gi_sB, gi_si_s, gi_si_n, gl_si, gl_sA, gl_sB, gl_sl_s, gl_sl_n, gA_si, gA_sl, gA_sB, gA_sA_s, gA_sA_n, gB_si, gB_sl, gB_sA, gB_sB_s, gB_sB_n, Nat.reduceBEq, if_true, if_false, eq_self, Bool.false_eq_true, reduceCtorEq, not_true_eq_false, not_false_eq_true, decide_true, decide_false, cond_true, cond_false, Bool.true_and, Bool.false_and, Bool.and_true, Bool.and_false, Bool.true_or, Bool.false_or, Bool.or_true, Bool.or_false, b2i_tt, b2i_ff]; done) | (simp only [wrL, if_neg c_5, decide_eq_false c_5, decide_eq_true c_5, if_pos c_5, if_neg c_11, decide_eq_false c_11, decide_eq_true c_11, if_pos c_11, gi_sl, gi_sA, gi_sB, gi_si_s, gi_si_n, gl_si, gl_sA, gl_sB, gl_sl_s, gl_sl_n, gA_si, gA_sl, gA_sB, gA_sA_s, gA_sA_n, gB_si, gB_sl, gB_sA, gB_sB_s, gB_sB_n, Nat.reduceBEq, if_true, if_false, eq_self, Bool.false_eq_true, reduceCtorEq, not_true_eq_false, not_false_eq_true, decide_true, decide_false, cond_true, cond_false, Bool.true_and, Bool.false_and, Bool.and_true, Bool.and_false, Bool.true_or, Bool.false_or, Bool.or_true, Bool.or_false, b2i_tt, b2i_ff]; rfl) | (simp [wrL, c_5, c_11, gi_sl, gi_sA, gi_sB, gi_si_s, gi_si_n, gl_si, gl_sA, gl_sB, gl_sl_s, gl_sl_n, gA_si, gA_sl, gA_sB, gA_sA_s, gA_sA_n, gB_si, gB_sl, gB_sA, gB_sB_s, gB_sB_n, Nat.reduceBEq]; done))]; exact (set_same hq).symm), ⟨by rw [ht]; exact hP, va_K.moved hW.alike hK, hD⟩⟩, hS.F ht⟩) hS.2.2 dX7_put__18
    · have c_11 : i < (nI n) := i_nge c_11
      refine lv_aload_n hx hb dX7_put__14 rfl (lv_at hl 0 rfl) ?_
      refine lv_iload_n hx hb dX7_put__15 rfl (lv_at hl 1 rfl) ?_
      refine lv_lload_n hx hb dX7_put__16 rfl (lv_at hl 2 rfl) ?_
      refine va_last hx hb hK hP hD hS q0 1 hq rfl (vp_yes hn c_5 c_11) dX7_put__17 (fun H locs hP hD hS => ?_)
      have hP : va_P D vwCl (w.set q0 (a, .inl (cJ, n, .inr (.inl (vp_updL f (i : Int32).toNatClampNeg v))))) H := hP
      have hD : va_D A (w.set q0 (a, .inl (cJ, n, .inr (.inl (vp_updL f (i : Int32).toNatClampNeg v))))) := hD
      exact W.vret hx hb hr (fun t ht hW => ⟨⟨(w.set q0 (a, .inl (cJ, n, .inr (.inl (vp_updL f (i : Int32).toNatClampNeg v))))), rfl, (by rw [show wrL f n i v = vp_updL f i.toNatClampNeg v from (by first | (simp only [wrL, if_neg c_5, decide_eq_false c_5, decide_eq_true c_5, if_pos c_5, if_pos c_11, decide_eq_true c_11, decide_eq_false (not_not_intro c_11), gi_sl, gi_sA, gi_sB, gi_si_s, gi_si_n, gl_si, gl_sA, gl_sB, gl_sl_s, gl_sl_n, gA_si, gA_sl, gA_sB, gA_sA_s, gA_sA_n, gB_si, gB_sl, gB_sA, gB_sB_s, gB_sB_n, Nat.reduceBEq, if_true, if_false, eq_self, Bool.false_eq_true, reduceCtorEq, not_true_eq_false, not_false_eq_true, decide_true, decide_false, cond_true, cond_false, Bool.true_and, Bool.false_and, Bool.and_true, Bool.and_false, Bool.true_or, Bool.false_or, Bool.or_true, Bool.or_false, b2i_tt, b2i_ff]; done) | (simp only [wrL, if_neg c_5, decide_eq_false c_5, decide_eq_true c_5, if_pos c_5, if_pos c_11, decide_eq_true c_11, decide_eq_false (not_not_intro c_11), gi_sl, gi_sA, gi_sB, gi_si_s, gi_si_n, gl_si, gl_sA, gl_sB, gl_sl_s, gl_sl_n, gA_si, gA_sl, gA_sB, gA_sA_s, gA_sA_n, gB_si, gB_sl, gB_sA, gB_sB_s, gB_sB_n, Nat.reduceBEq, if_true, if_false, eq_self, Bool.false_eq_true, reduceCtorEq, not_true_eq_false, not_false_eq_true, decide_true, decide_false, cond_true, cond_false, Bool.true_and, Bool.false_and, Bool.and_true, Bool.and_false, Bool.true_or, Bool.false_or, Bool.or_true, Bool.or_false, b2i_tt, b2i_ff]; rfl) | (simp [wrL, c_5, c_11, gi_sl, gi_sA, gi_sB, gi_si_s, gi_si_n, gl_si, gl_sA, gl_sB, gl_sl_s, gl_sl_n, gA_si, gA_sl, gA_sB, gA_sA_s, gA_sA_n, gB_si, gB_sl, gB_sA, gB_sB_s, gB_sB_n, Nat.reduceBEq]; done))]), ⟨by rw [ht]; exact hP, va_K.moved hW.alike hK, hD⟩⟩, hS.F ht⟩) hS.2.2 dX7_put__18
set_option maxHeartbeats 4000000 in
set_option maxRecDepth 100000 in
theorem c_bit (l : Launch) (D : va_G) (cI cJ : ClassId) (w : va_W) (n : Int32) : CT l D (TY cI cJ) yX7_bit (.code yX7_bit cX7_bit 1 (some Jvm.ClassFile.FieldType.long)) 0 0 0 w [.int n] (QL D (TY cI cJ) (fun r u => r = (bitL n) ∧ u = w)) := by
  refine ent (by decide) (Nat.le_of_ble_eq_true rfl) ?_
  intro p e s m below meth c ls A hx hb hr hg hown hml hlocks hnm hP hK hD hS hA hN hl
  have hl : lv_has ls 1 [(0, .int n)] := hl
  refine lv_lconst (v := 1) hx hb dX7_bit_0 (by decide) ?_
  refine lv_iload_n hx hb dX7_bit_1 rfl (lv_at hl 0 rfl) ?_
  refine lv_lshl (v := (sh 1 n)) hx hb dX7_bit_2 rfl ?_
  exact W.lret (v := (sh 1 n)) hx hb hr (fun t ht hW => ⟨⟨(sh 1 n), w, rfl, ⟨(show (sh 1 n) = (bitL n) from (by first | with_reducible rfl | (simp only [bitL, gi_sl, gi_sA, gi_sB, gi_si_s, gi_si_n, gl_si, gl_sA, gl_sB, gl_sl_s, gl_sl_n, gA_si, gA_sl, gA_sB, gA_sA_s, gA_sA_n, gB_si, gB_sl, gB_sA, gB_sB_s, gB_sB_n, Nat.reduceBEq, if_true, if_false, eq_self, Bool.false_eq_true, reduceCtorEq, not_true_eq_false, not_false_eq_true, decide_true, decide_false, cond_true, cond_false, Bool.true_and, Bool.false_and, Bool.and_true, Bool.and_false, Bool.true_or, Bool.false_or, Bool.or_true, Bool.or_false, b2i_tt, b2i_ff]; done) | rfl)), rfl⟩, ⟨by rw [ht]; exact hP, va_K.moved hW.alike hK, hD⟩⟩, hS.F ht⟩) hS.2.2 dX7_bit_3
set_option maxHeartbeats 4000000 in
set_option maxRecDepth 100000 in
theorem c_has (l : Launch) (D : va_G) (cI cJ : ClassId) (w : va_W) (x : Int64) (n : Int32) : CT l D (TY cI cJ) yX7_has (.code yX7_has cX7_has 3 (some Jvm.ClassFile.FieldType.boolean)) 0 0 0 w [.long x, .int n] (QI D (TY cI cJ) (fun r u => r = (b2i (hs x n)) ∧ u = w)) := by
  refine ent (by decide) (Nat.le_of_ble_eq_true rfl) ?_
  intro p e s m below meth c ls A hx hb hr hg hown hml hlocks hnm hP hK hD hS hA hN hl
  have hl : lv_has ls 3 [(0, .long x), (2, .int n)] := hl
  refine lv_lload_n hx hb dX7_has_0 rfl (lv_at hl 0 rfl) ?_
  refine lv_iload_n hx hb dX7_has_1 rfl (lv_at hl 1 rfl) ?_
  refine lv_lushr (v := (us x n)) hx hb dX7_has_2 rfl ?_
  refine lv_lconst (v := 1) hx hb dX7_has_3 (by decide) ?_
  refine lv_land hx hb dX7_has_4 ?_
  refine lv_lconst (v := 0) hx hb dX7_has_5 (by decide) ?_
  refine W.lcmp hx hb dX7_has_6 ?_
  refine lv_if_eq (tgt := 14) hx hb dX7_has_7 (by decide) (fun c_7 => ?_) (fun c_7 => ?_)
  · have c_7 : ((us x n) &&& 1) = 0 := lcmp_0 c_7
    refine lv_iconst (v := 0) hx hb dX7_has_14 (by decide) ?_
    exact W.zret (v := 0) hx hb hr rfl (fun t ht hW => ⟨⟨0, w, rfl, ⟨(show (0 : Int32) = (b2i (hs x n)) from (by first | (simp only [hs, if_pos c_7, decide_eq_true c_7, decide_eq_false (not_not_intro c_7), gi_sl, gi_sA, gi_sB, gi_si_s, gi_si_n, gl_si, gl_sA, gl_sB, gl_sl_s, gl_sl_n, gA_si, gA_sl, gA_sB, gA_sA_s, gA_sA_n, gB_si, gB_sl, gB_sA, gB_sB_s, gB_sB_n, Nat.reduceBEq, if_true, if_false, eq_self, Bool.false_eq_true, reduceCtorEq, not_true_eq_false, not_false_eq_true, decide_true, decide_false, cond_true, cond_false, Bool.true_and, Bool.false_and, Bool.and_true, Bool.and_false, Bool.true_or, Bool.false_or, Bool.or_true, Bool.or_false, b2i_tt, b2i_ff]; done) | (simp only [hs, if_pos c_7, decide_eq_true c_7, decide_eq_false (not_not_intro c_7), gi_sl, gi_sA, gi_sB, gi_si_s, gi_si_n, gl_si, gl_sA, gl_sB, gl_sl_s, gl_sl_n, gA_si, gA_sl, gA_sB, gA_sA_s, gA_sA_n, gB_si, gB_sl, gB_sA, gB_sB_s, gB_sB_n, Nat.reduceBEq, if_true, if_false, eq_self, Bool.false_eq_true, reduceCtorEq, not_true_eq_false, not_false_eq_true, decide_true, decide_false, cond_true, cond_false, Bool.true_and, Bool.false_and, Bool.and_true, Bool.and_false, Bool.true_or, Bool.false_or, Bool.or_true, Bool.or_false, b2i_tt, b2i_ff]; rfl) | (simp [hs, c_7, gi_sl, gi_sA, gi_sB, gi_si_s, gi_si_n, gl_si, gl_sA, gl_sB, gl_sl_s, gl_sl_n, gA_si, gA_sl, gA_sB, gA_sA_s, gA_sA_n, gB_si, gB_sl, gB_sA, gB_sB_s, gB_sB_n, Nat.reduceBEq]; done))), rfl⟩, ⟨by rw [ht]; exact hP, va_K.moved hW.alike hK, hD⟩⟩, hS.F ht⟩) hS.2.2 dX7_has_15
  · have c_7 : ¬ ((us x n) &&& 1) = 0 := lcmp_1 c_7
    refine lv_iconst (v := 1) hx hb dX7_has_10 (by decide) ?_
    refine lv_goto (tgt := 15) hx hb dX7_has_11 (by decide) ?_
    exact W.zret (v := 1) hx hb hr rfl (fun t ht hW => ⟨⟨1, w, rfl, ⟨(show (1 : Int32) = (b2i (hs x n)) from (by first | (simp only [hs, if_neg c_7, decide_eq_false c_7, decide_eq_true c_7, if_pos c_7, gi_sl, gi_sA, gi_sB, gi_si_s, gi_si_n, gl_si, gl_sA, gl_sB, gl_sl_s, gl_sl_n, gA_si, gA_sl, gA_sB, gA_sA_s, gA_sA_n, gB_si, gB_sl, gB_sA, gB_sB_s, gB_sB_n, Nat.reduceBEq, if_true, if_false, eq_self, Bool.false_eq_true, reduceCtorEq, not_true_eq_false, not_false_eq_true, decide_true, decide_false, cond_true, cond_false, Bool.true_and, Bool.false_and, Bool.and_true, Bool.and_false, Bool.true_or, Bool.false_or, Bool.or_true, Bool.or_false, b2i_tt, b2i_ff]; done) | (simp only [hs, if_neg c_7, decide_eq_false c_7, decide_eq_true c_7, if_pos c_7, gi_sl, gi_sA, gi_sB, gi_si_s, gi_si_n, gl_si, gl_sA, gl_sB, gl_sl_s, gl_sl_n, gA_si, gA_sl, gA_sB, gA_sA_s, gA_sA_n, gB_si, gB_sl, gB_sA, gB_sB_s, gB_sB_n, Nat.reduceBEq, if_true, if_false, eq_self, Bool.false_eq_true, reduceCtorEq, not_true_eq_false, not_false_eq_true, decide_true, decide_false, cond_true, cond_false, Bool.true_and, Bool.false_and, Bool.and_true, Bool.and_false, Bool.true_or, Bool.false_or, Bool.or_true, Bool.or_false, b2i_tt, b2i_ff]; rfl) | (simp [hs, c_7, gi_sl, gi_sA, gi_sB, gi_si_s, gi_si_n, gl_si, gl_sA, gl_sB, gl_sl_s, gl_sl_n, gA_si, gA_sl, gA_sB, gA_sA_s, gA_sA_n, gB_si, gB_sl, gB_sA, gB_sB_s, gB_sB_n, Nat.reduceBEq]; done))), rfl⟩, ⟨by rw [ht]; exact hP, va_K.moved hW.alike hK, hD⟩⟩, hS.F ht⟩) hS.2.2 dX7_has_15
set_option maxHeartbeats 4000000 in
set_option maxRecDepth 100000 in
theorem c_bitCount (l : Launch) (D : va_G) (cI cJ : ClassId) (w : va_W) (x : Int64) : CT l D (TY cI cJ) yJ13_bitCount_95d88 (.code yJ13_bitCount_95d88 cJ13_bitCount_95d88 2 (some Jvm.ClassFile.FieldType.int)) 0 0 0 w [.long x] (QI D (TY cI cJ) (fun r u => r = (bc x) ∧ u = w)) := by
  refine ent (by decide) (Nat.le_of_ble_eq_true rfl) ?_
  intro p e s m below meth c ls A hx hb hr hg hown hml hlocks hnm hP hK hD hS hA hN hl
  have hl : lv_has ls 2 [(0, .long x)] := hl
  refine lv_lload_n hx hb dJ13_bitCount_95d88_0 rfl (lv_at hl 0 rfl) ?_
  refine lv_lload_n hx hb dJ13_bitCount_95d88_1 rfl (lv_at hl 0 rfl) ?_
  refine lv_iconst (v := 1) hx hb dJ13_bitCount_95d88_2 (by decide) ?_
  refine lv_lushr (v := (us x 1)) hx hb dJ13_bitCount_95d88_3 rfl ?_
  refine lv_ldc2 (v := 6148914691236517205) hx hb hown (hg _ mw_65) dJ13_bitCount_95d88_4 ?_
  refine lv_land hx hb dJ13_bitCount_95d88_7 ?_
  refine lv_lsub hx hb dJ13_bitCount_95d88_8 ?_
  refine lv_lstore_n (lv' := [(0, .long (x - ((us x 1) &&& 6148914691236517205)))]) hx hb dJ13_bitCount_95d88_9 rfl hl (by decide) rfl (fun ls hl => ?_)
  refine lv_lload_n hx hb dJ13_bitCount_95d88_10 rfl (lv_at hl 0 rfl) ?_
  refine lv_ldc2 (v := 3689348814741910323) hx hb hown (hg _ mw_66) dJ13_bitCount_95d88_11 ?_
  refine lv_land hx hb dJ13_bitCount_95d88_14 ?_
  refine lv_lload_n hx hb dJ13_bitCount_95d88_15 rfl (lv_at hl 0 rfl) ?_
  refine lv_iconst (v := 2) hx hb dJ13_bitCount_95d88_16 (by decide) ?_
  refine lv_lushr (v := (us (x - ((us x 1) &&& 6148914691236517205)) 2)) hx hb dJ13_bitCount_95d88_17 rfl ?_
  refine lv_ldc2 (v := 3689348814741910323) hx hb hown (hg _ mw_66) dJ13_bitCount_95d88_18 ?_
  refine lv_land hx hb dJ13_bitCount_95d88_21 ?_
  refine lv_ladd hx hb dJ13_bitCount_95d88_22 ?_
  refine lv_lstore_n (lv' := [(0, .long (((x - ((us x 1) &&& 6148914691236517205)) &&& 3689348814741910323) + ((us (x - ((us x 1) &&& 6148914691236517205)) 2) &&& 3689348814741910323)))]) hx hb dJ13_bitCount_95d88_23 rfl hl (by decide) rfl (fun ls hl => ?_)
  refine lv_lload_n hx hb dJ13_bitCount_95d88_24 rfl (lv_at hl 0 rfl) ?_
  refine lv_lload_n hx hb dJ13_bitCount_95d88_25 rfl (lv_at hl 0 rfl) ?_
  refine lv_iconst (v := 4) hx hb dJ13_bitCount_95d88_26 (by decide) ?_
  refine lv_lushr (v := (us (((x - ((us x 1) &&& 6148914691236517205)) &&& 3689348814741910323) + ((us (x - ((us x 1) &&& 6148914691236517205)) 2) &&& 3689348814741910323)) 4)) hx hb dJ13_bitCount_95d88_27 rfl ?_
  refine lv_ladd hx hb dJ13_bitCount_95d88_28 ?_
  refine lv_ldc2 (v := 1085102592571150095) hx hb hown (hg _ mw_67) dJ13_bitCount_95d88_29 ?_
  refine lv_land hx hb dJ13_bitCount_95d88_32 ?_
  refine lv_lstore_n (lv' := [(0, .long (((((x - ((us x 1) &&& 6148914691236517205)) &&& 3689348814741910323) + ((us (x - ((us x 1) &&& 6148914691236517205)) 2) &&& 3689348814741910323)) + (us (((x - ((us x 1) &&& 6148914691236517205)) &&& 3689348814741910323) + ((us (x - ((us x 1) &&& 6148914691236517205)) 2) &&& 3689348814741910323)) 4)) &&& 1085102592571150095))]) hx hb dJ13_bitCount_95d88_33 rfl hl (by decide) rfl (fun ls hl => ?_)
  refine lv_lload_n hx hb dJ13_bitCount_95d88_34 rfl (lv_at hl 0 rfl) ?_
  refine lv_lload_n hx hb dJ13_bitCount_95d88_35 rfl (lv_at hl 0 rfl) ?_
  refine lv_bipush (v := 8) hx hb dJ13_bitCount_95d88_36 (by decide) ?_
  refine lv_lushr (v := (us (((((x - ((us x 1) &&& 6148914691236517205)) &&& 3689348814741910323) + ((us (x - ((us x 1) &&& 6148914691236517205)) 2) &&& 3689348814741910323)) + (us (((x - ((us x 1) &&& 6148914691236517205)) &&& 3689348814741910323) + ((us (x - ((us x 1) &&& 6148914691236517205)) 2) &&& 3689348814741910323)) 4)) &&& 1085102592571150095) 8)) hx hb dJ13_bitCount_95d88_38 rfl ?_
  refine lv_ladd hx hb dJ13_bitCount_95d88_39 ?_
  refine lv_lstore_n (lv' := [(0, .long ((((((x - ((us x 1) &&& 6148914691236517205)) &&& 3689348814741910323) + ((us (x - ((us x 1) &&& 6148914691236517205)) 2) &&& 3689348814741910323)) + (us (((x - ((us x 1) &&& 6148914691236517205)) &&& 3689348814741910323) + ((us (x - ((us x 1) &&& 6148914691236517205)) 2) &&& 3689348814741910323)) 4)) &&& 1085102592571150095) + (us (((((x - ((us x 1) &&& 6148914691236517205)) &&& 3689348814741910323) + ((us (x - ((us x 1) &&& 6148914691236517205)) 2) &&& 3689348814741910323)) + (us (((x - ((us x 1) &&& 6148914691236517205)) &&& 3689348814741910323) + ((us (x - ((us x 1) &&& 6148914691236517205)) 2) &&& 3689348814741910323)) 4)) &&& 1085102592571150095) 8)))]) hx hb dJ13_bitCount_95d88_40 rfl hl (by decide) rfl (fun ls hl => ?_)
  refine lv_lload_n hx hb dJ13_bitCount_95d88_41 rfl (lv_at hl 0 rfl) ?_
  refine lv_lload_n hx hb dJ13_bitCount_95d88_42 rfl (lv_at hl 0 rfl) ?_
  refine lv_bipush (v := 16) hx hb dJ13_bitCount_95d88_43 (by decide) ?_
  refine lv_lushr (v := (us ((((((x - ((us x 1) &&& 6148914691236517205)) &&& 3689348814741910323) + ((us (x - ((us x 1) &&& 6148914691236517205)) 2) &&& 3689348814741910323)) + (us (((x - ((us x 1) &&& 6148914691236517205)) &&& 3689348814741910323) + ((us (x - ((us x 1) &&& 6148914691236517205)) 2) &&& 3689348814741910323)) 4)) &&& 1085102592571150095) + (us (((((x - ((us x 1) &&& 6148914691236517205)) &&& 3689348814741910323) + ((us (x - ((us x 1) &&& 6148914691236517205)) 2) &&& 3689348814741910323)) + (us (((x - ((us x 1) &&& 6148914691236517205)) &&& 3689348814741910323) + ((us (x - ((us x 1) &&& 6148914691236517205)) 2) &&& 3689348814741910323)) 4)) &&& 1085102592571150095) 8)) 16)) hx hb dJ13_bitCount_95d88_45 rfl ?_
  refine lv_ladd hx hb dJ13_bitCount_95d88_46 ?_
  refine lv_lstore_n (lv' := [(0, .long (((((((x - ((us x 1) &&& 6148914691236517205)) &&& 3689348814741910323) + ((us (x - ((us x 1) &&& 6148914691236517205)) 2) &&& 3689348814741910323)) + (us (((x - ((us x 1) &&& 6148914691236517205)) &&& 3689348814741910323) + ((us (x - ((us x 1) &&& 6148914691236517205)) 2) &&& 3689348814741910323)) 4)) &&& 1085102592571150095) + (us (((((x - ((us x 1) &&& 6148914691236517205)) &&& 3689348814741910323) + ((us (x - ((us x 1) &&& 6148914691236517205)) 2) &&& 3689348814741910323)) + (us (((x - ((us x 1) &&& 6148914691236517205)) &&& 3689348814741910323) + ((us (x - ((us x 1) &&& 6148914691236517205)) 2) &&& 3689348814741910323)) 4)) &&& 1085102592571150095) 8)) + (us ((((((x - ((us x 1) &&& 6148914691236517205)) &&& 3689348814741910323) + ((us (x - ((us x 1) &&& 6148914691236517205)) 2) &&& 3689348814741910323)) + (us (((x - ((us x 1) &&& 6148914691236517205)) &&& 3689348814741910323) + ((us (x - ((us x 1) &&& 6148914691236517205)) 2) &&& 3689348814741910323)) 4)) &&& 1085102592571150095) + (us (((((x - ((us x 1) &&& 6148914691236517205)) &&& 3689348814741910323) + ((us (x - ((us x 1) &&& 6148914691236517205)) 2) &&& 3689348814741910323)) + (us (((x - ((us x 1) &&& 6148914691236517205)) &&& 3689348814741910323) + ((us (x - ((us x 1) &&& 6148914691236517205)) 2) &&& 3689348814741910323)) 4)) &&& 1085102592571150095) 8)) 16)))]) hx hb dJ13_bitCount_95d88_47 rfl hl (by decide) rfl (fun ls hl => ?_)
  refine lv_lload_n hx hb dJ13_bitCount_95d88_48 rfl (lv_at hl 0 rfl) ?_
  refine lv_lload_n hx hb dJ13_bitCount_95d88_49 rfl (lv_at hl 0 rfl) ?_
  refine lv_bipush (v := 32) hx hb dJ13_bitCount_95d88_50 (by decide) ?_
  refine lv_lushr (v := (us (((((((x - ((us x 1) &&& 6148914691236517205)) &&& 3689348814741910323) + ((us (x - ((us x 1) &&& 6148914691236517205)) 2) &&& 3689348814741910323)) + (us (((x - ((us x 1) &&& 6148914691236517205)) &&& 3689348814741910323) + ((us (x - ((us x 1) &&& 6148914691236517205)) 2) &&& 3689348814741910323)) 4)) &&& 1085102592571150095) + (us (((((x - ((us x 1) &&& 6148914691236517205)) &&& 3689348814741910323) + ((us (x - ((us x 1) &&& 6148914691236517205)) 2) &&& 3689348814741910323)) + (us (((x - ((us x 1) &&& 6148914691236517205)) &&& 3689348814741910323) + ((us (x - ((us x 1) &&& 6148914691236517205)) 2) &&& 3689348814741910323)) 4)) &&& 1085102592571150095) 8)) + (us ((((((x - ((us x 1) &&& 6148914691236517205)) &&& 3689348814741910323) + ((us (x - ((us x 1) &&& 6148914691236517205)) 2) &&& 3689348814741910323)) + (us (((x - ((us x 1) &&& 6148914691236517205)) &&& 3689348814741910323) + ((us (x - ((us x 1) &&& 6148914691236517205)) 2) &&& 3689348814741910323)) 4)) &&& 1085102592571150095) + (us (((((x - ((us x 1) &&& 6148914691236517205)) &&& 3689348814741910323) + ((us (x - ((us x 1) &&& 6148914691236517205)) 2) &&& 3689348814741910323)) + (us (((x - ((us x 1) &&& 6148914691236517205)) &&& 3689348814741910323) + ((us (x - ((us x 1) &&& 6148914691236517205)) 2) &&& 3689348814741910323)) 4)) &&& 1085102592571150095) 8)) 16)) 32)) hx hb dJ13_bitCount_95d88_52 rfl ?_
  refine lv_ladd hx hb dJ13_bitCount_95d88_53 ?_
  refine lv_lstore_n (lv' := [(0, .long ((((((((x - ((us x 1) &&& 6148914691236517205)) &&& 3689348814741910323) + ((us (x - ((us x 1) &&& 6148914691236517205)) 2) &&& 3689348814741910323)) + (us (((x - ((us x 1) &&& 6148914691236517205)) &&& 3689348814741910323) + ((us (x - ((us x 1) &&& 6148914691236517205)) 2) &&& 3689348814741910323)) 4)) &&& 1085102592571150095) + (us (((((x - ((us x 1) &&& 6148914691236517205)) &&& 3689348814741910323) + ((us (x - ((us x 1) &&& 6148914691236517205)) 2) &&& 3689348814741910323)) + (us (((x - ((us x 1) &&& 6148914691236517205)) &&& 3689348814741910323) + ((us (x - ((us x 1) &&& 6148914691236517205)) 2) &&& 3689348814741910323)) 4)) &&& 1085102592571150095) 8)) + (us ((((((x - ((us x 1) &&& 6148914691236517205)) &&& 3689348814741910323) + ((us (x - ((us x 1) &&& 6148914691236517205)) 2) &&& 3689348814741910323)) + (us (((x - ((us x 1) &&& 6148914691236517205)) &&& 3689348814741910323) + ((us (x - ((us x 1) &&& 6148914691236517205)) 2) &&& 3689348814741910323)) 4)) &&& 1085102592571150095) + (us (((((x - ((us x 1) &&& 6148914691236517205)) &&& 3689348814741910323) + ((us (x - ((us x 1) &&& 6148914691236517205)) 2) &&& 3689348814741910323)) + (us (((x - ((us x 1) &&& 6148914691236517205)) &&& 3689348814741910323) + ((us (x - ((us x 1) &&& 6148914691236517205)) 2) &&& 3689348814741910323)) 4)) &&& 1085102592571150095) 8)) 16)) + (us (((((((x - ((us x 1) &&& 6148914691236517205)) &&& 3689348814741910323) + ((us (x - ((us x 1) &&& 6148914691236517205)) 2) &&& 3689348814741910323)) + (us (((x - ((us x 1) &&& 6148914691236517205)) &&& 3689348814741910323) + ((us (x - ((us x 1) &&& 6148914691236517205)) 2) &&& 3689348814741910323)) 4)) &&& 1085102592571150095) + (us (((((x - ((us x 1) &&& 6148914691236517205)) &&& 3689348814741910323) + ((us (x - ((us x 1) &&& 6148914691236517205)) 2) &&& 3689348814741910323)) + (us (((x - ((us x 1) &&& 6148914691236517205)) &&& 3689348814741910323) + ((us (x - ((us x 1) &&& 6148914691236517205)) 2) &&& 3689348814741910323)) 4)) &&& 1085102592571150095) 8)) + (us ((((((x - ((us x 1) &&& 6148914691236517205)) &&& 3689348814741910323) + ((us (x - ((us x 1) &&& 6148914691236517205)) 2) &&& 3689348814741910323)) + (us (((x - ((us x 1) &&& 6148914691236517205)) &&& 3689348814741910323) + ((us (x - ((us x 1) &&& 6148914691236517205)) 2) &&& 3689348814741910323)) 4)) &&& 1085102592571150095) + (us (((((x - ((us x 1) &&& 6148914691236517205)) &&& 3689348814741910323) + ((us (x - ((us x 1) &&& 6148914691236517205)) 2) &&& 3689348814741910323)) + (us (((x - ((us x 1) &&& 6148914691236517205)) &&& 3689348814741910323) + ((us (x - ((us x 1) &&& 6148914691236517205)) 2) &&& 3689348814741910323)) 4)) &&& 1085102592571150095) 8)) 16)) 32)))]) hx hb dJ13_bitCount_95d88_54 rfl hl (by decide) rfl (fun ls hl => ?_)
  refine lv_lload_n hx hb dJ13_bitCount_95d88_55 rfl (lv_at hl 0 rfl) ?_
  refine lv_l2i hx hb dJ13_bitCount_95d88_56 rfl ?_
  refine lv_bipush (v := 127) hx hb dJ13_bitCount_95d88_57 (by decide) ?_
  refine lv_iand hx hb dJ13_bitCount_95d88_59 ?_
  exact W.iret (v := (((((((((x - ((us x 1) &&& 6148914691236517205)) &&& 3689348814741910323) + ((us (x - ((us x 1) &&& 6148914691236517205)) 2) &&& 3689348814741910323)) + (us (((x - ((us x 1) &&& 6148914691236517205)) &&& 3689348814741910323) + ((us (x - ((us x 1) &&& 6148914691236517205)) 2) &&& 3689348814741910323)) 4)) &&& 1085102592571150095) + (us (((((x - ((us x 1) &&& 6148914691236517205)) &&& 3689348814741910323) + ((us (x - ((us x 1) &&& 6148914691236517205)) 2) &&& 3689348814741910323)) + (us (((x - ((us x 1) &&& 6148914691236517205)) &&& 3689348814741910323) + ((us (x - ((us x 1) &&& 6148914691236517205)) 2) &&& 3689348814741910323)) 4)) &&& 1085102592571150095) 8)) + (us ((((((x - ((us x 1) &&& 6148914691236517205)) &&& 3689348814741910323) + ((us (x - ((us x 1) &&& 6148914691236517205)) 2) &&& 3689348814741910323)) + (us (((x - ((us x 1) &&& 6148914691236517205)) &&& 3689348814741910323) + ((us (x - ((us x 1) &&& 6148914691236517205)) 2) &&& 3689348814741910323)) 4)) &&& 1085102592571150095) + (us (((((x - ((us x 1) &&& 6148914691236517205)) &&& 3689348814741910323) + ((us (x - ((us x 1) &&& 6148914691236517205)) 2) &&& 3689348814741910323)) + (us (((x - ((us x 1) &&& 6148914691236517205)) &&& 3689348814741910323) + ((us (x - ((us x 1) &&& 6148914691236517205)) 2) &&& 3689348814741910323)) 4)) &&& 1085102592571150095) 8)) 16)) + (us (((((((x - ((us x 1) &&& 6148914691236517205)) &&& 3689348814741910323) + ((us (x - ((us x 1) &&& 6148914691236517205)) 2) &&& 3689348814741910323)) + (us (((x - ((us x 1) &&& 6148914691236517205)) &&& 3689348814741910323) + ((us (x - ((us x 1) &&& 6148914691236517205)) 2) &&& 3689348814741910323)) 4)) &&& 1085102592571150095) + (us (((((x - ((us x 1) &&& 6148914691236517205)) &&& 3689348814741910323) + ((us (x - ((us x 1) &&& 6148914691236517205)) 2) &&& 3689348814741910323)) + (us (((x - ((us x 1) &&& 6148914691236517205)) &&& 3689348814741910323) + ((us (x - ((us x 1) &&& 6148914691236517205)) 2) &&& 3689348814741910323)) 4)) &&& 1085102592571150095) 8)) + (us ((((((x - ((us x 1) &&& 6148914691236517205)) &&& 3689348814741910323) + ((us (x - ((us x 1) &&& 6148914691236517205)) 2) &&& 3689348814741910323)) + (us (((x - ((us x 1) &&& 6148914691236517205)) &&& 3689348814741910323) + ((us (x - ((us x 1) &&& 6148914691236517205)) 2) &&& 3689348814741910323)) 4)) &&& 1085102592571150095) + (us (((((x - ((us x 1) &&& 6148914691236517205)) &&& 3689348814741910323) + ((us (x - ((us x 1) &&& 6148914691236517205)) 2) &&& 3689348814741910323)) + (us (((x - ((us x 1) &&& 6148914691236517205)) &&& 3689348814741910323) + ((us (x - ((us x 1) &&& 6148914691236517205)) 2) &&& 3689348814741910323)) 4)) &&& 1085102592571150095) 8)) 16)) 32)).toInt32 &&& 127)) hx hb hr (fun t ht hW => ⟨⟨(((((((((x - ((us x 1) &&& 6148914691236517205)) &&& 3689348814741910323) + ((us (x - ((us x 1) &&& 6148914691236517205)) 2) &&& 3689348814741910323)) + (us (((x - ((us x 1) &&& 6148914691236517205)) &&& 3689348814741910323) + ((us (x - ((us x 1) &&& 6148914691236517205)) 2) &&& 3689348814741910323)) 4)) &&& 1085102592571150095) + (us (((((x - ((us x 1) &&& 6148914691236517205)) &&& 3689348814741910323) + ((us (x - ((us x 1) &&& 6148914691236517205)) 2) &&& 3689348814741910323)) + (us (((x - ((us x 1) &&& 6148914691236517205)) &&& 3689348814741910323) + ((us (x - ((us x 1) &&& 6148914691236517205)) 2) &&& 3689348814741910323)) 4)) &&& 1085102592571150095) 8)) + (us ((((((x - ((us x 1) &&& 6148914691236517205)) &&& 3689348814741910323) + ((us (x - ((us x 1) &&& 6148914691236517205)) 2) &&& 3689348814741910323)) + (us (((x - ((us x 1) &&& 6148914691236517205)) &&& 3689348814741910323) + ((us (x - ((us x 1) &&& 6148914691236517205)) 2) &&& 3689348814741910323)) 4)) &&& 1085102592571150095) + (us (((((x - ((us x 1) &&& 6148914691236517205)) &&& 3689348814741910323) + ((us (x - ((us x 1) &&& 6148914691236517205)) 2) &&& 3689348814741910323)) + (us (((x - ((us x 1) &&& 6148914691236517205)) &&& 3689348814741910323) + ((us (x - ((us x 1) &&& 6148914691236517205)) 2) &&& 3689348814741910323)) 4)) &&& 1085102592571150095) 8)) 16)) + (us (((((((x - ((us x 1) &&& 6148914691236517205)) &&& 3689348814741910323) + ((us (x - ((us x 1) &&& 6148914691236517205)) 2) &&& 3689348814741910323)) + (us (((x - ((us x 1) &&& 6148914691236517205)) &&& 3689348814741910323) + ((us (x - ((us x 1) &&& 6148914691236517205)) 2) &&& 3689348814741910323)) 4)) &&& 1085102592571150095) + (us (((((x - ((us x 1) &&& 6148914691236517205)) &&& 3689348814741910323) + ((us (x - ((us x 1) &&& 6148914691236517205)) 2) &&& 3689348814741910323)) + (us (((x - ((us x 1) &&& 6148914691236517205)) &&& 3689348814741910323) + ((us (x - ((us x 1) &&& 6148914691236517205)) 2) &&& 3689348814741910323)) 4)) &&& 1085102592571150095) 8)) + (us ((((((x - ((us x 1) &&& 6148914691236517205)) &&& 3689348814741910323) + ((us (x - ((us x 1) &&& 6148914691236517205)) 2) &&& 3689348814741910323)) + (us (((x - ((us x 1) &&& 6148914691236517205)) &&& 3689348814741910323) + ((us (x - ((us x 1) &&& 6148914691236517205)) 2) &&& 3689348814741910323)) 4)) &&& 1085102592571150095) + (us (((((x - ((us x 1) &&& 6148914691236517205)) &&& 3689348814741910323) + ((us (x - ((us x 1) &&& 6148914691236517205)) 2) &&& 3689348814741910323)) + (us (((x - ((us x 1) &&& 6148914691236517205)) &&& 3689348814741910323) + ((us (x - ((us x 1) &&& 6148914691236517205)) 2) &&& 3689348814741910323)) 4)) &&& 1085102592571150095) 8)) 16)) 32)).toInt32 &&& 127), w, rfl, ⟨(show (((((((((x - ((us x 1) &&& 6148914691236517205)) &&& 3689348814741910323) + ((us (x - ((us x 1) &&& 6148914691236517205)) 2) &&& 3689348814741910323)) + (us (((x - ((us x 1) &&& 6148914691236517205)) &&& 3689348814741910323) + ((us (x - ((us x 1) &&& 6148914691236517205)) 2) &&& 3689348814741910323)) 4)) &&& 1085102592571150095) + (us (((((x - ((us x 1) &&& 6148914691236517205)) &&& 3689348814741910323) + ((us (x - ((us x 1) &&& 6148914691236517205)) 2) &&& 3689348814741910323)) + (us (((x - ((us x 1) &&& 6148914691236517205)) &&& 3689348814741910323) + ((us (x - ((us x 1) &&& 6148914691236517205)) 2) &&& 3689348814741910323)) 4)) &&& 1085102592571150095) 8)) + (us ((((((x - ((us x 1) &&& 6148914691236517205)) &&& 3689348814741910323) + ((us (x - ((us x 1) &&& 6148914691236517205)) 2) &&& 3689348814741910323)) + (us (((x - ((us x 1) &&& 6148914691236517205)) &&& 3689348814741910323) + ((us (x - ((us x 1) &&& 6148914691236517205)) 2) &&& 3689348814741910323)) 4)) &&& 1085102592571150095) + (us (((((x - ((us x 1) &&& 6148914691236517205)) &&& 3689348814741910323) + ((us (x - ((us x 1) &&& 6148914691236517205)) 2) &&& 3689348814741910323)) + (us (((x - ((us x 1) &&& 6148914691236517205)) &&& 3689348814741910323) + ((us (x - ((us x 1) &&& 6148914691236517205)) 2) &&& 3689348814741910323)) 4)) &&& 1085102592571150095) 8)) 16)) + (us (((((((x - ((us x 1) &&& 6148914691236517205)) &&& 3689348814741910323) + ((us (x - ((us x 1) &&& 6148914691236517205)) 2) &&& 3689348814741910323)) + (us (((x - ((us x 1) &&& 6148914691236517205)) &&& 3689348814741910323) + ((us (x - ((us x 1) &&& 6148914691236517205)) 2) &&& 3689348814741910323)) 4)) &&& 1085102592571150095) + (us (((((x - ((us x 1) &&& 6148914691236517205)) &&& 3689348814741910323) + ((us (x - ((us x 1) &&& 6148914691236517205)) 2) &&& 3689348814741910323)) + (us (((x - ((us x 1) &&& 6148914691236517205)) &&& 3689348814741910323) + ((us (x - ((us x 1) &&& 6148914691236517205)) 2) &&& 3689348814741910323)) 4)) &&& 1085102592571150095) 8)) + (us ((((((x - ((us x 1) &&& 6148914691236517205)) &&& 3689348814741910323) + ((us (x - ((us x 1) &&& 6148914691236517205)) 2) &&& 3689348814741910323)) + (us (((x - ((us x 1) &&& 6148914691236517205)) &&& 3689348814741910323) + ((us (x - ((us x 1) &&& 6148914691236517205)) 2) &&& 3689348814741910323)) 4)) &&& 1085102592571150095) + (us (((((x - ((us x 1) &&& 6148914691236517205)) &&& 3689348814741910323) + ((us (x - ((us x 1) &&& 6148914691236517205)) 2) &&& 3689348814741910323)) + (us (((x - ((us x 1) &&& 6148914691236517205)) &&& 3689348814741910323) + ((us (x - ((us x 1) &&& 6148914691236517205)) 2) &&& 3689348814741910323)) 4)) &&& 1085102592571150095) 8)) 16)) 32)).toInt32 &&& 127) = (bc x) from (by first | with_reducible rfl | (simp only [bc, bc1, bc2, bc3, bc4, bc5, bc6, gi_sl, gi_sA, gi_sB, gi_si_s, gi_si_n, gl_si, gl_sA, gl_sB, gl_sl_s, gl_sl_n, gA_si, gA_sl, gA_sB, gA_sA_s, gA_sA_n, gB_si, gB_sl, gB_sA, gB_sB_s, gB_sB_n, Nat.reduceBEq, if_true, if_false, eq_self, Bool.false_eq_true, reduceCtorEq, not_true_eq_false, not_false_eq_true, decide_true, decide_false, cond_true, cond_false, Bool.true_and, Bool.false_and, Bool.and_true, Bool.and_false, Bool.true_or, Bool.false_or, Bool.or_true, Bool.or_false, b2i_tt, b2i_ff]; done) | rfl)), rfl⟩, ⟨by rw [ht]; exact hP, va_K.moved hW.alike hK, hD⟩⟩, hS.F ht⟩) hS.2.2 dJ13_bitCount_95d88_60
set_option maxHeartbeats 4000000 in
set_option maxRecDepth 100000 in
theorem c_lowest (l : Launch) (D : va_G) (cI cJ : ClassId) (w : va_W) (x : Int64) : CT l D (TY cI cJ) yX7_lowest (.code yX7_lowest cX7_lowest 2 (some Jvm.ClassFile.FieldType.int)) 1 0 0 w [.long x] (QI D (TY cI cJ) (fun r u => r = (lowest x) ∧ u = w)) := by
  refine ent (by decide) (Nat.le_of_ble_eq_true rfl) ?_
  intro p e s m below meth c ls A hx hb hr hg hown hml hlocks hnm hP hK hD hS hA hN hl
  have hl : lv_has ls 2 [(0, .long x)] := hl
  refine lv_lload_n hx hb dX7_lowest_0 rfl (lv_at hl 0 rfl) ?_
  refine lv_lload_n hx hb dX7_lowest_1 rfl (lv_at hl 0 rfl) ?_
  refine lv_lneg hx hb dX7_lowest_2 ?_
  refine lv_land hx hb dX7_lowest_3 ?_
  refine lv_lconst (v := 1) hx hb dX7_lowest_4 (by decide) ?_
  refine lv_lsub hx hb dX7_lowest_5 ?_
  refine kI (rS hx hb hml hown hg hN hK hP hD (c_bitCount l D cI cJ w ((x &&& (-x)) - 1)) mw_68 mw_69 mw_70 mw_71 pd_J13_bitCount_95d88 ⟨Nat.le_of_ble_eq_true rfl, Nat.le_of_ble_eq_true rfl⟩ rfl hl.1 rfl (Nat.le_of_ble_eq_true rfl) dX7_lowest_6 ⟨Nat.le_of_ble_eq_true rfl, Nat.le_of_ble_eq_true rfl⟩) hD hS hA (fun r_1 u_1 H locs hp hP hD hS => ?_)
  obtain ⟨er, eu⟩ := hp
  obtain rfl := er.symm
  obtain rfl := eu.symm
  exact W.iret (v := (bc ((x &&& (-x)) - 1))) hx hb hr (fun t ht hW => ⟨⟨(bc ((x &&& (-x)) - 1)), w, rfl, ⟨(show (bc ((x &&& (-x)) - 1)) = (lowest x) from (by first | with_reducible rfl | (simp only [lowest, gi_sl, gi_sA, gi_sB, gi_si_s, gi_si_n, gl_si, gl_sA, gl_sB, gl_sl_s, gl_sl_n, gA_si, gA_sl, gA_sB, gA_sA_s, gA_sA_n, gB_si, gB_sl, gB_sA, gB_sB_s, gB_sB_n, Nat.reduceBEq, if_true, if_false, eq_self, Bool.false_eq_true, reduceCtorEq, not_true_eq_false, not_false_eq_true, decide_true, decide_false, cond_true, cond_false, Bool.true_and, Bool.false_and, Bool.and_true, Bool.and_false, Bool.true_or, Bool.false_or, Bool.or_true, Bool.or_false, b2i_tt, b2i_ff]; done) | rfl)), rfl⟩, ⟨by rw [ht]; exact hP, va_K.moved hW.alike hK, hD⟩⟩, hS.F ht⟩) hS.2.2 dX7_lowest_9
set_option maxHeartbeats 4000000 in
set_option maxRecDepth 100000 in
theorem c_jumps (l : Launch) (D : va_G) (cI cJ : ClassId) (w : va_W) (k : Int32) : CT l D (TY cI cJ) yX7_jumps (.code yX7_jumps cX7_jumps 1 (some Jvm.ClassFile.FieldType.boolean)) 0 0 0 w [.int k] (QI D (TY cI cJ) (fun r u => r = (b2i (jmp k)) ∧ u = w)) := by
  refine ent (by decide) (Nat.le_of_ble_eq_true rfl) ?_
  intro p e s m below meth c ls A hx hb hr hg hown hml hlocks hnm hP hK hD hS hA hN hl
  have hl : lv_has ls 1 [(0, .int k)] := hl
  refine lv_iload_n hx hb dX7_jumps_0 rfl (lv_at hl 0 rfl) ?_
  refine lv_iconst (v := 1) hx hb dX7_jumps_1 (by decide) ?_
  refine lv_icmp_eq (tgt := 10) hx hb dX7_jumps_2 (by decide) (fun c_2 => ?_) (fun c_2 => ?_)
  · refine lv_iconst (v := 1) hx hb dX7_jumps_10 (by decide) ?_
    refine lv_goto (tgt := 15) hx hb dX7_jumps_11 (by decide) ?_
    exact W.zret (v := 1) hx hb hr rfl (fun t ht hW => ⟨⟨1, w, rfl, ⟨(show (1 : Int32) = (b2i (jmp k)) from (by first | (simp only [jmp, if_pos c_2, decide_eq_true c_2, decide_eq_false (not_not_intro c_2), gi_sl, gi_sA, gi_sB, gi_si_s, gi_si_n, gl_si, gl_sA, gl_sB, gl_sl_s, gl_sl_n, gA_si, gA_sl, gA_sB, gA_sA_s, gA_sA_n, gB_si, gB_sl, gB_sA, gB_sB_s, gB_sB_n, Nat.reduceBEq, if_true, if_false, eq_self, Bool.false_eq_true, reduceCtorEq, not_true_eq_false, not_false_eq_true, decide_true, decide_false, cond_true, cond_false, Bool.true_and, Bool.false_and, Bool.and_true, Bool.and_false, Bool.true_or, Bool.false_or, Bool.or_true, Bool.or_false, b2i_tt, b2i_ff]; done) | (simp only [jmp, if_pos c_2, decide_eq_true c_2, decide_eq_false (not_not_intro c_2), gi_sl, gi_sA, gi_sB, gi_si_s, gi_si_n, gl_si, gl_sA, gl_sB, gl_sl_s, gl_sl_n, gA_si, gA_sl, gA_sB, gA_sA_s, gA_sA_n, gB_si, gB_sl, gB_sA, gB_sB_s, gB_sB_n, Nat.reduceBEq, if_true, if_false, eq_self, Bool.false_eq_true, reduceCtorEq, not_true_eq_false, not_false_eq_true, decide_true, decide_false, cond_true, cond_false, Bool.true_and, Bool.false_and, Bool.and_true, Bool.and_false, Bool.true_or, Bool.false_or, Bool.or_true, Bool.or_false, b2i_tt, b2i_ff]; rfl) | (simp [jmp, c_2, gi_sl, gi_sA, gi_sB, gi_si_s, gi_si_n, gl_si, gl_sA, gl_sB, gl_sl_s, gl_sl_n, gA_si, gA_sl, gA_sB, gA_sA_s, gA_sA_n, gB_si, gB_sl, gB_sA, gB_sB_s, gB_sB_n, Nat.reduceBEq]; done))), rfl⟩, ⟨by rw [ht]; exact hP, va_K.moved hW.alike hK, hD⟩⟩, hS.F ht⟩) hS.2.2 dX7_jumps_15
  · refine lv_iload_n hx hb dX7_jumps_5 rfl (lv_at hl 0 rfl) ?_
    refine lv_iconst (v := 2) hx hb dX7_jumps_6 (by decide) ?_
    refine lv_icmp_ne (tgt := 14) hx hb dX7_jumps_7 (by decide) (fun c_7 => ?_) (fun c_7 => ?_)
    · refine lv_iconst (v := 0) hx hb dX7_jumps_14 (by decide) ?_
      exact W.zret (v := 0) hx hb hr rfl (fun t ht hW => ⟨⟨0, w, rfl, ⟨(show (0 : Int32) = (b2i (jmp k)) from (by first | (simp only [jmp, if_neg c_2, decide_eq_false c_2, decide_eq_true c_2, if_pos c_2, if_neg c_7, decide_eq_false c_7, decide_eq_true c_7, if_pos c_7, gi_sl, gi_sA, gi_sB, gi_si_s, gi_si_n, gl_si, gl_sA, gl_sB, gl_sl_s, gl_sl_n, gA_si, gA_sl, gA_sB, gA_sA_s, gA_sA_n, gB_si, gB_sl, gB_sA, gB_sB_s, gB_sB_n, Nat.reduceBEq, if_true, if_false, eq_self, Bool.false_eq_true, reduceCtorEq, not_true_eq_false, not_false_eq_true, decide_true, decide_false, cond_true, cond_false, Bool.true_and, Bool.false_and, Bool.and_true, Bool.and_false, Bool.true_or, Bool.false_or, Bool.or_true, Bool.or_false, b2i_tt, b2i_ff]; done) | (simp only [jmp, if_neg c_2, decide_eq_false c_2, decide_eq_true c_2, if_pos c_2, if_neg c_7, decide_eq_false c_7, decide_eq_true c_7, if_pos c_7, gi_sl, gi_sA, gi_sB, gi_si_s, gi_si_n, gl_si, gl_sA, gl_sB, gl_sl_s, gl_sl_n, gA_si, gA_sl, gA_sB, gA_sA_s, gA_sA_n, gB_si, gB_sl, gB_sA, gB_sB_s, gB_sB_n, Nat.reduceBEq, if_true, if_false, eq_self, Bool.false_eq_true, reduceCtorEq, not_true_eq_false, not_false_eq_true, decide_true, decide_false, cond_true, cond_false, Bool.true_and, Bool.false_and, Bool.and_true, Bool.and_false, Bool.true_or, Bool.false_or, Bool.or_true, Bool.or_false, b2i_tt, b2i_ff]; rfl) | (simp [jmp, c_2, c_7, gi_sl, gi_sA, gi_sB, gi_si_s, gi_si_n, gl_si, gl_sA, gl_sB, gl_sl_s, gl_sl_n, gA_si, gA_sl, gA_sB, gA_sA_s, gA_sA_n, gB_si, gB_sl, gB_sA, gB_sB_s, gB_sB_n, Nat.reduceBEq]; done))), rfl⟩, ⟨by rw [ht]; exact hP, va_K.moved hW.alike hK, hD⟩⟩, hS.F ht⟩) hS.2.2 dX7_jumps_15
    · refine lv_iconst (v := 1) hx hb dX7_jumps_10 (by decide) ?_
      refine lv_goto (tgt := 15) hx hb dX7_jumps_11 (by decide) ?_
      exact W.zret (v := 1) hx hb hr rfl (fun t ht hW => ⟨⟨1, w, rfl, ⟨(show (1 : Int32) = (b2i (jmp k)) from (by first | (simp only [jmp, if_neg c_2, decide_eq_false c_2, decide_eq_true c_2, if_pos c_2, if_pos c_7, decide_eq_true c_7, decide_eq_false (not_not_intro c_7), gi_sl, gi_sA, gi_sB, gi_si_s, gi_si_n, gl_si, gl_sA, gl_sB, gl_sl_s, gl_sl_n, gA_si, gA_sl, gA_sB, gA_sA_s, gA_sA_n, gB_si, gB_sl, gB_sA, gB_sB_s, gB_sB_n, Nat.reduceBEq, if_true, if_false, eq_self, Bool.false_eq_true, reduceCtorEq, not_true_eq_false, not_false_eq_true, decide_true, decide_false, cond_true, cond_false, Bool.true_and, Bool.false_and, Bool.and_true, Bool.and_false, Bool.true_or, Bool.false_or, Bool.or_true, Bool.or_false, b2i_tt, b2i_ff]; done) | (simp only [jmp, if_neg c_2, decide_eq_false c_2, decide_eq_true c_2, if_pos c_2, if_pos c_7, decide_eq_true c_7, decide_eq_false (not_not_intro c_7), gi_sl, gi_sA, gi_sB, gi_si_s, gi_si_n, gl_si, gl_sA, gl_sB, gl_sl_s, gl_sl_n, gA_si, gA_sl, gA_sB, gA_sA_s, gA_sA_n, gB_si, gB_sl, gB_sA, gB_sB_s, gB_sB_n, Nat.reduceBEq, if_true, if_false, eq_self, Bool.false_eq_true, reduceCtorEq, not_true_eq_false, not_false_eq_true, decide_true, decide_false, cond_true, cond_false, Bool.true_and, Bool.false_and, Bool.and_true, Bool.and_false, Bool.true_or, Bool.false_or, Bool.or_true, Bool.or_false, b2i_tt, b2i_ff]; rfl) | (simp [jmp, c_2, c_7, gi_sl, gi_sA, gi_sB, gi_si_s, gi_si_n, gl_si, gl_sA, gl_sB, gl_sl_s, gl_sl_n, gA_si, gA_sl, gA_sB, gA_sA_s, gA_sA_n, gB_si, gB_sl, gB_sA, gB_sB_s, gB_sB_n, Nat.reduceBEq]; done))), rfl⟩, ⟨by rw [ht]; exact hP, va_K.moved hW.alike hK, hD⟩⟩, hS.F ht⟩) hS.2.2 dX7_jumps_15
set_option maxHeartbeats 4000000 in
set_option maxRecDepth 100000 in
theorem c_isTarget (l : Launch) (D : va_G) (cI cJ : ClassId) (w : va_W) (k : Int32) : CT l D (TY cI cJ) yX7_isTarget (.code yX7_isTarget cX7_isTarget 1 (some Jvm.ClassFile.FieldType.boolean)) 0 0 0 w [.int k] (QI D (TY cI cJ) (fun r u => r = (b2i (isT k)) ∧ u = w)) := by
  refine ent (by decide) (Nat.le_of_ble_eq_true rfl) ?_
  intro p e s m below meth c ls A hx hb hr hg hown hml hlocks hnm hP hK hD hS hA hN hl
  have hl : lv_has ls 1 [(0, .int k)] := hl
  refine lv_iload_n hx hb dX7_isTarget_0 rfl (lv_at hl 0 rfl) ?_
  refine lv_if_lt (tgt := 14) hx hb dX7_isTarget_1 (by decide) (fun c_1 => ?_) (fun c_1 => ?_)
  · refine lv_iconst (v := 0) hx hb dX7_isTarget_14 (by decide) ?_
    exact W.zret (v := 0) hx hb hr rfl (fun t ht hW => ⟨⟨0, w, rfl, ⟨(show (0 : Int32) = (b2i (isT k)) from (by first | (simp only [isT, if_pos c_1, decide_eq_true c_1, decide_eq_false (not_not_intro c_1), gi_sl, gi_sA, gi_sB, gi_si_s, gi_si_n, gl_si, gl_sA, gl_sB, gl_sl_s, gl_sl_n, gA_si, gA_sl, gA_sB, gA_sA_s, gA_sA_n, gB_si, gB_sl, gB_sA, gB_sB_s, gB_sB_n, Nat.reduceBEq, if_true, if_false, eq_self, Bool.false_eq_true, reduceCtorEq, not_true_eq_false, not_false_eq_true, decide_true, decide_false, cond_true, cond_false, Bool.true_and, Bool.false_and, Bool.and_true, Bool.and_false, Bool.true_or, Bool.false_or, Bool.or_true, Bool.or_false, b2i_tt, b2i_ff]; done) | (simp only [isT, if_pos c_1, decide_eq_true c_1, decide_eq_false (not_not_intro c_1), gi_sl, gi_sA, gi_sB, gi_si_s, gi_si_n, gl_si, gl_sA, gl_sB, gl_sl_s, gl_sl_n, gA_si, gA_sl, gA_sB, gA_sA_s, gA_sA_n, gB_si, gB_sl, gB_sA, gB_sB_s, gB_sB_n, Nat.reduceBEq, if_true, if_false, eq_self, Bool.false_eq_true, reduceCtorEq, not_true_eq_false, not_false_eq_true, decide_true, decide_false, cond_true, cond_false, Bool.true_and, Bool.false_and, Bool.and_true, Bool.and_false, Bool.true_or, Bool.false_or, Bool.or_true, Bool.or_false, b2i_tt, b2i_ff]; rfl) | (simp [isT, c_1, gi_sl, gi_sA, gi_sB, gi_si_s, gi_si_n, gl_si, gl_sA, gl_sB, gl_sl_s, gl_sl_n, gA_si, gA_sl, gA_sB, gA_sA_s, gA_sA_n, gB_si, gB_sl, gB_sA, gB_sB_s, gB_sB_n, Nat.reduceBEq]; done))), rfl⟩, ⟨by rw [ht]; exact hP, va_K.moved hW.alike hK, hD⟩⟩, hS.F ht⟩) hS.2.2 dX7_isTarget_15
  · refine lv_iload_n hx hb dX7_isTarget_4 rfl (lv_at hl 0 rfl) ?_
    refine lv_bipush (v := 40) hx hb dX7_isTarget_5 (by decide) ?_
    refine lv_icmp_gt (tgt := 14) hx hb dX7_isTarget_7 (by decide) (fun c_7 => ?_) (fun c_7 => ?_)
    · refine lv_iconst (v := 0) hx hb dX7_isTarget_14 (by decide) ?_
      exact W.zret (v := 0) hx hb hr rfl (fun t ht hW => ⟨⟨0, w, rfl, ⟨(show (0 : Int32) = (b2i (isT k)) from (by first | (simp only [isT, if_neg c_1, decide_eq_false c_1, decide_eq_true c_1, if_pos c_1, if_pos c_7, decide_eq_true c_7, decide_eq_false (not_not_intro c_7), gi_sl, gi_sA, gi_sB, gi_si_s, gi_si_n, gl_si, gl_sA, gl_sB, gl_sl_s, gl_sl_n, gA_si, gA_sl, gA_sB, gA_sA_s, gA_sA_n, gB_si, gB_sl, gB_sA, gB_sB_s, gB_sB_n, Nat.reduceBEq, if_true, if_false, eq_self, Bool.false_eq_true, reduceCtorEq, not_true_eq_false, not_false_eq_true, decide_true, decide_false, cond_true, cond_false, Bool.true_and, Bool.false_and, Bool.and_true, Bool.and_false, Bool.true_or, Bool.false_or, Bool.or_true, Bool.or_false, b2i_tt, b2i_ff]; done) | (simp only [isT, if_neg c_1, decide_eq_false c_1, decide_eq_true c_1, if_pos c_1, if_pos c_7, decide_eq_true c_7, decide_eq_false (not_not_intro c_7), gi_sl, gi_sA, gi_sB, gi_si_s, gi_si_n, gl_si, gl_sA, gl_sB, gl_sl_s, gl_sl_n, gA_si, gA_sl, gA_sB, gA_sA_s, gA_sA_n, gB_si, gB_sl, gB_sA, gB_sB_s, gB_sB_n, Nat.reduceBEq, if_true, if_false, eq_self, Bool.false_eq_true, reduceCtorEq, not_true_eq_false, not_false_eq_true, decide_true, decide_false, cond_true, cond_false, Bool.true_and, Bool.false_and, Bool.and_true, Bool.and_false, Bool.true_or, Bool.false_or, Bool.or_true, Bool.or_false, b2i_tt, b2i_ff]; rfl) | (simp [isT, c_1, c_7, gi_sl, gi_sA, gi_sB, gi_si_s, gi_si_n, gl_si, gl_sA, gl_sB, gl_sl_s, gl_sl_n, gA_si, gA_sl, gA_sB, gA_sA_s, gA_sA_n, gB_si, gB_sl, gB_sA, gB_sB_s, gB_sB_n, Nat.reduceBEq]; done))), rfl⟩, ⟨by rw [ht]; exact hP, va_K.moved hW.alike hK, hD⟩⟩, hS.F ht⟩) hS.2.2 dX7_isTarget_15
    · refine lv_iconst (v := 1) hx hb dX7_isTarget_10 (by decide) ?_
      refine lv_goto (tgt := 15) hx hb dX7_isTarget_11 (by decide) ?_
      exact W.zret (v := 1) hx hb hr rfl (fun t ht hW => ⟨⟨1, w, rfl, ⟨(show (1 : Int32) = (b2i (isT k)) from (by first | (simp only [isT, if_neg c_1, decide_eq_false c_1, decide_eq_true c_1, if_pos c_1, if_neg c_7, decide_eq_false c_7, decide_eq_true c_7, if_pos c_7, gi_sl, gi_sA, gi_sB, gi_si_s, gi_si_n, gl_si, gl_sA, gl_sB, gl_sl_s, gl_sl_n, gA_si, gA_sl, gA_sB, gA_sA_s, gA_sA_n, gB_si, gB_sl, gB_sA, gB_sB_s, gB_sB_n, Nat.reduceBEq, if_true, if_false, eq_self, Bool.false_eq_true, reduceCtorEq, not_true_eq_false, not_false_eq_true, decide_true, decide_false, cond_true, cond_false, Bool.true_and, Bool.false_and, Bool.and_true, Bool.and_false, Bool.true_or, Bool.false_or, Bool.or_true, Bool.or_false, b2i_tt, b2i_ff]; done) | (simp only [isT, if_neg c_1, decide_eq_false c_1, decide_eq_true c_1, if_pos c_1, if_neg c_7, decide_eq_false c_7, decide_eq_true c_7, if_pos c_7, gi_sl, gi_sA, gi_sB, gi_si_s, gi_si_n, gl_si, gl_sA, gl_sB, gl_sl_s, gl_sl_n, gA_si, gA_sl, gA_sB, gA_sA_s, gA_sA_n, gB_si, gB_sl, gB_sA, gB_sB_s, gB_sB_n, Nat.reduceBEq, if_true, if_false, eq_self, Bool.false_eq_true, reduceCtorEq, not_true_eq_false, not_false_eq_true, decide_true, decide_false, cond_true, cond_false, Bool.true_and, Bool.false_and, Bool.and_true, Bool.and_false, Bool.true_or, Bool.false_or, Bool.or_true, Bool.or_false, b2i_tt, b2i_ff]; rfl) | (simp [isT, c_1, c_7, gi_sl, gi_sA, gi_sB, gi_si_s, gi_si_n, gl_si, gl_sA, gl_sB, gl_sl_s, gl_sl_n, gA_si, gA_sl, gA_sB, gA_sA_s, gA_sA_n, gB_si, gB_sl, gB_sA, gB_sB_s, gB_sB_n, Nat.reduceBEq]; done))), rfl⟩, ⟨by rw [ht]; exact hP, va_K.moved hW.alike hK, hD⟩⟩, hS.F ht⟩) hS.2.2 dX7_isTarget_15
set_option maxHeartbeats 4000000 in
set_option maxRecDepth 100000 in
theorem c_mix (l : Launch) (D : va_G) (cI cJ : ClassId) (w : va_W) (x : Int64) (v : Int32) : CT l D (TY cI cJ) yX7_mix (.code yX7_mix cX7_mix 3 (some Jvm.ClassFile.FieldType.long)) 0 0 0 w [.long x, .int v] (QL D (TY cI cJ) (fun r u => r = (mixI x v) ∧ u = w)) := by
  refine ent (by decide) (Nat.le_of_ble_eq_true rfl) ?_
  intro p e s m below meth c ls A hx hb hr hg hown hml hlocks hnm hP hK hD hS hA hN hl
  have hl : lv_has ls 3 [(0, .long x), (2, .int v)] := hl
  refine lv_lload_n hx hb dX7_mix_0 rfl (lv_at hl 0 rfl) ?_
  refine lv_ldc2 (v := 31) hx hb hown (hg _ mw_72) dX7_mix_1 ?_
  refine lv_lmul hx hb dX7_mix_4 ?_
  refine lv_iload_n hx hb dX7_mix_5 rfl (lv_at hl 1 rfl) ?_
  refine lv_i2l hx hb dX7_mix_6 rfl ?_
  refine lv_ladd hx hb dX7_mix_7 ?_
  exact W.lret (v := ((x * 31) + v.toInt64)) hx hb hr (fun t ht hW => ⟨⟨((x * 31) + v.toInt64), w, rfl, ⟨(show ((x * 31) + v.toInt64) = (mixI x v) from (by first | with_reducible rfl | (simp only [mixI, gi_sl, gi_sA, gi_sB, gi_si_s, gi_si_n, gl_si, gl_sA, gl_sB, gl_sl_s, gl_sl_n, gA_si, gA_sl, gA_sB, gA_sA_s, gA_sA_n, gB_si, gB_sl, gB_sA, gB_sB_s, gB_sB_n, Nat.reduceBEq, if_true, if_false, eq_self, Bool.false_eq_true, reduceCtorEq, not_true_eq_false, not_false_eq_true, decide_true, decide_false, cond_true, cond_false, Bool.true_and, Bool.false_and, Bool.and_true, Bool.and_false, Bool.true_or, Bool.false_or, Bool.or_true, Bool.or_false, b2i_tt, b2i_ff]; done) | rfl)), rfl⟩, ⟨by rw [ht]; exact hP, va_K.moved hW.alike hK, hD⟩⟩, hS.F ht⟩) hS.2.2 dX7_mix_8
set_option maxHeartbeats 4000000 in
set_option maxRecDepth 100000 in
theorem c_mixZ (l : Launch) (D : va_G) (cI cJ : ClassId) (w : va_W) (x : Int64) (b : Bool) : CT l D (TY cI cJ) yX7_mix_ (.code yX7_mix_ cX7_mix_ 3 (some Jvm.ClassFile.FieldType.long)) 0 0 0 w [.long x, .int (b2i b)] (QL D (TY cI cJ) (fun r u => r = (mixZ x b) ∧ u = w)) := by
  refine ent (by decide) (Nat.le_of_ble_eq_true rfl) ?_
  intro p e s m below meth c ls A hx hb hr hg hown hml hlocks hnm hP hK hD hS hA hN hl
  have hl : lv_has ls 3 [(0, .long x), (2, .int (b2i b))] := hl
  refine lv_lload_n hx hb dX7_mix__0 rfl (lv_at hl 0 rfl) ?_
  refine lv_ldc2 (v := 31) hx hb hown (hg _ mw_72) dX7_mix__1 ?_
  refine lv_lmul hx hb dX7_mix__4 ?_
  refine lv_iload_n hx hb dX7_mix__5 rfl (lv_at hl 1 rfl) ?_
  refine lv_if_eq (tgt := 13) hx hb dX7_mix__6 (by decide) (fun c_6 => ?_) (fun c_6 => ?_)
  · have c_6 : ¬ b = true := b2i_0 c_6
    refine lv_lconst (v := 0) hx hb dX7_mix__13 (by decide) ?_
    refine lv_ladd hx hb dX7_mix__14 ?_
    exact W.lret (v := ((x * 31) + 0)) hx hb hr (fun t ht hW => ⟨⟨((x * 31) + 0), w, rfl, ⟨(show ((x * 31) + 0) = (mixZ x b) from (by first | (simp only [mixZ, if_neg c_6, bf_of c_6, gi_sl, gi_sA, gi_sB, gi_si_s, gi_si_n, gl_si, gl_sA, gl_sB, gl_sl_s, gl_sl_n, gA_si, gA_sl, gA_sB, gA_sA_s, gA_sA_n, gB_si, gB_sl, gB_sA, gB_sB_s, gB_sB_n, Nat.reduceBEq, if_true, if_false, eq_self, Bool.false_eq_true, reduceCtorEq, not_true_eq_false, not_false_eq_true, decide_true, decide_false, cond_true, cond_false, Bool.true_and, Bool.false_and, Bool.and_true, Bool.and_false, Bool.true_or, Bool.false_or, Bool.or_true, Bool.or_false, b2i_tt, b2i_ff]; done) | (simp only [mixZ, if_neg c_6, bf_of c_6, gi_sl, gi_sA, gi_sB, gi_si_s, gi_si_n, gl_si, gl_sA, gl_sB, gl_sl_s, gl_sl_n, gA_si, gA_sl, gA_sB, gA_sA_s, gA_sA_n, gB_si, gB_sl, gB_sA, gB_sB_s, gB_sB_n, Nat.reduceBEq, if_true, if_false, eq_self, Bool.false_eq_true, reduceCtorEq, not_true_eq_false, not_false_eq_true, decide_true, decide_false, cond_true, cond_false, Bool.true_and, Bool.false_and, Bool.and_true, Bool.and_false, Bool.true_or, Bool.false_or, Bool.or_true, Bool.or_false, b2i_tt, b2i_ff]; rfl) | (simp [mixZ, c_6, gi_sl, gi_sA, gi_sB, gi_si_s, gi_si_n, gl_si, gl_sA, gl_sB, gl_sl_s, gl_sl_n, gA_si, gA_sl, gA_sB, gA_sA_s, gA_sA_n, gB_si, gB_sl, gB_sA, gB_sB_s, gB_sB_n, Nat.reduceBEq]; done))), rfl⟩, ⟨by rw [ht]; exact hP, va_K.moved hW.alike hK, hD⟩⟩, hS.F ht⟩) hS.2.2 dX7_mix__15
  · have c_6 : b = true := b2i_1 c_6
    refine lv_lconst (v := 1) hx hb dX7_mix__9 (by decide) ?_
    refine lv_goto (tgt := 14) hx hb dX7_mix__10 (by decide) ?_
    refine lv_ladd hx hb dX7_mix__14 ?_
    exact W.lret (v := ((x * 31) + 1)) hx hb hr (fun t ht hW => ⟨⟨((x * 31) + 1), w, rfl, ⟨(show ((x * 31) + 1) = (mixZ x b) from (by first | (simp only [mixZ, if_pos c_6, c_6, gi_sl, gi_sA, gi_sB, gi_si_s, gi_si_n, gl_si, gl_sA, gl_sB, gl_sl_s, gl_sl_n, gA_si, gA_sl, gA_sB, gA_sA_s, gA_sA_n, gB_si, gB_sl, gB_sA, gB_sB_s, gB_sB_n, Nat.reduceBEq, if_true, if_false, eq_self, Bool.false_eq_true, reduceCtorEq, not_true_eq_false, not_false_eq_true, decide_true, decide_false, cond_true, cond_false, Bool.true_and, Bool.false_and, Bool.and_true, Bool.and_false, Bool.true_or, Bool.false_or, Bool.or_true, Bool.or_false, b2i_tt, b2i_ff]; done) | (simp only [mixZ, if_pos c_6, c_6, gi_sl, gi_sA, gi_sB, gi_si_s, gi_si_n, gl_si, gl_sA, gl_sB, gl_sl_s, gl_sl_n, gA_si, gA_sl, gA_sB, gA_sA_s, gA_sA_n, gB_si, gB_sl, gB_sA, gB_sB_s, gB_sB_n, Nat.reduceBEq, if_true, if_false, eq_self, Bool.false_eq_true, reduceCtorEq, not_true_eq_false, not_false_eq_true, decide_true, decide_false, cond_true, cond_false, Bool.true_and, Bool.false_and, Bool.and_true, Bool.and_false, Bool.true_or, Bool.false_or, Bool.or_true, Bool.or_false, b2i_tt, b2i_ff]; rfl) | (simp [mixZ, c_6, gi_sl, gi_sA, gi_sB, gi_si_s, gi_si_n, gl_si, gl_sA, gl_sB, gl_sl_s, gl_sl_n, gA_si, gA_sl, gA_sB, gA_sA_s, gA_sA_n, gB_si, gB_sl, gB_sA, gB_sB_s, gB_sB_n, Nat.reduceBEq]; done))), rfl⟩, ⟨by rw [ht]; exact hP, va_K.moved hW.alike hK, hD⟩⟩, hS.F ht⟩) hS.2.2 dX7_mix__15
end
section
/-! ===== drawers: more things than places ===== -/
theorem fb_holes : ∀ (m n : Nat) (f : Nat → Nat), (∀ i, i < n → f i < m) → (∀ i j, i < j → j < n → f i ≠ f j) → n ≤ m := by
  intro m
  induction m with
  | zero =>
    intro n f h1 _
    rcases Nat.eq_zero_or_pos n with h | h
    · omega
    · exact absurd (h1 0 h) (Nat.not_lt_zero _)
  | succ m ih =>
    intro n f h1 h2
    by_cases hx : ∃ i, i < n ∧ f i = m
    · obtain ⟨a, ha, hfa⟩ := hx
      have hg := ih (n - 1) (fun i => if i < a then f i else f (i + 1)) (by
        intro i hi
        by_cases q : i < a
        · simp only [if_pos q]
          have b1 := h1 i (by omega)
          have b2 := h2 i a q ha
          omega
        · simp only [if_neg q]
          have b1 := h1 (i + 1) (by omega)
          have b2 := h2 a (i + 1) (by omega) (by omega)
          omega) (by
        intro i j hij hj
        by_cases q : i < a
        · by_cases r : j < a
          · simp only [if_pos q, if_pos r]
            exact h2 i j hij (by omega)
          · simp only [if_pos q, if_neg r]
            exact h2 i (j + 1) (by omega) (by omega)
        · have r : ¬ j < a := by omega
          simp only [if_neg q, if_neg r]
          exact h2 (i + 1) (j + 1) (by omega) (by omega))
      omega
    · have hg := ih n f (fun i hi => by
        have b1 := h1 i hi
        have b2 : f i ≠ m := fun e => hx ⟨i, hi, e⟩
        omega) h2
      omega
/-- two of them in one place -/
theorem fb_twice {m n : Nat} {f : Nat → Nat} (h : ∀ i, i < n → f i < m) (hm : m < n) : ∃ i j, i < j ∧ j < n ∧ f i = f j := by
  refine Classical.byContradiction fun hx => ?_
  have := fb_holes m n f h (fun i j hij hj e => hx ⟨i, j, hij, hj, e⟩)
  omega
/-- as many as places, none twice: each place is taken -/
theorem fb_onto {n : Nat} {f : Nat → Nat} (h : ∀ i, i < n → f i < n) (h2 : ∀ i j, i < j → j < n → f i ≠ f j) {y : Nat} (hy : y < n) : ∃ i, i < n ∧ f i = y := by
  refine Classical.byContradiction fun hx => ?_
  have hne : ∀ i, i < n → f i ≠ y := fun i hi e => hx ⟨i, hi, e⟩
  have := fb_holes (n - 1) n (fun i => if f i < y then f i else f i - 1) (by
    intro i hi
    have b1 := h i hi
    have b2 := hne i hi
    by_cases q : f i < y
    · simp only [if_pos q]; omega
    · simp only [if_neg q]; omega) (by
    intro i j hij hj
    have b1 := hne i (by omega)
    have b2 := hne j hj
    have b3 := h2 i j hij hj
    by_cases q : f i < y
    · by_cases r : f j < y
      · simp only [if_pos q, if_pos r]; exact b3
      · simp only [if_pos q, if_neg r]; omega
    · by_cases r : f j < y
      · simp only [if_neg q, if_pos r]; omega
      · simp only [if_neg q, if_neg r]; omega)
  omega
/-! ===== how many places have a property ===== -/
def fb_ct (p : Nat → Bool) : Nat → Nat
  | 0 => 0
  | n + 1 => fb_ct p n + (if p n then 1 else 0)
theorem fb_ct_succ (p : Nat → Bool) (n : Nat) : fb_ct p (n + 1) = fb_ct p n + (if p n then 1 else 0) := rfl
theorem fb_ct_le (p : Nat → Bool) : ∀ n, fb_ct p n ≤ n
  | 0 => Nat.le_refl _
  | n + 1 => by
    have h := fb_ct_le p n
    rw [fb_ct_succ]
    split <;> omega
theorem fb_ct_step (p : Nat → Bool) (m : Nat) : ∀ n, fb_ct p m ≤ fb_ct p (m + n)
  | 0 => Nat.le_refl _
  | n + 1 => by
    have h := fb_ct_step p m n
    show fb_ct p m ≤ fb_ct p (m + n + 1)
    rw [fb_ct_succ]
    omega
theorem fb_ct_mono (p : Nat → Bool) {m n : Nat} (h : m ≤ n) : fb_ct p m ≤ fb_ct p n := by
  have := fb_ct_step p m (n - m)
  rwa [Nat.add_sub_cancel' h] at this
theorem fb_ct_cong {p q : Nat → Bool} : ∀ {n : Nat}, (∀ k, k < n → p k = q k) → fb_ct p n = fb_ct q n
  | 0, _ => rfl
  | n + 1, h => by
    rw [fb_ct_succ, fb_ct_succ, fb_ct_cong (fun k hk => h k (by omega)), h n (by omega)]
/-- one place changed -/
theorem fb_ct_out (p : Nat → Bool) (b : Bool) {i n : Nat} (h : n ≤ i) : fb_ct (fun k => if k = i then b else p k) n = fb_ct p n :=
  fb_ct_cong fun k hk => if_neg (by omega)
theorem fb_ct_upd (p : Nat → Bool) (b : Bool) {i : Nat} : ∀ {n : Nat}, i < n → fb_ct (fun k => if k = i then b else p k) n + (if p i then 1 else 0) = fb_ct p n + (if b then 1 else 0)
  | 0, h => absurd h (Nat.not_lt_zero i)
  | n + 1, h => by
    rw [fb_ct_succ, fb_ct_succ]
    rcases Nat.lt_or_ge i n with q | q
    · have := fb_ct_upd p b q
      have e : (if n = i then b else p n) = p n := if_neg (by omega)
      rw [e]
      omega
    · have e : i = n := by omega
      subst e
      rw [fb_ct_out p b (Nat.le_refl _)]
      simp only [if_true]
      omega
theorem fb_ct_sub {p q : Nat → Bool} : ∀ {n : Nat}, (∀ k, k < n → p k = true → q k = true) → fb_ct p n ≤ fb_ct q n
  | 0, _ => Nat.le_refl _
  | n + 1, h => by
    have h1 := fb_ct_sub (n := n) (p := p) (q := q) (fun k hk => h k (by omega))
    have h2 := h n (by omega)
    rw [fb_ct_succ, fb_ct_succ]
    cases hp : p n <;> cases hq : q n <;> simp_all <;> omega
theorem fb_ct_or {p q : Nat → Bool} : ∀ {n : Nat}, (∀ k, k < n → ¬ (p k = true ∧ q k = true)) → fb_ct (fun k => p k || q k) n = fb_ct p n + fb_ct q n
  | 0, _ => rfl
  | n + 1, h => by
    have h1 := fb_ct_or (n := n) (p := p) (q := q) (fun k hk => h k (by omega))
    have h2 := h n (by omega)
    rw [fb_ct_succ, fb_ct_succ, fb_ct_succ, h1]
    cases hp : p n <;> cases hq : q n <;> simp_all <;> omega
theorem fb_ct_not (p : Nat → Bool) : ∀ n, fb_ct p n + fb_ct (fun k => !p k) n = n
  | 0 => rfl
  | n + 1 => by
    have h := fb_ct_not p n
    rw [fb_ct_succ, fb_ct_succ]
    cases p n <;> simp <;> omega
theorem fb_ct_split (p : Nat → Bool) (m : Nat) : ∀ n, fb_ct p (m + n) = fb_ct p m + fb_ct (fun k => p (m + k)) n
  | 0 => rfl
  | n + 1 => by
    have h := fb_ct_split p m n
    show fb_ct p (m + n + 1) = _
    rw [fb_ct_succ, fb_ct_succ, h, Nat.add_assoc]
theorem fb_ct_zero {p : Nat → Bool} : ∀ {n : Nat}, fb_ct p n = 0 ↔ ∀ k, k < n → p k = false
  | 0 => ⟨fun _ k hk => absurd hk (Nat.not_lt_zero k), fun _ => rfl⟩
  | n + 1 => by
    have h := fb_ct_zero (p := p) (n := n)
    rw [fb_ct_succ]
    constructor
    · intro e k hk
      have e1 : fb_ct p n = 0 := by omega
      rcases Nat.lt_or_ge k n with q | q
      · exact h.mp e1 k q
      · have ek : k = n := by omega
        subst ek
        cases hp : p k
        · rfl
        · simp [hp] at e
    · intro a
      rw [h.mpr (fun k hk => a k (by omega)), a n (by omega)]
      rfl
theorem fb_ct_pos {p : Nat → Bool} {n : Nat} : 0 < fb_ct p n ↔ ∃ k, k < n ∧ p k = true := by
  constructor
  · intro h
    refine Classical.byContradiction fun hx => ?_
    have := fb_ct_zero.mpr (fun k hk => by
      cases hp : p k
      · rfl
      · exact absurd ⟨k, hk, hp⟩ hx : ∀ k, k < n → p k = false)
    omega
  · rintro ⟨k, hk, hp⟩
    rcases Nat.eq_zero_or_pos (fb_ct p n) with e | e
    · have := fb_ct_zero.mp e k hk
      rw [this] at hp
      cases hp
    · exact e
theorem fb_ct_all {p : Nat → Bool} {n : Nat} : fb_ct p n = n ↔ ∀ k, k < n → p k = true := by
  have h := fb_ct_not p n
  constructor
  · intro e k hk
    have z : fb_ct (fun k => !p k) n = 0 := by omega
    have := fb_ct_zero.mp z k hk
    cases hp : p k
    · simp [hp] at this
    · rfl
  · intro a
    have z : fb_ct (fun k => !p k) n = 0 := fb_ct_zero.mpr (fun k hk => by simp [a k hk])
    omega
/-- the k-th place with the property -/
theorem fb_ct_kth {p : Nat → Bool} {k : Nat} : ∀ {n : Nat}, k < fb_ct p n → ∃ i, i < n ∧ p i = true ∧ fb_ct p i = k
  | 0, h => absurd h (Nat.not_lt_zero k)
  | n + 1, h => by
    rcases Nat.lt_or_ge k (fb_ct p n) with q | q
    · obtain ⟨i, h1, h2⟩ := fb_ct_kth q
      exact ⟨i, by omega, h2⟩
    · rw [fb_ct_succ] at h
      cases hp : p n
      · simp [hp] at h; omega
      · simp [hp] at h
        exact ⟨n, by omega, hp, by omega⟩
theorem fb_ct_kth_one {p : Nat → Bool} {i j : Nat} (hi : p i = true) (hj : p j = true) (e : fb_ct p i = fb_ct p j) : i = j := by
  have key : ∀ a b : Nat, a < b → p a = true → fb_ct p a < fb_ct p b := by
    intro a b hab ha
    have h := fb_ct_mono p (show a + 1 ≤ b from hab)
    rw [fb_ct_succ, ha] at h
    simp at h
    omega
  rcases Nat.lt_trichotomy i j with q | q | q
  · have := key i j q hi; omega
  · exact q
  · have := key j i q hj; omega
/-! ===== sums over a range: one place changed, parts, bounds ===== -/
def fb_sm (f : Nat → Nat) : Nat → Nat
  | 0 => 0
  | n + 1 => fb_sm f n + f n
theorem fb_sm_succ (f : Nat → Nat) (n : Nat) : fb_sm f (n + 1) = fb_sm f n + f n := rfl
theorem fb_sm_cong {f g : Nat → Nat} : ∀ {n : Nat}, (∀ k, k < n → f k = g k) → fb_sm f n = fb_sm g n
  | 0, _ => rfl
  | n + 1, h => by rw [fb_sm_succ, fb_sm_succ, fb_sm_cong (fun k hk => h k (by omega)), h n (by omega)]
theorem fb_sm_out (f : Nat → Nat) (v : Nat) {i n : Nat} (h : n ≤ i) : fb_sm (fun k => if k = i then v else f k) n = fb_sm f n :=
  fb_sm_cong fun k hk => if_neg (by omega)
theorem fb_sm_upd (f : Nat → Nat) (v : Nat) {i : Nat} : ∀ {n : Nat}, i < n → fb_sm (fun k => if k = i then v else f k) n + f i = fb_sm f n + v
  | 0, h => absurd h (Nat.not_lt_zero i)
  | n + 1, h => by
    rw [fb_sm_succ, fb_sm_succ]
    rcases Nat.lt_or_ge i n with q | q
    · have := fb_sm_upd f v q
      have e : (if n = i then v else f n) = f n := if_neg (by omega)
      rw [e]
      omega
    · have e : i = n := by omega
      subst e
      rw [fb_sm_out f v (Nat.le_refl _)]
      simp only [if_true]
      omega
theorem fb_sm_add (f g : Nat → Nat) : ∀ n, fb_sm (fun k => f k + g k) n = fb_sm f n + fb_sm g n
  | 0 => rfl
  | n + 1 => by
    have h := fb_sm_add f g n
    rw [fb_sm_succ, fb_sm_succ, fb_sm_succ, h]
    omega
theorem fb_sm_le {f g : Nat → Nat} : ∀ {n : Nat}, (∀ k, k < n → f k ≤ g k) → fb_sm f n ≤ fb_sm g n
  | 0, _ => Nat.le_refl _
  | n + 1, h => by
    have h1 := fb_sm_le (n := n) (f := f) (g := g) (fun k hk => h k (by omega))
    have h2 := h n (by omega)
    rw [fb_sm_succ, fb_sm_succ]
    omega
theorem fb_sm_const (c : Nat) : ∀ n, fb_sm (fun _ => c) n = n * c
  | 0 => by rw [Nat.zero_mul]; rfl
  | n + 1 => by rw [fb_sm_succ, fb_sm_const c n, Nat.succ_mul]
theorem fb_sm_bound {f : Nat → Nat} {c n : Nat} (h : ∀ k, k < n → f k ≤ c) : fb_sm f n ≤ n * c := by
  rw [← fb_sm_const c n]
  exact fb_sm_le h
theorem fb_sm_mono (f : Nat → Nat) (m : Nat) : ∀ n, fb_sm f m ≤ fb_sm f (m + n)
  | 0 => Nat.le_refl _
  | n + 1 => by
    have h := fb_sm_mono f m n
    show fb_sm f m ≤ fb_sm f (m + n + 1)
    rw [fb_sm_succ]
    omega
theorem fb_sm_part (f : Nat → Nat) {i n : Nat} (h : i < n) : fb_sm f i + f i ≤ fb_sm f n := by
  have := fb_sm_mono f (i + 1) (n - (i + 1))
  rw [fb_sm_succ, show i + 1 + (n - (i + 1)) = n by omega] at this
  exact this
theorem fb_sm_split (f : Nat → Nat) (m : Nat) : ∀ n, fb_sm f (m + n) = fb_sm f m + fb_sm (fun k => f (m + k)) n
  | 0 => rfl
  | n + 1 => by
    have h := fb_sm_split f m n
    show fb_sm f (m + n + 1) = _
    rw [fb_sm_succ, fb_sm_succ, h, Nat.add_assoc]
theorem fb_sm_zero {f : Nat → Nat} {n : Nat} (h : fb_sm f n = 0) : ∀ k, k < n → f k = 0 := fun k hk => by
  have := fb_sm_part f hk
  omega
/-- the same over whole numbers -/
def fb_si (f : Nat → Int) : Nat → Int
  | 0 => 0
  | n + 1 => fb_si f n + f n
theorem fb_si_succ (f : Nat → Int) (n : Nat) : fb_si f (n + 1) = fb_si f n + f n := rfl
theorem fb_si_cong {f g : Nat → Int} : ∀ {n : Nat}, (∀ k, k < n → f k = g k) → fb_si f n = fb_si g n
  | 0, _ => rfl
  | n + 1, h => by rw [fb_si_succ, fb_si_succ, fb_si_cong (fun k hk => h k (by omega)), h n (by omega)]
theorem fb_si_out (f : Nat → Int) (v : Int) {i n : Nat} (h : n ≤ i) : fb_si (fun k => if k = i then v else f k) n = fb_si f n :=
  fb_si_cong fun k hk => if_neg (by omega)
theorem fb_si_upd (f : Nat → Int) (v : Int) {i : Nat} : ∀ {n : Nat}, i < n → fb_si (fun k => if k = i then v else f k) n = fb_si f n - f i + v
  | 0, h => absurd h (Nat.not_lt_zero i)
  | n + 1, h => by
    rw [fb_si_succ, fb_si_succ]
    rcases Nat.lt_or_ge i n with q | q
    · have := fb_si_upd f v q
      have e : (if n = i then v else f n) = f n := if_neg (by omega)
      rw [e]
      omega
    · have e : i = n := by omega
      subst e
      rw [fb_si_out f v (Nat.le_refl _)]
      simp only [if_true]
      omega
theorem fb_si_add (f g : Nat → Int) : ∀ n, fb_si (fun k => f k + g k) n = fb_si f n + fb_si g n
  | 0 => rfl
  | n + 1 => by
    have h := fb_si_add f g n
    rw [fb_si_succ, fb_si_succ, fb_si_succ, h]
    omega
theorem fb_si_sub (f g : Nat → Int) : ∀ n, fb_si (fun k => f k - g k) n = fb_si f n - fb_si g n
  | 0 => rfl
  | n + 1 => by
    have h := fb_si_sub f g n
    rw [fb_si_succ, fb_si_succ, fb_si_succ, h]
    omega
theorem fb_si_mul (c : Int) (f : Nat → Int) : ∀ n, fb_si (fun k => c * f k) n = c * fb_si f n
  | 0 => (Int.mul_zero c).symm
  | n + 1 => by
    have h := fb_si_mul c f n
    rw [fb_si_succ, fb_si_succ, h, Int.mul_add]
theorem fb_si_split (f : Nat → Int) (m : Nat) : ∀ n, fb_si f (m + n) = fb_si f m + fb_si (fun k => f (m + k)) n
  | 0 => (Int.add_zero _).symm
  | n + 1 => by
    have h := fb_si_split f m n
    show fb_si f (m + n + 1) = _
    rw [fb_si_succ, fb_si_succ, h, Int.add_assoc]
theorem fb_si_nat (f : Nat → Nat) : ∀ n, fb_si (fun k => (f k : Int)) n = (fb_sm f n : Int)
  | 0 => rfl
  | n + 1 => by
    have h := fb_si_nat f n
    rw [fb_si_succ, fb_sm_succ, h]
    omega
theorem fb_si_bound {f : Nat → Int} {c : Int} (hc : 0 ≤ c) : ∀ {n : Nat}, (∀ k, k < n → -c ≤ f k ∧ f k ≤ c) → -(n * c) ≤ fb_si f n ∧ fb_si f n ≤ n * c
  | 0, _ => by simp [fb_si]
  | n + 1, h => by
    have h1 := fb_si_bound (n := n) (f := f) hc (fun k hk => h k (by omega))
    have h2 := h n (by omega)
    have e : ((n + 1 : Nat) : Int) * c = n * c + c := by rw [Int.natCast_add, Int.add_mul]; simp
    rw [fb_si_succ, e]
    omega
/-! ===== the least, the first, the best so far; that there is one alone ===== -/
theorem fb_first {p : Nat → Prop} [DecidablePred p] : ∀ {n : Nat}, (∃ i, i < n ∧ p i) → ∃ i, i < n ∧ p i ∧ ∀ j, j < i → ¬ p j
  | 0, h => by obtain ⟨i, hi, -⟩ := h; exact absurd hi (Nat.not_lt_zero i)
  | n + 1, h => by
    by_cases q : ∃ i, i < n ∧ p i
    · obtain ⟨i, h1, h2⟩ := fb_first q
      exact ⟨i, by omega, h2⟩
    · obtain ⟨i, h1, h2⟩ := h
      have e : i = n := by
        rcases Nat.lt_or_ge i n with r | r
        · exact absurd ⟨i, r, h2⟩ q
        · omega
      subst e
      exact ⟨i, by omega, h2, fun j hj hp => q ⟨j, hj, hp⟩⟩
theorem fb_first_one {p : Nat → Prop} {i j : Nat} (hi : p i) (hi2 : ∀ k, k < i → ¬ p k) (hj : p j) (hj2 : ∀ k, k < j → ¬ p k) : i = j := by
  rcases Nat.lt_trichotomy i j with q | q | q
  · exact absurd hi (hj2 i q)
  · exact q
  · exact absurd hj (hi2 j q)
theorem fb_last {p : Nat → Prop} [DecidablePred p] : ∀ {n : Nat}, (∃ i, i < n ∧ p i) → ∃ i, i < n ∧ p i ∧ ∀ j, i < j → j < n → ¬ p j
  | 0, h => by obtain ⟨i, hi, -⟩ := h; exact absurd hi (Nat.not_lt_zero i)
  | n + 1, h => by
    by_cases q : p n
    · exact ⟨n, by omega, q, fun j h1 h2 => by omega⟩
    · obtain ⟨i, h1, h2⟩ := h
      have hi : i < n := by
        rcases Nat.lt_or_ge i n with r | r
        · exact r
        · have e : i = n := by omega
          subst e
          exact absurd h2 q
      obtain ⟨i2, a1, a2, a3⟩ := fb_last (n := n) ⟨i, hi, h2⟩
      refine ⟨i2, by omega, a2, fun j b1 b2 => ?_⟩
      rcases Nat.lt_or_ge j n with r | r
      · exact a3 j b1 r
      · have e : j = n := by omega
        subst e
        exact q
/-- the first greatest -/
theorem fb_best (f : Nat → Int) : ∀ {n : Nat}, 0 < n → ∃ i, i < n ∧ (∀ j, j < n → f j ≤ f i) ∧ ∀ j, j < i → f j < f i
  | 0, h => absurd h (Nat.lt_irrefl 0)
  | 1, _ => ⟨0, by omega, fun j hj => by have e : j = 0 := by omega
                                         subst e; exact Int.le_refl _, fun j hj => absurd hj (Nat.not_lt_zero j)⟩
  | n + 2, _ => by
    obtain ⟨i, h1, h2, h3⟩ := fb_best f (n := n + 1) (by omega)
    by_cases q : f i < f (n + 1)
    · refine ⟨n + 1, by omega, fun j hj => ?_, fun j hj => ?_⟩
      · rcases Nat.lt_or_ge j (n + 1) with r | r
        · have := h2 j r; omega
        · have e : j = n + 1 := by omega
          subst e; exact Int.le_refl _
      · have := h2 j hj; omega
    · refine ⟨i, by omega, fun j hj => ?_, h3⟩
      rcases Nat.lt_or_ge j (n + 1) with r | r
      · exact h2 j r
      · have e : j = n + 1 := by omega
        subst e; omega
theorem fb_best_one {f : Nat → Int} {n i j : Nat} (hi : i < n) (hi2 : ∀ k, k < n → f k ≤ f i) (hi3 : ∀ k, k < i → f k < f i) (hj : j < n) (hj2 : ∀ k, k < n → f k ≤ f j) (hj3 : ∀ k, k < j → f k < f j) : i = j := by
  rcases Nat.lt_trichotomy i j with q | q | q
  · have a := hj3 i q
    have b := hi2 j hj
    omega
  · exact q
  · have a := hi3 j q
    have b := hj2 i hi
    omega
/-- the first least -/
theorem fb_low (f : Nat → Int) {n : Nat} (h : 0 < n) : ∃ i, i < n ∧ (∀ j, j < n → f i ≤ f j) ∧ ∀ j, j < i → f i < f j := by
  obtain ⟨i, h1, h2, h3⟩ := fb_best (fun k => -f k) h
  exact ⟨i, h1, fun j hj => by have := h2 j hj; omega, fun j hj => by have := h3 j hj; omega⟩
/-! ===== signed ints as whole numbers, within bounds ===== -/
theorem fb_rng (x : Int32) : -2147483648 ≤ x.toInt ∧ x.toInt < 2147483648 := by
  have h1 := Int32.le_toInt x
  have h2 := Int32.toInt_lt x
  omega
theorem fb_bmod {z : Int} (h1 : -2147483648 ≤ z) (h2 : z < 2147483648) : z.bmod (2 ^ 32) = z := by
  rw [Int.bmod_eq_of_le (by omega) (by omega)]
theorem fb_addI {x y : Int32} (h1 : -2147483648 ≤ x.toInt + y.toInt) (h2 : x.toInt + y.toInt < 2147483648) : (x + y).toInt = x.toInt + y.toInt := by
  rw [Int32.toInt_add, fb_bmod h1 h2]
theorem fb_subI {x y : Int32} (h1 : -2147483648 ≤ x.toInt - y.toInt) (h2 : x.toInt - y.toInt < 2147483648) : (x - y).toInt = x.toInt - y.toInt := by
  rw [Int32.toInt_sub, fb_bmod h1 h2]
theorem fb_mulI {x y : Int32} (h1 : -2147483648 ≤ x.toInt * y.toInt) (h2 : x.toInt * y.toInt < 2147483648) : (x * y).toInt = x.toInt * y.toInt := by
  rw [Int32.toInt_mul, fb_bmod h1 h2]
theorem fb_negI {x : Int32} (h : x.toInt ≠ -2147483648) : (-x).toInt = -x.toInt := by
  have := fb_rng x
  rw [Int32.toInt_neg, fb_bmod (by omega) (by omega)]
theorem fb_ofI {z : Int} (h1 : -2147483648 ≤ z) (h2 : z < 2147483648) : (Int32.ofInt z).toInt = z := by
  rw [Int32.toInt_ofInt, fb_bmod h1 h2]
theorem fb_asI (x : Int32) : Int32.ofInt x.toInt = x := Int32.ofInt_toInt x
theorem fb_rngL (x : Int64) : -9223372036854775808 ≤ x.toInt ∧ x.toInt < 9223372036854775808 := by
  have h1 := Int64.le_toInt x
  have h2 := Int64.toInt_lt x
  omega
theorem fb_bmodL {z : Int} (h1 : -9223372036854775808 ≤ z) (h2 : z < 9223372036854775808) : z.bmod (2 ^ 64) = z := by
  rw [Int.bmod_eq_of_le (by omega) (by omega)]
theorem fb_addL {x y : Int64} (h1 : -9223372036854775808 ≤ x.toInt + y.toInt) (h2 : x.toInt + y.toInt < 9223372036854775808) : (x + y).toInt = x.toInt + y.toInt := by
  rw [Int64.toInt_add, fb_bmodL h1 h2]
theorem fb_subL {x y : Int64} (h1 : -9223372036854775808 ≤ x.toInt - y.toInt) (h2 : x.toInt - y.toInt < 9223372036854775808) : (x - y).toInt = x.toInt - y.toInt := by
  rw [Int64.toInt_sub, fb_bmodL h1 h2]
theorem fb_mulL {x y : Int64} (h1 : -9223372036854775808 ≤ x.toInt * y.toInt) (h2 : x.toInt * y.toInt < 9223372036854775808) : (x * y).toInt = x.toInt * y.toInt := by
  rw [Int64.toInt_mul, fb_bmodL h1 h2]
/-! ===== Int64 as a set of bits: test, set, clear ===== -/
theorem ts_nf {x : Bool} (h : ¬ x = false) : x = true := by cases x <;> first | rfl | exact absurd rfl h
theorem ts_nt {x : Bool} (h : ¬ x = true) : x = false := by cases x <;> first | rfl | exact absurd rfl h
theorem ts_bit {w : Int64} {s : UInt64} {j : Nat} (hj : j < 64) (hs : s.toNat = j) : ((w.toUInt64 >>> s).toInt64 &&& 1) = 0 ↔ w.toBitVec.getLsbD j = false := by
  have e : (w.toUInt64 >>> s).toInt64.toBitVec = w.toBitVec >>> j := by
    apply BitVec.eq_of_toNat_eq
    show (w.toUInt64 >>> s).toNat = _
    rw [UInt64.toNat_shiftRight, hs, Nat.mod_eq_of_lt hj, BitVec.toNat_ushiftRight]
    rfl
  rw [← Int64.toBitVec_inj, Int64.toBitVec_and, e]
  show w.toBitVec >>> j &&& 1#64 = 0#64 ↔ _
  constructor
  · intro h
    have t := congrArg (fun x => x.getLsbD 0) h
    simpa using t
  · intro h
    apply BitVec.eq_of_getLsbD_eq
    intro i hi
    cases i with
    | zero => simp [h]
    | succ i => simp
theorem ts_or {w m : Int64} {j : Nat} (hj : j < 64) (hm : m.toBitVec = BitVec.twoPow 64 j) : (w ||| m) = w ↔ w.toBitVec.getLsbD j = true := by
  rw [← Int64.toBitVec_inj, Int64.toBitVec_or, hm]
  constructor
  · intro h
    have t := congrArg (fun x => x.getLsbD j) h
    simp only [BitVec.getLsbD_or, BitVec.getLsbD_twoPow] at t
    simpa [hj] using t.symm
  · intro h
    apply BitVec.eq_of_getLsbD_eq
    intro i hi
    rw [BitVec.getLsbD_or, BitVec.getLsbD_twoPow]
    by_cases e : j = i
    · subst e; rw [h, Bool.true_or]
    · simp [e]
theorem ts_and {w m : Int64} {j : Nat} (hj : j < 64) (hm : m.toBitVec = BitVec.twoPow 64 j) : (w &&& (m ^^^ (-1))) = w ↔ w.toBitVec.getLsbD j = false := by
  have ha : (-1 : Int64).toBitVec = BitVec.allOnes 64 := by decide
  rw [← Int64.toBitVec_inj, Int64.toBitVec_and, Int64.toBitVec_xor, hm, ha]
  constructor
  · intro h
    have t := congrArg (fun x => x.getLsbD j) h
    simp only [BitVec.getLsbD_and, BitVec.getLsbD_xor, BitVec.getLsbD_twoPow, BitVec.getLsbD_allOnes] at t
    simpa [hj] using t.symm
  · intro h
    apply BitVec.eq_of_getLsbD_eq
    intro i hi
    rw [BitVec.getLsbD_and, BitVec.getLsbD_xor, BitVec.getLsbD_twoPow, BitVec.getLsbD_allOnes]
    by_cases e : j = i
    · subst e; rw [h, Bool.false_and]
    · simp [e, hi]
/-! ===== lN n to 2^64: shifts, and, or, masks, one bit ===== -/
theorem wb_tb (n : Nat) : (lN n).toBitVec = BitVec.ofNat 64 n := rfl
theorem wb_inj {a b : Int64} (h : a.toBitVec = b.toBitVec) : a = b := Int64.toBitVec_inj.mp h
theorem wb_tn {n : Nat} (h : n < 2 ^ 64) : (lN n).toBitVec.toNat = n := by rw [wb_tb, BitVec.toNat_ofNat, Nat.mod_eq_of_lt h]
theorem wb_of (x : Int64) : ∃ n, n < 2 ^ 64 ∧ x = lN n := ⟨x.toBitVec.toNat, x.toBitVec.isLt, wb_inj (by rw [wb_tb]; simp)⟩
theorem wb_of32 (x : Int32) : ∃ n, n < 2 ^ 32 ∧ x = nI n := ⟨x.toBitVec.toNat, x.toBitVec.isLt, Int32.toBitVec_inj.mp (by show _ = BitVec.ofNat 32 _; simp)⟩
theorem wb_c : ∀ k, k < 64 → ((nI k).toInt64 &&& 63) = lN k := by decide +kernel
theorem wb_cu : ∀ k, k < 64 → ((nI k).toInt64.toUInt64 &&& Int64.toUInt64 63) = UInt64.ofNat k := by decide +kernel
theorem wb_sm : ∀ k, k < 64 → (BitVec.ofNat 64 k).smod 64 = BitVec.ofNat 64 k := by decide +kernel
theorem wb_pw {a b : Nat} (h : a ≤ b) : 2 ^ b = 2 ^ a * 2 ^ (b - a) := by rw [← Nat.pow_add]; congr 1; omega
theorem wb_lt2 {a b : Nat} (h : a < b) : 2 ^ a < 2 ^ b := Nat.pow_lt_pow_right (by decide) h
theorem wb_mod (n : Nat) : lN n = lN (n % 2 ^ 64) := wb_inj (by rw [wb_tb, wb_tb]; apply BitVec.eq_of_toNat_eq; rw [BitVec.toNat_ofNat, BitVec.toNat_ofNat, Nat.mod_mod])
theorem wb_shr {n k : Nat} (hn : n < 2 ^ 64) (hk : k < 64) : ((lN n).toUInt64 >>> ((nI k).toInt64.toUInt64 &&& Int64.toUInt64 63)).toInt64 = lN (n / 2 ^ k) := by
  rw [wb_cu k hk]
  apply wb_inj
  apply BitVec.eq_of_toNat_eq
  show ((lN n).toUInt64 >>> UInt64.ofNat k).toNat = (BitVec.ofNat 64 _).toNat
  have h1 : (UInt64.ofNat k).toNat = k := by
    show (BitVec.ofNat 64 k).toNat = k
    rw [BitVec.toNat_ofNat, Nat.mod_eq_of_lt (by omega)]
  have h2 : (lN n).toUInt64.toNat = n := wb_tn hn
  rw [UInt64.toNat_shiftRight, h1, h2, Nat.mod_eq_of_lt hk, Nat.shiftRight_eq_div_pow, BitVec.toNat_ofNat, Nat.mod_eq_of_lt (Nat.lt_of_le_of_lt (Nat.div_le_self _ _) hn)]
theorem wb_shl (n : Nat) {k : Nat} (hk : k < 64) : lN n <<< ((nI k).toInt64 &&& 63) = lN (n * 2 ^ k) := by
  rw [wb_c k hk]
  apply wb_inj
  rw [Int64.toBitVec_shiftLeft, wb_tb, wb_tb, wb_tb, wb_sm k hk]
  apply BitVec.eq_of_toNat_eq
  rw [BitVec.shiftLeft_eq', BitVec.toNat_shiftLeft, BitVec.toNat_ofNat, BitVec.toNat_ofNat, BitVec.toNat_ofNat, Nat.mod_eq_of_lt (show k < 2 ^ 64 by omega), Nat.shiftLeft_eq, Nat.mul_mod, Nat.mod_mod, ← Nat.mul_mod]
theorem wb_and {a b : Nat} (ha : a < 2 ^ 64) (hb : b < 2 ^ 64) : lN a &&& lN b = lN (a &&& b) := by
  apply wb_inj
  rw [Int64.toBitVec_and, wb_tb, wb_tb, wb_tb]
  apply BitVec.eq_of_toNat_eq
  rw [BitVec.toNat_and, BitVec.toNat_ofNat, BitVec.toNat_ofNat, BitVec.toNat_ofNat, Nat.mod_eq_of_lt ha, Nat.mod_eq_of_lt hb, Nat.mod_eq_of_lt (Nat.and_lt_two_pow _ hb)]
theorem wb_or {a b : Nat} (ha : a < 2 ^ 64) (hb : b < 2 ^ 64) : lN a ||| lN b = lN (a ||| b) := by
  apply wb_inj
  rw [Int64.toBitVec_or, wb_tb, wb_tb, wb_tb]
  apply BitVec.eq_of_toNat_eq
  rw [BitVec.toNat_or, BitVec.toNat_ofNat, BitVec.toNat_ofNat, BitVec.toNat_ofNat, Nat.mod_eq_of_lt ha, Nat.mod_eq_of_lt hb, Nat.mod_eq_of_lt (Nat.or_lt_two_pow ha hb)]
theorem wb_mask {n k : Nat} (hn : n < 2 ^ 64) (hk : k < 64) : lN n &&& lN (2 ^ k - 1) = lN (n % 2 ^ k) := by
  rw [wb_and hn (by have := wb_lt2 hk; omega), Nat.and_two_pow_sub_one_eq_mod]
theorem wb_a1 {n : Nat} (hn : n < 2 ^ 64) : lN n &&& 1 = lN (n % 2) := wb_mask (k := 1) hn (by decide)
theorem wb_bit {n k : Nat} (hn : n < 2 ^ 64) (hk : k < 64) : ((lN n).toUInt64 >>> ((nI k).toInt64.toUInt64 &&& Int64.toUInt64 63)).toInt64 &&& 1 = lN (n / 2 ^ k % 2) := by
  rw [wb_shr hn hk, wb_a1 (Nat.lt_of_le_of_lt (Nat.div_le_self _ _) hn)]
end
section
/-! ===== sets as longs ===== -/
def tb (x : Int64) (k : Nat) : Bool := x.toBitVec.getLsbD k
theorem tb_ext {x y : Int64} (h : ∀ k, k < 64 → tb x k = tb y k) : x = y := Int64.toBitVec_inj.mp (BitVec.eq_of_getLsbD_eq (fun i hi => h i hi))
theorem tb_big {x : Int64} {k : Nat} (h : 64 ≤ k) : tb x k = false := BitVec.getLsbD_of_ge _ _ h
theorem tb_lt {x : Int64} {k : Nat} (h : tb x k = true) : k < 64 := by
  rcases Nat.lt_or_ge k 64 with q | q
  · exact q
  · rw [tb_big q] at h; cases h
theorem tb_or (x y : Int64) (k : Nat) : tb (x ||| y) k = (tb x k || tb y k) := by unfold tb; rw [Int64.toBitVec_or, BitVec.getLsbD_or]
theorem tb_and (x y : Int64) (k : Nat) : tb (x &&& y) k = (tb x k && tb y k) := by unfold tb; rw [Int64.toBitVec_and, BitVec.getLsbD_and]
theorem tb_0 (k : Nat) : tb 0 k = false := BitVec.getLsbD_zero
theorem tb_m1 : ∀ k, k < 64 → tb (-1) k = true := by decide +kernel
theorem tb_not (x : Int64) {k : Nat} (hk : k < 64) : tb (x ^^^ (-1)) k = !tb x k := by
  have h := tb_m1 k hk
  unfold tb at *
  rw [Int64.toBitVec_xor, BitVec.getLsbD_xor, h, Bool.xor_true]
theorem tb_notB (x : Int64) (k : Nat) : tb (x ^^^ (-1)) k = (decide (k < 64) && !tb x k) := by
  by_cases h : k < 64
  · rw [tb_not x h, decide_eq_true h, Bool.true_and]
  · rw [tb_big (by omega), decide_eq_false h, Bool.false_and]
/-- x without y -/
theorem tb_sub (x y : Int64) (k : Nat) : tb (x &&& (y ^^^ (-1))) k = (tb x k && !tb y k) := by
  rw [tb_and, tb_notB]
  cases hx : tb x k
  · rfl
  · rw [decide_eq_true (tb_lt hx), Bool.true_and]
theorem tb_lN (n k : Nat) : tb (lN n) k = (decide (k < 64) && n.testBit k) := by unfold tb; rw [wb_tb, BitVec.getLsbD_ofNat]
theorem bitL_lN {n : Nat} (h : n < 64) : bitL (nI n) = lN (2 ^ n) := by
  show lN 1 <<< ((nI n).toInt64 &&& 63) = lN (2 ^ n)
  rw [wb_shl 1 h, Nat.one_mul]
theorem tb_bit {n : Nat} (h : n < 64) (k : Nat) : tb (bitL (nI n)) k = decide (k = n) := by
  rw [bitL_lN h, tb_lN, Nat.testBit_two_pow]
  by_cases e : k = n
  · subst e; simp [h]
  · rw [decide_eq_false e, decide_eq_false (p := n = k) (fun z => e z.symm), Bool.and_false]
theorem tb_1 (k : Nat) : tb 1 k = decide (k = 0) := by
  have h := tb_bit (n := 0) (by decide) k
  rwa [show bitL (nI 0) = 1 from rfl] at h
theorem hs_tb (x : Int64) {n : Nat} (h : n < 64) : hs x (nI n) = tb x n := by
  unfold hs us
  rw [wb_cu n h]
  have e := ts_bit (w := x) (s := UInt64.ofNat n) (j := n) h (Nat.mod_eq_of_lt (by omega))
  cases hb : tb x n
  · exact decide_eq_false (not_not_intro (e.mpr hb))
  · refine decide_eq_true (fun z => ?_)
    have h9 := e.mp z
    unfold tb at hb
    rw [hb] at h9
    cases h9
theorem tb_ne {x : Int64} {k : Nat} (h : tb x k = true) : x ≠ 0 := fun z => by rw [z, tb_0] at h; cases h
theorem tb_some {x : Int64} (h : x ≠ 0) : ∃ k, k < 64 ∧ tb x k = true := by
  refine Classical.byContradiction fun z => h (tb_ext fun k hk => ?_)
  rw [tb_0]
  cases hb : tb x k
  · rfl
  · exact absurd ⟨k, hk, hb⟩ z
theorem tb_none {x : Int64} (h : ∀ k, k < 64 → tb x k = false) : x = 0 := tb_ext fun k hk => by rw [h k hk, tb_0]
/-! ===== how many: the machine's count is the count ===== -/
def rep (c : Nat) : Nat → Nat
  | 0 => 0
  | k + 1 => 256 * rep c k + c
theorem rep_s (c k : Nat) : rep c (k + 1) = 256 * rep c k + c := rfl
theorem land_split {a b c d : Nat} (hb : b < 256) (hd : d < 256) : (256 * a + b) &&& (256 * c + d) = 256 * (a &&& c) + (b &&& d) := by
  have h1 := @Nat.and_div_two_pow (256 * a + b) (256 * c + d) 8
  have h2 := @Nat.and_mod_two_pow (256 * a + b) (256 * c + d) 8
  rw [show (2 : Nat) ^ 8 = 256 from rfl] at h1 h2
  rw [show (256 * a + b) / 256 = a by omega, show (256 * c + d) / 256 = c by omega] at h1
  rw [show (256 * a + b) % 256 = b by omega, show (256 * c + d) % 256 = d by omega] at h2
  omega
def A1 (k n : Nat) : Nat := n - (n / 2 &&& rep 85 k)
def A2 (k n : Nat) : Nat := (n &&& rep 51 k) + (n / 4 &&& rep 51 k)
def A3 (k n : Nat) : Nat := (n + n / 16) &&& rep 15 k
def B1 (b : Nat) : Nat := b - (b / 2 &&& 85)
def B2 (b : Nat) : Nat := (b &&& 51) + (b / 4 &&& 51)
def B3 (b : Nat) : Nat := (b + b / 16) &&& 15
def p8 (b : Nat) : Nat := fb_ct (fun i => b.testBit i) 8
theorem b85 : ∀ r, r < 2 → ∀ b, b < 256 → (128 * r + b / 2) &&& 85 = (b / 2 &&& 85) := by decide +kernel
theorem b51 : ∀ r, r < 4 → ∀ b, b < 256 → (64 * r + b / 4) &&& 51 = (b / 4 &&& 51) := by decide +kernel
theorem b15 : ∀ r, r < 5 → ∀ b, b < 256 → (B2 (B1 b) + 16 * r + B2 (B1 b) / 16) &&& 15 = p8 b ∧ B2 (B1 b) + 16 * r + B2 (B1 b) / 16 < 256 ∧ B2 (B1 b) % 16 < 5 ∧ B1 b < 256 ∧ B2 (B1 b) < 256 := by decide +kernel
theorem A1_s (k q b : Nat) (hb : b < 256) : A1 (k + 1) (256 * q + b) = 256 * A1 k q + B1 b := by
  unfold A1 B1
  rw [rep_s, show (256 * q + b) / 2 = 256 * (q / 2) + (128 * (q % 2) + b / 2) by omega, land_split (by omega) (by decide), b85 (q % 2) (by omega) b hb]
  have h1 : q / 2 &&& rep 85 k ≤ q / 2 := Nat.and_le_left
  have h2 : b / 2 &&& 85 ≤ b / 2 := Nat.and_le_left
  omega
theorem A2_s (k q b : Nat) (hb : b < 256) : A2 (k + 1) (256 * q + b) = 256 * A2 k q + B2 b := by
  unfold A2 B2
  rw [rep_s, show (256 * q + b) / 4 = 256 * (q / 4) + (64 * (q % 4) + b / 4) by omega, land_split hb (by decide), land_split (by omega) (by decide), b51 (q % 4) (by omega) b hb]
  omega
theorem A12 (k : Nat) : ∀ n, n < 256 ^ k → A2 k (A1 k n) % 16 < 5 := by
  cases k with
  | zero => intro n h; have e : n = 0 := by simpa using h
            subst e; decide
  | succ k =>
    intro n h
    have hb : n % 256 < 256 := Nat.mod_lt _ (by decide)
    have h9 := b15 0 (by decide) (n % 256) hb
    rw [show n = 256 * (n / 256) + n % 256 by omega, A1_s _ _ _ hb, A2_s _ _ _ h9.2.2.2.1]
    omega
def T8 : Nat → Nat → Nat
  | 0, _ => 0
  | k + 1, n => 256 * T8 k (n / 256) + p8 (n % 256)
def S8 : Nat → Nat → Nat
  | 0, _ => 0
  | k + 1, n => p8 (n % 256) + S8 k (n / 256)
theorem A3_T (k : Nat) : ∀ n, n < 256 ^ k → A3 k (A2 k (A1 k n)) = T8 k n := by
  induction k with
  | zero => intro n h; have e : n = 0 := by simpa using h
            subst e; decide
  | succ k ih =>
    intro n h
    have hb : n % 256 < 256 := Nat.mod_lt _ (by decide)
    have hq : n / 256 < 256 ^ k := by
      rw [Nat.pow_succ] at h
      omega
    have h5 := A12 k (n / 256) hq
    have h9 := b15 (A2 k (A1 k (n / 256)) % 16) h5 (n % 256) hb
    have hT := ih (n / 256) hq
    show _ = 256 * T8 k (n / 256) + p8 (n % 256)
    rw [← hT]
    rw [show A3 (k + 1) (A2 (k + 1) (A1 (k + 1) n)) = A3 (k + 1) (256 * A2 k (A1 k (n / 256)) + B2 (B1 (n % 256))) from by
      rw [← A2_s _ _ _ h9.2.2.2.1, ← A1_s _ _ _ hb, show 256 * (n / 256) + n % 256 = n by omega]]
    generalize A2 k (A1 k (n / 256)) = q at h5 h9 ⊢
    generalize B2 (B1 (n % 256)) = b at h9 ⊢
    unfold A3
    rw [rep_s, show 256 * q + b + (256 * q + b) / 16 = 256 * (q + q / 16) + (b + 16 * (q % 16) + b / 16) by omega, land_split h9.2.1 (by decide), h9.1]
theorem ct_bytes (k : Nat) : ∀ n, fb_ct (fun i => n.testBit i) (8 * k) = S8 k n := by
  induction k with
  | zero => intro n; rfl
  | succ k ih =>
    intro n
    rw [show 8 * (k + 1) = 8 + 8 * k by omega, fb_ct_split]
    show _ = p8 (n % 256) + S8 k (n / 256)
    rw [← ih (n / 256)]
    congr 1
    · unfold p8
      exact fb_ct_cong fun i hi => by
        rw [show (256 : Nat) = 2 ^ 8 from rfl, Nat.testBit_mod_two_pow, decide_eq_true hi, Bool.true_and]
    · exact fb_ct_cong fun i hi => by
        rw [show (256 : Nat) = 2 ^ 8 from rfl, Nat.testBit_div_two_pow, Nat.add_comm]
theorem p8_le (b : Nat) : p8 b ≤ 8 := fb_ct_le _ _
theorem dv256 {t a x : Nat} (h : t = a + 256 * x) (ha : a < 256) : t / 256 = x := by omega
theorem dv16 {t a x : Nat} (h : t = a + 65536 * x) (ha : a < 65536) : t / 65536 = x := by omega
theorem dv32 {t a x : Nat} (h : t = a + 4294967296 * x) (ha : a < 4294967296) : t / 4294967296 = x := by omega
theorem md128 {m s w : Nat} (h : m = s + 256 * w) (hs : s < 128) : m % 128 = s := by omega
theorem id1 (a0 a1 a2 a3 a4 a5 a6 a7 : Nat) : a0 + 256 * (a1 + 256 * (a2 + 256 * (a3 + 256 * (a4 + 256 * (a5 + 256 * (a6 + 256 * a7)))))) + (a1 + 256 * (a2 + 256 * (a3 + 256 * (a4 + 256 * (a5 + 256 * (a6 + 256 * a7)))))) = ((a0 + a1) + 256 * (a1 + a2)) + 65536 * ((a2 + a3) + 256 * ((a3 + a4) + 256 * ((a4 + a5) + 256 * ((a5 + a6) + 256 * ((a6 + a7) + 256 * a7))))) := by omega
theorem id2 (a0 a1 a2 a3 a4 a5 a6 a7 : Nat) : ((a0 + a1) + 256 * (a1 + a2)) + 65536 * ((a2 + a3) + 256 * ((a3 + a4) + 256 * ((a4 + a5) + 256 * ((a5 + a6) + 256 * ((a6 + a7) + 256 * a7))))) + ((a2 + a3) + 256 * ((a3 + a4) + 256 * ((a4 + a5) + 256 * ((a5 + a6) + 256 * ((a6 + a7) + 256 * a7))))) = ((a0 + a1 + a2 + a3) + 256 * (a1 + a2 + a3 + a4) + 65536 * (a2 + a3 + a4 + a5) + 16777216 * (a3 + a4 + a5 + a6)) + 4294967296 * ((a4 + a5 + a6 + a7) + 256 * ((a5 + a6 + a7) + 256 * ((a6 + a7) + 256 * a7))) := by omega
theorem id3 (b0 b1 b2 b3 z c4 y : Nat) (hz : z = c4 + 256 * y) : (b0 + 256 * b1 + 65536 * b2 + 16777216 * b3) + 4294967296 * z + z = (b0 + c4) + 256 * (b1 + 256 * b2 + 65536 * b3 + 16777216 * z + y) := by omega
section SB
variable {a0 a1 a2 a3 a4 a5 a6 a7 : Nat}
theorem sb1 (b0 : a0 ≤ 8) (b1 : a1 ≤ 8) (b2 : a2 ≤ 8) : a0 + a1 + 256 * (a1 + a2) < 65536 := by omega
theorem sb2 (b0 : a0 ≤ 8) (b1 : a1 ≤ 8) (b2 : a2 ≤ 8) (b3 : a3 ≤ 8) (b4 : a4 ≤ 8) (b5 : a5 ≤ 8) (b6 : a6 ≤ 8) : a0 + a1 + a2 + a3 + 256 * (a1 + a2 + a3 + a4) + 65536 * (a2 + a3 + a4 + a5) + 16777216 * (a3 + a4 + a5 + a6) < 4294967296 := by omega
theorem sb3 (b0 : a0 ≤ 8) (b1 : a1 ≤ 8) (b2 : a2 ≤ 8) (b3 : a3 ≤ 8) (b4 : a4 ≤ 8) (b5 : a5 ≤ 8) (b6 : a6 ≤ 8) (b7 : a7 ≤ 8) : a0 + a1 + a2 + a3 + (a4 + a5 + a6 + a7) < 128 := by omega
theorem sb4 (b0 : a0 ≤ 8) (b1 : a1 ≤ 8) (b2 : a2 ≤ 8) (b3 : a3 ≤ 8) (b4 : a4 ≤ 8) (b5 : a5 ≤ 8) (b6 : a6 ≤ 8) (b7 : a7 ≤ 8) : a0 + 256 * (a1 + 256 * (a2 + 256 * (a3 + 256 * (a4 + 256 * (a5 + 256 * (a6 + 256 * a7)))))) < 2 ^ 60 := by omega
theorem sb5 (a0 a1 a2 a3 a4 a5 a6 a7 : Nat) : a0 + a1 + a2 + a3 + (a4 + a5 + a6 + a7) = a0 + a1 + a2 + a3 + a4 + a5 + a6 + a7 := by omega
end SB
theorem fold64 {t a0 a1 a2 a3 a4 a5 a6 a7 : Nat} (h : t = a0 + 256 * (a1 + 256 * (a2 + 256 * (a3 + 256 * (a4 + 256 * (a5 + 256 * (a6 + 256 * a7))))))) (b0 : a0 ≤ 8) (b1 : a1 ≤ 8) (b2 : a2 ≤ 8) (b3 : a3 ≤ 8) (b4 : a4 ≤ 8) (b5 : a5 ≤ 8) (b6 : a6 ≤ 8) (b7 : a7 ≤ 8) :
    (t + t / 256 + (t + t / 256) / 65536 + (t + t / 256 + (t + t / 256) / 65536) / 4294967296) % 128 = a0 + a1 + a2 + a3 + a4 + a5 + a6 + a7 ∧ t < 2 ^ 60 := by
  have s1 := sb1 b0 b1 b2
  have s2 := sb2 b0 b1 b2 b3 b4 b5 b6
  have s3 := sb3 b0 b1 b2 b3 b4 b5 b6 b7
  have s4 := sb4 b0 b1 b2 b3 b4 b5 b6 b7
  have s5 := sb5 a0 a1 a2 a3 a4 a5 a6 a7
  have s6 : a0 < 256 := Nat.lt_of_le_of_lt b0 (by decide)
  refine ⟨?_, by rw [h]; exact s4⟩
  have e1 := dv256 h s6
  have e2 := id1 a0 a1 a2 a3 a4 a5 a6 a7
  rw [← h, ← e1] at e2
  have e3 := dv16 e2 s1
  have e4 := id2 a0 a1 a2 a3 a4 a5 a6 a7
  rw [← e2, ← e3] at e4
  have e5 := dv32 e4 s2
  have e6 := id3 (a0 + a1 + a2 + a3) (a1 + a2 + a3 + a4) (a2 + a3 + a4 + a5) (a3 + a4 + a5 + a6) _ _ _ e5
  rw [← e5] at e4
  rw [← e4] at e6
  rw [md128 e6 s3]
  exact s5
theorem T8_s (k n : Nat) : T8 (k + 1) n = 256 * T8 k (n / 256) + p8 (n % 256) := rfl
theorem S8_s (k n : Nat) : S8 (k + 1) n = p8 (n % 256) + S8 k (n / 256) := rfl
theorem T8_8 (n : Nat) : ∃ a0 a1 a2 a3 a4 a5 a6 a7, (a0 ≤ 8 ∧ a1 ≤ 8 ∧ a2 ≤ 8 ∧ a3 ≤ 8 ∧ a4 ≤ 8 ∧ a5 ≤ 8 ∧ a6 ≤ 8 ∧ a7 ≤ 8) ∧ T8 8 n = a0 + 256 * (a1 + 256 * (a2 + 256 * (a3 + 256 * (a4 + 256 * (a5 + 256 * (a6 + 256 * a7)))))) ∧ S8 8 n = a0 + a1 + a2 + a3 + a4 + a5 + a6 + a7 := by
  refine ⟨_, _, _, _, _, _, _, _, ⟨p8_le (n % 256), p8_le (n / 256 % 256), p8_le (n / 256 / 256 % 256), p8_le (n / 256 / 256 / 256 % 256), p8_le (n / 256 / 256 / 256 / 256 % 256), p8_le (n / 256 / 256 / 256 / 256 / 256 % 256), p8_le (n / 256 / 256 / 256 / 256 / 256 / 256 % 256), p8_le (n / 256 / 256 / 256 / 256 / 256 / 256 / 256 % 256)⟩, ?_, ?_⟩
  · rw [T8_s 7, T8_s 6, T8_s 5, T8_s 4, T8_s 3, T8_s 2, T8_s 1, T8_s 0, show ∀ m, T8 0 m = 0 from fun _ => rfl]
    generalize p8 (n % 256) = a0
    generalize p8 (n / 256 % 256) = a1
    generalize p8 (n / 256 / 256 % 256) = a2
    generalize p8 (n / 256 / 256 / 256 % 256) = a3
    generalize p8 (n / 256 / 256 / 256 / 256 % 256) = a4
    generalize p8 (n / 256 / 256 / 256 / 256 / 256 % 256) = a5
    generalize p8 (n / 256 / 256 / 256 / 256 / 256 / 256 % 256) = a6
    generalize p8 (n / 256 / 256 / 256 / 256 / 256 / 256 / 256 % 256) = a7
    omega
  · rw [S8_s 7, S8_s 6, S8_s 5, S8_s 4, S8_s 3, S8_s 2, S8_s 1, S8_s 0, show ∀ m, S8 0 m = 0 from fun _ => rfl]
    generalize p8 (n % 256) = a0
    generalize p8 (n / 256 % 256) = a1
    generalize p8 (n / 256 / 256 % 256) = a2
    generalize p8 (n / 256 / 256 / 256 % 256) = a3
    generalize p8 (n / 256 / 256 / 256 / 256 % 256) = a4
    generalize p8 (n / 256 / 256 / 256 / 256 / 256 % 256) = a5
    generalize p8 (n / 256 / 256 / 256 / 256 / 256 / 256 % 256) = a6
    generalize p8 (n / 256 / 256 / 256 / 256 / 256 / 256 / 256 % 256) = a7
    omega
theorem rep85 : rep 85 8 = 6148914691236517205 := by decide +kernel
theorem rep51 : rep 51 8 = 3689348814741910323 := by decide +kernel
theorem rep15 : rep 15 8 = 1085102592571150095 := by decide +kernel
theorem A1_8 (n : Nat) : A1 8 n = n - (n / 2 &&& 6148914691236517205) := by unfold A1; rw [rep85]
theorem A2_8 (n : Nat) : A2 8 n = (n &&& 3689348814741910323) + (n / 4 &&& 3689348814741910323) := by unfold A2; rw [rep51]
theorem A3_8 (n : Nat) : A3 8 n = (n + n / 16) &&& 1085102592571150095 := by unfold A3; rw [rep15]
theorem us_lN {n : Nat} (hn : n < 2 ^ 64) {k : Nat} (hk : k < 64) : us (lN n) (nI k) = lN (n / 2 ^ k) := wb_shr hn hk
theorem c55 : (6148914691236517205 : Int64) = lN 6148914691236517205 := rfl
theorem c33 : (3689348814741910323 : Int64) = lN 3689348814741910323 := rfl
theorem c0f : (1085102592571150095 : Int64) = lN 1085102592571150095 := rfl
theorem lt55 : (6148914691236517205 : Nat) < 2 ^ 64 := by decide
theorem lt33 : (3689348814741910323 : Nat) < 2 ^ 64 := by decide
theorem lt0f : (1085102592571150095 : Nat) < 2 ^ 64 := by decide
theorem bc1_eq {n : Nat} (hn : n < 2 ^ 64) : bc1 (lN n) = lN (A1 8 n) := by
  have m1 : n / 2 &&& 6148914691236517205 ≤ n / 2 := Nat.and_le_left
  unfold bc1
  rw [show (1 : Int32) = nI 1 from rfl, us_lN hn (by decide), Nat.pow_one, c55, wb_and (by omega) lt55, lN_sub (by omega), A1_8]
theorem bc2_eq {n : Nat} (hn : n < 2 ^ 64) : bc2 (lN n) = lN (A2 8 n) ∧ A2 8 n < 2 ^ 63 := by
  have m2 : n &&& 3689348814741910323 ≤ 3689348814741910323 := Nat.and_le_right
  have m3 : n / 4 &&& 3689348814741910323 ≤ 3689348814741910323 := Nat.and_le_right
  constructor
  · unfold bc2
    rw [show (2 : Int32) = nI 2 from rfl, us_lN hn (by decide), show (2 : Nat) ^ 2 = 4 from rfl, c33, wb_and hn lt33, wb_and (by omega) lt33, lN_add, A2_8]
  · rw [A2_8]; omega
theorem bc3_eq {n : Nat} (hn : n < 2 ^ 63) : bc3 (lN n) = lN (A3 8 n) := by
  unfold bc3
  rw [show (4 : Int32) = nI 4 from rfl, us_lN (by omega) (by decide), show (2 : Nat) ^ 4 = 16 from rfl, c0f, lN_add, wb_and (by omega) lt0f, A3_8]
theorem bc_tail {t : Nat} (ht : t < 2 ^ 60) : (bc6 (bc5 (bc4 (lN t)))).toInt32 &&& 127 = nI ((t + t / 256 + (t + t / 256) / 65536 + (t + t / 256 + (t + t / 256) / 65536) / 4294967296) % 128) := by
  have g4 : bc4 (lN t) = lN (t + t / 256) := by
    unfold bc4
    rw [show (8 : Int32) = nI 8 from rfl, us_lN (by omega) (by decide), show (2 : Nat) ^ 8 = 256 from rfl, lN_add]
  rw [g4]
  generalize hu : t + t / 256 = u
  have g5 : bc5 (lN u) = lN (u + u / 65536) := by
    unfold bc5
    rw [show (16 : Int32) = nI 16 from rfl, us_lN (by omega) (by decide), show (2 : Nat) ^ 16 = 65536 from rfl, lN_add]
  rw [g5]
  generalize hv : u + u / 65536 = v
  have g6 : bc6 (lN v) = lN (v + v / 4294967296) := by
    unfold bc6
    rw [show (32 : Int32) = nI 32 from rfl, us_lN (by omega) (by decide), show (2 : Nat) ^ 32 = 4294967296 from rfl, lN_add]
  rw [g6, lN_i, pk_and _ (m := 127) 7 (by decide)]
  generalize v + v / 4294967296 = w
  congr 1
  show (BitVec.ofNat 32 w).toNat % 2 ^ 7 = _
  rw [BitVec.toNat_ofNat]
  omega
theorem bc_ct (x : Int64) : bc x = nI (fb_ct (tb x) 64) := by
  obtain ⟨n, hn, rfl⟩ := wb_of x
  have c1 : fb_ct (tb (lN n)) 64 = S8 8 n := by
    rw [← ct_bytes 8 n]
    exact fb_ct_cong fun i hi => by rw [tb_lN, decide_eq_true hi, Bool.true_and]
  have l1 : A1 8 n < 2 ^ 64 := by rw [A1_8]; omega
  obtain ⟨e2, l2⟩ := bc2_eq l1
  have hT : A3 8 (A2 8 (A1 8 n)) = T8 8 n := A3_T 8 n hn
  obtain ⟨a0, a1, a2, a3, a4, a5, a6, a7, ⟨b0, b1, b2, b3, b4, b5, b6, b7⟩, eT, eS⟩ := T8_8 n
  have f := fold64 eT b0 b1 b2 b3 b4 b5 b6 b7
  rw [← eS] at f
  unfold bc
  rw [bc1_eq hn, e2, bc3_eq l2, hT, c1, bc_tail f.2, f.1]
end
section
/-! ===== the lowest, one, two ===== -/
theorem tb_neg1 {x : Int64} {i : Nat} (hi : i < 64) (h : ∃ j, j < i ∧ tb x j = true) : tb (-x) i = !tb x i := by
  unfold tb at *
  rw [Int64.toBitVec_neg, BitVec.getLsbD_neg]
  simp [hi, h]
theorem tb_neg0 {x : Int64} {i : Nat} (h : ¬ ∃ j, j < i ∧ tb x j = true) : tb (-x) i = tb x i := by
  unfold tb at *
  rw [Int64.toBitVec_neg, BitVec.getLsbD_neg, decide_eq_false h, Bool.and_false, Bool.xor_false]
theorem ct_lt (k : Nat) : ∀ n, k ≤ n → fb_ct (fun i => decide (i < k)) n = k := by
  intro n
  induction n with
  | zero => intro h; have e : k = 0 := by omega
            subst e; rfl
  | succ n ih =>
    intro h
    rw [fb_ct_succ]
    rcases Nat.lt_or_ge n k with q | q
    · have e : k = n + 1 := by omega
      subst e
      rw [if_pos (decide_eq_true (by omega)), fb_ct_all.mpr (fun i hi => decide_eq_true (by omega))]
    · rw [ih q, if_neg (by simp; omega)]
      rfl
theorem low_bit {x : Int64} (h : x ≠ 0) : ∃ k, k < 64 ∧ lowest x = nI k ∧ tb x k = true ∧ ∀ j, j < k → tb x j = false := by
  obtain ⟨k, hk, hb, hl⟩ := fb_first (p := fun i => tb x i = true) (n := 64) (tb_some h)
  refine ⟨k, hk, ?_, hb, fun j hj => ts_nt (hl j hj)⟩
  have e : x &&& -x = lN (2 ^ k) := by
    apply tb_ext
    intro i hi
    rw [tb_and, tb_lN, decide_eq_true hi, Bool.true_and, Nat.testBit_two_pow]
    rcases Nat.lt_trichotomy i k with q | q | q
    · rw [ts_nt (hl i q), decide_eq_false (by omega), Bool.false_and]
    · subst q
      rw [tb_neg0 (fun ⟨j, hj, z⟩ => hl j hj z), hb]
      simp
    · rw [tb_neg1 hi ⟨k, q, hb⟩, decide_eq_false (by omega)]
      cases tb x i <;> rfl
  unfold lowest
  rw [e, show lN (2 ^ k) - 1 = lN (2 ^ k - 1) from lN_sub (a := 2 ^ k) (b := 1) Nat.one_le_two_pow, bc_ct]
  congr 1
  rw [fb_ct_cong (q := fun i => decide (i < k)) (fun i hi => by rw [tb_lN, decide_eq_true hi, Bool.true_and, Nat.testBit_two_pow_sub_one])]
  exact ct_lt k 64 (by omega)
theorem ct_one {p : Nat → Bool} {i n : Nat} (hi : i < n) (h : p i = true) : 1 ≤ fb_ct p n := fb_ct_pos.mpr ⟨i, hi, h⟩
theorem ct_two {p : Nat → Bool} {i j n : Nat} (hij : i < j) (hj : j < n) (h1 : p i = true) (h2 : p j = true) : 2 ≤ fb_ct p n := by
  have a := ct_one (n := j) hij h1
  have b := fb_ct_mono p (show j + 1 ≤ n from hj)
  rw [fb_ct_succ, h2] at b
  simp at b
  omega
theorem ct_three {p : Nat → Bool} {i j k n : Nat} (hij : i < j) (hjk : j < k) (hk : k < n) (h1 : p i = true) (h2 : p j = true) (h3 : p k = true) : 3 ≤ fb_ct p n := by
  have a := ct_two (n := k) hij hjk h1 h2
  have b := fb_ct_mono p (show k + 1 ≤ n from hk)
  rw [fb_ct_succ, h3] at b
  simp at b
  omega
theorem nI_inj {a b : Nat} (ha : a < 2 ^ 31) (hb : b < 2 ^ 31) (h : nI a = nI b) : a = b := (nI_eq ha hb).mp h
theorem bc_is {x : Int64} {n : Nat} (hn : n < 2 ^ 31) (h : bc x = nI n) : fb_ct (tb x) 64 = n := by
  rw [bc_ct] at h
  have := fb_ct_le (tb x) 64
  exact nI_inj (by omega) hn h
theorem bc_one {x : Int64} (h : bc x = 1) : ∃ k, k < 64 ∧ lowest x = nI k ∧ ∀ j, tb x j = decide (j = k) := by
  have hc := bc_is (n := 1) (by decide) h
  have hx : x ≠ 0 := by
    intro z; subst z; revert hc; rw [fb_ct_zero.mpr (fun k _ => tb_0 k)]; decide
  obtain ⟨k, hk, hl, hb, hm⟩ := low_bit hx
  refine ⟨k, hk, hl, fun j => ?_⟩
  by_cases e : j = k
  · subst e; rw [hb, decide_eq_true rfl]
  · rw [decide_eq_false e]
    cases hj : tb x j
    · rfl
    · exfalso
      rcases Nat.lt_trichotomy j k with q | q | q
      · rw [hm j q] at hj; cases hj
      · exact e q
      · have := ct_two q (tb_lt hj) hb hj; omega
theorem bc_two {x : Int64} (h : bc x = 2) : ∃ k m, k < 64 ∧ m < 64 ∧ k ≠ m ∧ lowest x = nI k ∧ rfC x = nI m ∧ ∀ j, tb x j = (decide (j = k) || decide (j = m)) := by
  have hc := bc_is (n := 2) (by decide) h
  have hx : x ≠ 0 := by
    intro z; subst z; revert hc; rw [fb_ct_zero.mpr (fun k _ => tb_0 k)]; decide
  obtain ⟨k, hk, hl, hb, hm⟩ := low_bit hx
  have ht : ∀ j, tb (x &&& (bitL (lowest x) ^^^ (-1))) j = (tb x j && !decide (j = k)) := fun j => by rw [tb_sub, hl, tb_bit hk]
  have hy : (x &&& (bitL (lowest x) ^^^ (-1))) ≠ 0 := by
    intro z
    have h9 : fb_ct (tb x) 64 ≤ fb_ct (fun i => decide (i = k)) 64 := fb_ct_sub fun i hi hq => by
      have := ht i
      rw [z, tb_0, hq] at this
      simpa using this.symm
    have h8 : fb_ct (fun i => if i = k then true else false) 64 + (if false = true then 1 else 0) = fb_ct (fun _ => false) 64 + (if true = true then 1 else 0) := fb_ct_upd (fun _ => false) true hk
    rw [if_neg (by decide), if_pos rfl, fb_ct_zero.mpr (fun _ _ => rfl)] at h8
    have h7 : fb_ct (fun i => decide (i = k)) 64 = fb_ct (fun i => if i = k then true else false) 64 := fb_ct_cong fun i hi => by by_cases e : i = k <;> simp [e]
    omega
  obtain ⟨m, hm2, hl2, hb2, hmm⟩ := low_bit hy
  rw [ht] at hb2
  have e1 : tb x m = true ∧ m ≠ k := by
    cases hq : tb x m
    · rw [hq] at hb2; cases hb2
    · rw [hq] at hb2; exact ⟨rfl, by simpa using hb2⟩
  refine ⟨k, m, hk, hm2, fun z => e1.2 z.symm, hl, hl2, fun j => ?_⟩
  by_cases q1 : j = k
  · subst q1; simp [hb]
  · by_cases q2 : j = m
    · subst q2; simp [e1.1]
    · rw [decide_eq_false q1, decide_eq_false q2]
      cases hj : tb x j
      · rfl
      · exfalso
        have k1 : k < j := by
          rcases Nat.lt_trichotomy j k with q | q | q
          · rw [hm j q] at hj; cases hj
          · exact absurd q q1
          · exact q
        have k2 : k < m := by
          rcases Nat.lt_trichotomy m k with q | q | q
          · rw [hm m q] at e1; cases e1.1
          · exact absurd q e1.2
          · exact q
        rcases Nat.lt_trichotomy j m with q | q | q
        · have := ct_three k1 q hm2 hb hj e1.1; omega
        · exact q2 q
        · have := ct_three k2 q (tb_lt hj) hb e1.1 hj; omega
/-! ===== rows ===== -/
theorem rd_nI {f : Nat → Int32} {n i : Nat} (h : i < n) (hn : n < 2 ^ 31) : rd f n (nI i) = f i := by
  unfold rd
  rw [if_neg (nI_pos (by omega)), if_pos (nI_lt h hn), nI_clamp (by omega)]
theorem rd_neg {f : Nat → Int32} {n : Nat} {x : Int32} (h : x < 0) : rd f n x = 0 := if_pos h
theorem rd_out {f : Nat → Int32} {n i : Nat} (h : n ≤ i) (hi : i < 2 ^ 31) : rd f n (nI i) = 0 := by
  unfold rd
  rw [if_neg (nI_pos (by omega)), if_neg (nI_nlt h (by omega))]
theorem rdL_nI {f : Nat → Int64} {n i : Nat} (h : i < n) (hn : n < 2 ^ 31) : rdL f n (nI i) = f i := by
  unfold rdL
  rw [if_neg (nI_pos (by omega)), if_pos (nI_lt h hn), nI_clamp (by omega)]
theorem rdL_neg {f : Nat → Int64} {n : Nat} {x : Int32} (h : x < 0) : rdL f n x = 0 := if_pos h
theorem rdL_out {f : Nat → Int64} {n i : Nat} (h : n ≤ i) (hi : i < 2 ^ 31) : rdL f n (nI i) = 0 := by
  unfold rdL
  rw [if_neg (nI_pos (by omega)), if_neg (nI_nlt h (by omega))]
theorem wr_nI {f : Nat → Int32} {n i : Nat} {v : Int32} (h : i < n) (hn : n < 2 ^ 31) : wr f n (nI i) v = upd f i v := by
  unfold wr
  rw [if_neg (nI_pos (by omega)), if_pos (nI_lt h hn), nI_clamp (by omega)]
theorem wr_out {f : Nat → Int32} {n i : Nat} {v : Int32} (h : n ≤ i) (hi : i < 2 ^ 31) : wr f n (nI i) v = f := by
  unfold wr
  rw [if_neg (nI_pos (by omega)), if_neg (nI_nlt h (by omega))]
theorem wr_neg {f : Nat → Int32} {n : Nat} {x v : Int32} (h : x < 0) : wr f n x v = f := if_pos h
theorem wrL_nI {f : Nat → Int64} {n i : Nat} {v : Int64} (h : i < n) (hn : n < 2 ^ 31) : wrL f n (nI i) v = vp_updL f i v := by
  unfold wrL
  rw [if_neg (nI_pos (by omega)), if_pos (nI_lt h hn), nI_clamp (by omega)]
/-- an index: below 0, or a number -/
theorem ix_case (x : Int32) : x < 0 ∨ ∃ i, i < 2 ^ 31 ∧ x = nI i := by
  by_cases h : x < 0
  · exact Or.inl h
  · exact Or.inr (nI_of h)
theorem upd_s (f : Nat → Int32) (i : Nat) (v : Int32) : upd f i v i = v := pk_us
theorem upd_n (f : Nat → Int32) {i j : Nat} (v : Int32) (h : j ≠ i) : upd f i v j = f j := pk_un h
theorem updL_s (f : Nat → Int64) (i : Nat) (v : Int64) : vp_updL f i v i = v := pk_uLs
theorem updL_n (f : Nat → Int64) {i j : Nat} (v : Int64) (h : j ≠ i) : vp_updL f i v j = f j := pk_uLn h
/-- what holds of 0 and of all elements holds of what is read -/
theorem rd_all {P : Int32 → Prop} {f : Nat → Int32} {n : Nat} (x : Int32) (h0 : P 0) (h : ∀ i, i < n → P (f i)) (hn : n < 2 ^ 31) : P (rd f n x) := by
  rcases ix_case x with h9 | ⟨i, hi, rfl⟩
  · rw [rd_neg h9]; exact h0
  · rcases Nat.lt_or_ge i n with q | q
    · rw [rd_nI q hn]; exact h i q
    · rw [rd_out q hi]; exact h0
theorem rdL_all {P : Int64 → Prop} {f : Nat → Int64} {n : Nat} (x : Int32) (h0 : P 0) (h : ∀ i, i < n → P (f i)) (hn : n < 2 ^ 31) : P (rdL f n x) := by
  rcases ix_case x with h9 | ⟨i, hi, rfl⟩
  · rw [rdL_neg h9]; exact h0
  · rcases Nat.lt_or_ge i n with q | q
    · rw [rdL_nI q hn]; exact h i q
    · rw [rdL_out q hi]; exact h0
/-- what holds of the value and of each element holds of each element afterwards -/
theorem wr_all {P : Int32 → Prop} {f : Nat → Int32} {n : Nat} (x v : Int32) {i : Nat} (h : P (f i)) (hv : P v) : P (wr f n x v i) := by
  unfold wr
  split
  · exact h
  · split
    · unfold upd; split
      · exact hv
      · exact h
    · exact h
theorem nN_nI {n : Nat} (h : n < 2 ^ 31) : nN (nI n) = n := by
  unfold nN
  rw [nI_toInt h]
  omega
/-! ===== loops ===== -/
theorem lp_ind {σ : Type} {f : Nat → σ → σ} (P : Nat → σ → Prop) {n : Nat} {s : σ} (h0 : P 0 s) (hs : ∀ i t, i < n → P i t → P (i + 1) (f i t)) : P n (lp f n s) := by
  have key : ∀ m, m ≤ n → P m (lp f m s) := by
    intro m
    induction m with
    | zero => exact fun _ => h0
    | succ m ih =>
      intro hm
      exact hs m _ (by omega) (ih (by omega))
  exact key n (Nat.le_refl n)
theorem lp_s {σ : Type} (f : Nat → σ → σ) (n : Nat) (s : σ) : lp f (n + 1) s = f n (lp f n s) := rfl
theorem lp_z {σ : Type} (f : Nat → σ → σ) (s : σ) : lp f 0 s = s := rfl
theorem lpW_ind {σ : Type} {c : σ → Bool} {f : σ → σ} (P : Nat → σ → Prop) {n : Nat} {s : σ} (h0 : P 0 s) (hs : ∀ i t, i < n → P i t → c t = true → P (i + 1) (f t)) (hn : ∀ i t, i < n → P i t → c t = false → P (i + 1) t) : P n (lpW c f n s) := by
  have key : ∀ m, m ≤ n → P m (lpW c f m s) := by
    intro m
    induction m with
    | zero => exact fun _ => h0
    | succ m ih =>
      intro hm
      have h := ih (by omega)
      show P (m + 1) (if c (lpW c f m s) = true then f (lpW c f m s) else lpW c f m s)
      by_cases hc : c (lpW c f m s) = true
      · rw [if_pos hc]; exact hs m _ (by omega) h hc
      · rw [if_neg hc]; exact hn m _ (by omega) h (ts_nt hc)
  exact key n (Nat.le_refl n)
/-- two runs side by side -/
theorem lp_rel {σ τ : Type} {f : Nat → σ → σ} {g : Nat → τ → τ} (P : Nat → σ → τ → Prop) {n : Nat} {s : σ} {t : τ} (h0 : P 0 s t) (hs : ∀ i a b, i < n → P i a b → P (i + 1) (f i a) (g i b)) : P n (lp f n s) (lp g n t) := by
  have key : ∀ m, m ≤ n → P m (lp f m s) (lp g m t) := by
    intro m
    induction m with
    | zero => exact fun _ => h0
    | succ m ih =>
      intro hm
      exact hs m _ _ (by omega) (ih (by omega))
  exact key n (Nat.le_refl n)
/-! ===== what one comes to ===== -/
theorem spread_facts (f : Nat → Int64) (x y : Int64) (hx : ∀ k, tb x k = true → k < 41) (P : Nat → Prop) (hf : ∀ b k, P b → b < 40 → tb (f b) k = true → k < 41)
    (p0 : ∀ k, tb x k = true → tb y k = false → P k) (ps : ∀ a k, P a → a < 40 → tb (f a) k = true → tb y k = false → P k) :
    (∀ k, tb x k = true → tb y k = false → tb (spread f x y) k = true) ∧ (∀ k, tb (spread f x y) k = true → tb y k = false ∧ P k ∧ k < 41) ∧ (∀ a k, tb (spread f x y) a = true → a < 40 → tb (f a) k = true → tb y k = false → tb (spread f x y) k = true) := by
  have key := lpW_ind (c := spGo) (f := spStep f y) (n := 41) (s := (x &&& (y ^^^ (-1)), x &&& (y ^^^ (-1))))
    (fun i p => (∀ k, tb x k = true → tb y k = false → tb p.1 k = true) ∧ (∀ k, tb p.1 k = true → tb y k = false ∧ P k ∧ k < 41) ∧ (∀ k, tb p.2 k = true → tb p.1 k = true) ∧ (∀ a k, tb p.1 a = true → tb p.2 a = false → a < 40 → tb (f a) k = true → tb y k = false → tb p.1 k = true) ∧ (p.2 = 0 ∨ i ≤ fb_ct (fun k => tb p.1 k && !tb p.2 k) 41)) ?_ ?_ ?_
  · obtain ⟨k1, k2, k3, k4, k5⟩ := key
    have e : (lpW spGo (spStep f y) 41 (x &&& (y ^^^ (-1)), x &&& (y ^^^ (-1)))).2 = 0 := by
      rcases k5 with h | h
      · exact h
      · apply tb_none
        intro k hk
        cases hb : tb (lpW spGo (spStep f y) 41 (x &&& (y ^^^ (-1)), x &&& (y ^^^ (-1)))).2 k
        · rfl
        · have h1 := k3 k hb
          have h2 := (k2 k h1).2.2
          have h3 := fb_ct_all.mp (Nat.le_antisymm (fb_ct_le _ _) h) k h2
          rw [hb] at h3
          simp at h3
    exact ⟨k1, k2, fun a k ha => k4 a k ha (by rw [e, tb_0])⟩
  · refine ⟨fun k h1 h2 => ?_, fun k h => ?_, fun k h => h, fun a k h1 h2 => ?_, Or.inr (Nat.zero_le _)⟩
    · show tb (x &&& (y ^^^ (-1))) k = true
      rw [tb_sub, h1, h2]; rfl
    · have h9 : tb (x &&& (y ^^^ (-1))) k = true := h
      rw [tb_sub] at h9
      cases h1 : tb x k <;> cases h2 : tb y k <;> rw [h1, h2] at h9 <;> first | exact ⟨rfl, p0 k h1 h2, hx k h1⟩ | cases h9
    · exact absurd h1 (by show ¬ tb (x &&& (y ^^^ (-1))) a = true; rw [show tb (x &&& (y ^^^ (-1))) a = false from h2]; decide)
  · rintro i ⟨s, o⟩ hi ⟨k1, k2, k3, k4, k5⟩ hc
    have ho : o ≠ 0 := by
      have : (decide (¬ o = 0)) = true := hc
      simpa using this
    simp only at k1 k2 k3 k4 k5
    obtain ⟨q, hq, hl, hb, -⟩ := low_bit ho
    have hs := k3 q hb
    have hq41 := (k2 q hs).2.2
    have hr : ∀ k, tb (rdL f 40 (lowest o)) k = true → q < 40 ∧ tb (f q) k = true := by
      intro k h
      rw [hl] at h
      rcases Nat.lt_or_ge q 40 with h9 | h9
      · rw [rdL_nI h9 (by decide)] at h; exact ⟨h9, h⟩
      · rw [rdL_out h9 (by omega), tb_0] at h; cases h
    have hr2 : ∀ k, q < 40 → tb (f q) k = true → tb (rdL f 40 (lowest o)) k = true := by
      intro k h9 h
      rw [hl, rdL_nI h9 (by decide)]; exact h
    have hm : ∀ k, tb ((rdL f 40 (lowest o) &&& (s ^^^ (-1))) &&& (y ^^^ (-1))) k = ((tb (rdL f 40 (lowest o)) k && !tb s k) && !tb y k) := fun k => by rw [tb_sub, tb_sub]
    generalize hmm : (rdL f 40 (lowest o) &&& (s ^^^ (-1))) &&& (y ^^^ (-1)) = mo at hm
    have e1 : ∀ k, tb (spStep f y (s, o)).1 k = (tb s k || tb mo k) := fun k => by
      show tb (s ||| ((rdL f 40 (lowest o) &&& (s ^^^ (-1))) &&& (y ^^^ (-1)))) k = _
      rw [hmm, tb_or]
    have e2 : ∀ k, tb (spStep f y (s, o)).2 k = ((tb o k && !decide (k = q)) || tb mo k) := fun k => by
      show tb ((o &&& (bitL (lowest o) ^^^ (-1))) ||| ((rdL f 40 (lowest o) &&& (s ^^^ (-1))) &&& (y ^^^ (-1)))) k = _
      rw [hmm, tb_or, tb_sub, hl, tb_bit hq]
    have hmt : ∀ k, tb mo k = true → tb (rdL f 40 (lowest o)) k = true ∧ tb s k = false ∧ tb y k = false := by
      intro k h
      rw [hm] at h
      cases a : tb (rdL f 40 (lowest o)) k <;> cases b : tb s k <;> cases d : tb y k <;> rw [a, b, d] at h <;> first | exact ⟨rfl, rfl, rfl⟩ | cases h
    generalize spStep f y (s, o) = z at e1 e2
    refine ⟨fun k h1 h2 => ?_, fun k h => ?_, fun k h => ?_, fun a k h1 h2 h3 h4 h5 => ?_, Or.inr ?_⟩
    · rw [e1, k1 k h1 h2]; rfl
    · rw [e1] at h
      cases h1 : tb s k
      · rw [h1] at h
        have h9 := hmt k h
        have h8 := hr k h9.1
        exact ⟨h9.2.2, ps q k (k2 q hs).2.1 h8.1 h8.2 h9.2.2, hf q k (k2 q hs).2.1 h8.1 h8.2⟩
      · exact k2 k h1
    · rw [e2] at h
      rw [e1]
      cases h1 : tb mo k
      · rw [h1] at h
        cases h2 : tb o k
        · rw [h2] at h; cases h
        · rw [k3 k h2]; rfl
      · rw [Bool.or_true]
    · rw [e1] at h1 ⊢
      rw [e2] at h2
      cases hma : tb mo a
      · rw [hma] at h1 h2
        rw [Bool.or_false] at h1 h2
        by_cases hk0 : tb s k = true
        · rw [hk0]; rfl
        · by_cases haq : a = q
          · subst haq
            have : tb mo k = true := by
              rw [hm, hr2 k h3 h4, ts_nt hk0, h5]; rfl
            rw [this, Bool.or_true]
          · have hoa : tb o a = false := by
              cases hoa : tb o a
              · rfl
              · rw [hoa] at h2; simp at h2; exact absurd h2 haq
            rw [k4 a k h1 hoa h3 h4 h5]; rfl
      · rw [hma, Bool.or_true] at h2; cases h2
    · have h6 : i ≤ fb_ct (fun k => tb s k && !tb o k) 41 := by
        rcases k5 with h | h
        · exact absurd h ho
        · exact h
      have h8 : (tb s q && !tb o q) = false := by rw [hs, hb]; rfl
      have h7 : fb_ct (fun k => if k = q then true else (tb s k && !tb o k)) 41 + (if (tb s q && !tb o q) = true then 1 else 0) = fb_ct (fun k => tb s k && !tb o k) 41 + (if true = true then 1 else 0) := fb_ct_upd _ true hq41
      rw [h8, if_neg (by decide), if_pos rfl] at h7
      have h9 : fb_ct (fun k => tb z.1 k && !tb z.2 k) 41 = fb_ct (fun k => if k = q then true else (tb s k && !tb o k)) 41 := by
        refine fb_ct_cong fun k hk => ?_
        rw [e1, e2]
        by_cases e : k = q
        · subst e
          have h9 : tb mo k = false := by rw [hm, hs]; simp
          rw [hs, h9]; simp
        · rw [decide_eq_false e, if_neg e]
          cases hk1 : tb mo k
          · simp
          · rw [(hmt k hk1).2.1]; simp
      show i + 1 ≤ fb_ct (fun k => tb z.1 k && !tb z.2 k) 41
      omega
  · rintro i ⟨s, o⟩ hi ⟨k1, k2, k3, k4, k5⟩ hc
    have ho : o = 0 := by
      have : (decide (¬ o = 0)) = false := hc
      simpa using this
    exact ⟨k1, k2, k3, k4, Or.inl ho⟩
end
section
/-! ===== Flow: blocks ===== -/
def CutF (i c : Nat) (hm fs : Nat → Nat) : Prop :=
  c ≤ i ∧ (0 < i → 0 < c ∧ hm (i - 1) = c - 1 ∧ hm 0 = 0) ∧ (∀ j, j < i → hm j < c ∧ fs (hm j) ≤ j) ∧ (∀ b, b < c → fs b < i ∧ hm (fs b) = b) ∧
  (∀ j, j + 1 < i → hm (j + 1) = hm j ∨ (hm (j + 1) = hm j + 1 ∧ fs (hm (j + 1)) = j + 1))
theorem CutF.new {i c : Nat} {hm fs : Nat → Nat} (h : CutF i c hm fs) : CutF (i + 1) (c + 1) (va_up hm i c) (va_up fs c i) := by
  obtain ⟨h1, h2, h3, h4, h5⟩ := h
  refine ⟨by omega, fun _ => ⟨by omega, ?_, ?_⟩, fun j hj => ?_, fun b hb => ?_, fun j hj => ?_⟩
  · show va_up hm i c i = _
    rw [va_up_self]; rfl
  · rcases Nat.eq_zero_or_pos i with e | e
    · subst e; rw [va_up_self]; omega
    · rw [va_up_ne _ _ (by omega)]; exact (h2 e).2.2
  · by_cases e : j = i
    · subst e; rw [va_up_self, va_up_self]; omega
    · have := h3 j (by omega)
      rw [va_up_ne _ _ e, va_up_ne _ _ (by omega)]; omega
  · by_cases e : b = c
    · subst e; rw [va_up_self, va_up_self]; exact ⟨by omega, rfl⟩
    · have := h4 b (by omega)
      rw [va_up_ne _ _ e, va_up_ne _ _ (by omega)]; exact ⟨by omega, this.2⟩
  · by_cases e : j + 1 = i
    · right
      subst e
      have := (h2 (by omega)).2.1
      rw [va_up_self, va_up_ne _ _ (by omega), va_up_self]
      have q := (h2 (by omega)).1
      simp only [Nat.add_sub_cancel] at this
      exact ⟨by omega, rfl⟩
    · have q := h5 j (by omega)
      have q2 := h3 (j + 1) (by omega)
      rw [va_up_ne _ _ e, va_up_ne _ _ (by omega), va_up_ne _ _ (by omega)]
      exact q
theorem CutF.same {i c : Nat} {hm fs : Nat → Nat} (h : CutF i c hm fs) (h0 : 0 < i) : CutF (i + 1) c (va_up hm i (c - 1)) fs := by
  obtain ⟨h1, h2, h3, h4, h5⟩ := h
  have h6 := h2 h0
  have h7 := h3 (i - 1) (by omega)
  refine ⟨by omega, fun _ => ⟨h6.1, ?_, ?_⟩, fun j hj => ?_, fun b hb => ?_, fun j hj => ?_⟩
  · show va_up hm i (c - 1) i = _
    rw [va_up_self]
  · rw [va_up_ne _ _ (by omega)]; exact h6.2.2
  · by_cases e : j = i
    · subst e
      rw [va_up_self]
      rw [h6.2.1] at h7
      omega
    · have := h3 j (by omega)
      rw [va_up_ne _ _ e]; omega
  · have := h4 b hb
    rw [va_up_ne _ _ (by omega)]; exact ⟨by omega, this.2⟩
  · by_cases e : j + 1 = i
    · left
      subst e
      have := h6.2.1
      rw [va_up_self, va_up_ne _ _ (by omega)]
      simp only [Nat.add_sub_cancel] at this
      exact this.symm
    · have q := h5 j (by omega)
      rw [va_up_ne _ _ e, va_up_ne _ _ (by omega)]
      exact q
def CutI (i : Nat) (fl : Ob) : Prop := ∃ (c : Nat) (hm fs : Nat → Nat), gi fl 0 = nI c ∧ (∀ j, j < i → gA fl 0 j = nI (hm j)) ∧ (∀ b, b < c → gA fl 1 b = nI (fs b)) ∧ CutF i c hm fs
theorem lead_0 (co : Ob) : tb (leaders co) 0 = true := by
  unfold leaders
  refine lp_ind (fun _ l => tb l 0 = true) (by rw [tb_1]; rfl) (fun i l _ h => ?_)
  have h2 : tb (leadA co i l) 0 = true := by
    unfold leadA
    split
    · exact h
    · rw [tb_or, h]; rfl
  unfold leadStep
  split
  · rw [tb_or, h2]; rfl
  · exact h2
theorem upd_va {f : Nat → Int32} {g : Nat → Nat} {i k v : Nat} (h : ∀ j, j < k → j ≠ i → f j = nI (g j)) : ∀ j, j < k → upd f i (nI v) j = nI (va_up g i v j) := fun j hj => by
  by_cases e : j = i
  · subst e; rw [upd_s, va_up_self]
  · rw [upd_n _ _ e, va_up_ne _ _ e]; exact h j hj e
theorem nI_pr {c : Nat} (h : 0 < c) : nI c - 1 = nI (c - 1) := by
  obtain ⟨d, rfl⟩ : ∃ d, c = d + 1 := ⟨c - 1, by omega⟩
  exact nI_pred d
theorem cut_i0 {i c : Nat} {fl : Ob} {hm fs : Nat → Nat} (hi : i < 19) (hi0 : 0 < i) (h1 : gi fl 0 = nI c) (h2 : ∀ j, j < i → gA fl 0 j = nI (hm j)) (h3 : ∀ b, b < c → gA fl 1 b = nI (fs b)) (h4 : CutF i c hm fs) : CutI (i + 1) (cutB i fl) := by
  have hc0 := (h4.2.1 hi0).1
  unfold cutB
  rw [h1, nI_pr hc0, wr_nI (i := i) (by omega) (by decide)]
  refine ⟨c, va_up hm i (c - 1), fs, ?_, ?_, ?_, h4.same hi0⟩
  · simp only [gi_sl, gi_sA, gi_sB, gi_si_s, gi_si_n, gl_si, gl_sA, gl_sB, gl_sl_s, gl_sl_n, gA_si, gA_sl, gA_sB, gA_sA_s, gA_sA_n, gB_si, gB_sl, gB_sA, gB_sB_s, gB_sB_n, Nat.reduceBEq]; exact h1
  · simp only [gi_sl, gi_sA, gi_sB, gi_si_s, gi_si_n, gl_si, gl_sA, gl_sB, gl_sl_s, gl_sl_n, gA_si, gA_sl, gA_sB, gA_sA_s, gA_sA_n, gB_si, gB_sl, gB_sA, gB_sB_s, gB_sB_n, Nat.reduceBEq]; exact upd_va fun j hj e => h2 j (by omega)
  · simp only [gi_sl, gi_sA, gi_sB, gi_si_s, gi_si_n, gl_si, gl_sA, gl_sB, gl_sl_s, gl_sl_n, gA_si, gA_sl, gA_sB, gA_sA_s, gA_sA_n, gB_si, gB_sl, gB_sA, gB_sB_s, gB_sB_n, Nat.reduceBEq]; exact h3
theorem cut_i1 {i c : Nat} {fl : Ob} {hm fs : Nat → Nat} (hi : i < 19) (h1 : gi fl 0 = nI c) (h2 : ∀ j, j < i → gA fl 0 j = nI (hm j)) (h3 : ∀ b, b < c → gA fl 1 b = nI (fs b)) (h4 : CutF i c hm fs) : CutI (i + 1) (cutB i (si (sA fl 1 (wr (gA fl 1) 40 (gi fl 0) (nI i))) 0 (gi fl 0 + 1))) := by
  have hc := h4.1
  rw [h1, wr_nI (i := c) (by omega) (by decide), nI_1]
  have e0 : gi (si (sA fl 1 (upd (gA fl 1) c (nI i))) 0 (nI (c + 1))) 0 = nI (c + 1) := gi_si_s _ _ _
  have e1 : gA (si (sA fl 1 (upd (gA fl 1) c (nI i))) 0 (nI (c + 1))) 0 = gA fl 0 := by simp only [gi_sl, gi_sA, gi_sB, gi_si_s, gi_si_n, gl_si, gl_sA, gl_sB, gl_sl_s, gl_sl_n, gA_si, gA_sl, gA_sB, gA_sA_s, gA_sA_n, gB_si, gB_sl, gB_sA, gB_sB_s, gB_sB_n, Nat.reduceBEq]
  have e2 : gA (si (sA fl 1 (upd (gA fl 1) c (nI i))) 0 (nI (c + 1))) 1 = upd (gA fl 1) c (nI i) := by simp only [gi_sl, gi_sA, gi_sB, gi_si_s, gi_si_n, gl_si, gl_sA, gl_sB, gl_sl_s, gl_sl_n, gA_si, gA_sl, gA_sB, gA_sA_s, gA_sA_n, gB_si, gB_sl, gB_sA, gB_sB_s, gB_sB_n, Nat.reduceBEq]
  generalize si (sA fl 1 (upd (gA fl 1) c (nI i))) 0 (nI (c + 1)) = f2 at e0 e1 e2
  unfold cutB
  rw [e0, nI_pred, e1, wr_nI (i := i) (by omega) (by decide)]
  refine ⟨c + 1, va_up hm i c, va_up fs c i, ?_, ?_, ?_, h4.new⟩
  · simp only [gi_sl, gi_sA, gi_sB, gi_si_s, gi_si_n, gl_si, gl_sA, gl_sB, gl_sl_s, gl_sl_n, gA_si, gA_sl, gA_sB, gA_sA_s, gA_sA_n, gB_si, gB_sl, gB_sA, gB_sB_s, gB_sB_n, Nat.reduceBEq]; exact e0
  · simp only [gi_sl, gi_sA, gi_sB, gi_si_s, gi_si_n, gl_si, gl_sA, gl_sB, gl_sl_s, gl_sl_n, gA_si, gA_sl, gA_sB, gA_sA_s, gA_sA_n, gB_si, gB_sl, gB_sA, gB_sB_s, gB_sB_n, Nat.reduceBEq]; exact upd_va fun j hj e => h2 j (by omega)
  · simp only [gi_sl, gi_sA, gi_sB, gi_si_s, gi_si_n, gl_si, gl_sA, gl_sB, gl_sl_s, gl_sl_n, gA_si, gA_sl, gA_sB, gA_sA_s, gA_sA_n, gB_si, gB_sl, gB_sA, gB_sB_s, gB_sB_n, Nat.reduceBEq]; rw [e2]; exact upd_va fun b hb e => h3 b (by omega)
theorem cut_i {ld : Int64} {i : Nat} {fl : Ob} (hi : i < 19) (hld : tb ld 0 = true) (h : CutI i fl) : CutI (i + 1) (cutStep ld i fl) := by
  obtain ⟨c, hm, fs, h1, h2, h3, h4⟩ := h
  unfold cutStep cutA
  rw [hs_tb ld (by omega)]
  by_cases hb : tb ld i = true
  · rw [if_pos hb]
    exact cut_i1 hi h1 h2 h3 h4
  · rw [if_neg hb]
    have hi0 : 0 < i := by
      rcases Nat.eq_zero_or_pos i with e | e
      · subst e; exact absurd hld hb
      · exact e
    exact cut_i0 hi hi0 h1 h2 h3 h4
theorem cut_all {ld : Int64} {n : Nat} {fl : Ob} (hn : n ≤ 19) (hld : tb ld 0 = true) : CutI n (cut fl (nI n) ld) := by
  unfold cut
  rw [nN_nI (by omega)]
  refine lp_ind (fun i fl => CutI i fl) ?_ (fun i t hi h => cut_i (by omega) hld h)
  refine ⟨0, fun _ => 0, fun _ => 0, ?_, fun j hj => absurd hj (Nat.not_lt_zero j), fun j hj => absurd hj (Nat.not_lt_zero j), ?_⟩
  · simp only [gi_sl, gi_sA, gi_sB, gi_si_s, gi_si_n, gl_si, gl_sA, gl_sB, gl_sl_s, gl_sl_n, gA_si, gA_sl, gA_sB, gA_sA_s, gA_sA_n, gB_si, gB_sl, gB_sA, gB_sB_s, gB_sB_n, Nat.reduceBEq]; rfl
  · exact ⟨Nat.le_refl _, fun h => absurd h (Nat.lt_irrefl _), fun j hj => absurd hj (Nat.not_lt_zero j), fun j hj => absurd hj (Nat.not_lt_zero j), fun j hj => absurd hj (Nat.not_lt_zero _)⟩
/-! ===== Flow: edges ===== -/
def tv (g : Nat) : Int32 := if g = 40 then -1 else nI g
def FI (n c b m E : Nat) (hm fs fr eg fe : Nat → Nat) (fl : Ob) : Prop :=
  (gi fl 0 = nI c ∧ gi fl 1 = nI E ∧ CutF n c hm fs ∧ (∀ j, j < n → gA fl 0 j = nI (hm j)) ∧ (∀ b, b < c → gA fl 1 b = nI (fs b))) ∧
  (∀ e, e < E → gA fl 3 e = nI (fr e) ∧ gA fl 4 e = tv (eg e) ∧ fr e < b ∧ (eg e < c ∨ eg e = 40)) ∧
  (∀ b', b' < b → gA fl 5 b' = nI (fe b') ∧ fe b' ≤ E ∧ ∀ e, e < E → (fe b' ≤ e ↔ b' ≤ fr e)) ∧
  (∀ b', b' < b → ∀ k, tb (gB fl 0 b') k = true ↔ ∃ e, e < E ∧ fr e = b' ∧ eg e = k) ∧
  (∀ e, e + 1 < E → fr e ≤ fr (e + 1) ∧ (fr e = fr (e + 1) → eg e ≠ eg (e + 1))) ∧
  E ≤ m
def FX (n c b m : Nat) (hm fs fe : Nat → Nat) (fl : Ob) : Prop := ∃ (E : Nat) (fr eg : Nat → Nat), FI n c b m E hm fs fr eg fe fl
theorem FX.more {n c b m : Nat} {hm fs fe : Nat → Nat} {fl : Ob} (h : FX n c b m hm fs fe fl) : FX n c b (m + 1) hm fs fe fl := by
  obtain ⟨E, fr, eg, h1, h2, h3, h4, h5, h6⟩ := h
  exact ⟨E, fr, eg, h1, h2, h3, h4, h5, by omega⟩
theorem join_goal {n c b m : Nat} {hm fs fe : Nat → Nat} {fl : Ob} (hn : n ≤ 19) (hb : b < c) (h : FX n c (b + 1) m hm fs fe fl) (x : Int32) : ∃ g, joinG fl x (nI n) = nI g ∧ (g < c ∨ g = 40) := by
  obtain ⟨E, fr, eg, h1, h2, h3, h4, h5, h6⟩ := h
  unfold joinG
  split
  · rename_i hlt
    rcases ix_case x with hx | ⟨i, hi, rfl⟩
    · exact ⟨0, by rw [rd_neg hx]; rfl, Or.inl (by omega)⟩
    · have hin : i < n := (nI_ltI hi (by omega)).mp hlt
      have := h1.2.2.1.2.2.1 i hin
      exact ⟨hm i, by rw [rd_nI (by omega) (by decide)]; exact h1.2.2.2.1 i hin, Or.inl this.1⟩
  · exact ⟨40, rfl, Or.inr rfl⟩
theorem join_x {n c b m : Nat} {hm fs fe : Nat → Nat} {fl : Ob} (hn : n ≤ 19) (hb : b < c) (hm2 : m < 80) (h : FX n c (b + 1) m hm fs fe fl) (x : Int32) : FX n c (b + 1) (m + 1) hm fs fe (join fl (nI b) x (nI n)) := by
  obtain ⟨g, hg, hgc⟩ := join_goal hn hb h x
  have hc : c ≤ 19 := by obtain ⟨E, fr, eg, h1, -⟩ := h; have := h1.2.2.1.1; omega
  unfold join
  rw [hg, hs_tb _ (by omega), rdL_nI (by omega) (by decide)]
  cases hk : tb (gB fl 0 b) g
  · rw [if_neg (by decide)]
    obtain ⟨E, fr, eg, ⟨a1, a2, a3, a4, a5⟩, h2, h3, h4, h5, h6⟩ := h
    have hE : E < 80 := by omega
    have hfr : ∀ e, e < E → va_up fr E b e = fr e := fun e he => va_up_ne _ _ (by omega)
    have heg : ∀ e, e < E → va_up eg E g e = eg e := fun e he => va_up_ne _ _ (by omega)
    have htv : (if nI g = 40 then (-1 : Int32) else nI g) = tv g := by
      unfold tv
      by_cases e : g = 40
      · subst e; rfl
      · rw [if_neg e, if_neg (show ¬ nI g = 40 from fun z => e (nI_inj (b := 40) (by omega) (by decide) z))]
    unfold joinP
    rw [htv, a2]
    refine ⟨E + 1, va_up fr E b, va_up eg E g, ⟨?_, ?_, a3, ?_, ?_⟩, fun e he => ⟨?_, ?_, ?_, ?_⟩, fun b' hb' => ⟨?_, ?_, fun e he => ?_⟩, fun b' hb' k => ?_, fun e he => ?_, by omega⟩
    · simp only [gi_sl, gi_sA, gi_sB, gi_si_s, gi_si_n, gl_si, gl_sA, gl_sB, gl_sl_s, gl_sl_n, gA_si, gA_sl, gA_sB, gA_sA_s, gA_sA_n, gB_si, gB_sl, gB_sA, gB_sB_s, gB_sB_n, Nat.reduceBEq]; exact a1
    · simp only [gi_sl, gi_sA, gi_sB, gi_si_s, gi_si_n, gl_si, gl_sA, gl_sB, gl_sl_s, gl_sl_n, gA_si, gA_sl, gA_sB, gA_sA_s, gA_sA_n, gB_si, gB_sl, gB_sA, gB_sB_s, gB_sB_n, Nat.reduceBEq]; rw [nI_1]
    · simp only [gi_sl, gi_sA, gi_sB, gi_si_s, gi_si_n, gl_si, gl_sA, gl_sB, gl_sl_s, gl_sl_n, gA_si, gA_sl, gA_sB, gA_sA_s, gA_sA_n, gB_si, gB_sl, gB_sA, gB_sB_s, gB_sB_n, Nat.reduceBEq]; exact a4
    · simp only [gi_sl, gi_sA, gi_sB, gi_si_s, gi_si_n, gl_si, gl_sA, gl_sB, gl_sl_s, gl_sl_n, gA_si, gA_sl, gA_sB, gA_sA_s, gA_sA_n, gB_si, gB_sl, gB_sA, gB_sB_s, gB_sB_n, Nat.reduceBEq]; exact a5
    · simp only [gi_sl, gi_sA, gi_sB, gi_si_s, gi_si_n, gl_si, gl_sA, gl_sB, gl_sl_s, gl_sl_n, gA_si, gA_sl, gA_sB, gA_sA_s, gA_sA_n, gB_si, gB_sl, gB_sA, gB_sB_s, gB_sB_n, Nat.reduceBEq]
      rw [wr_nI hE (by decide)]
      exact upd_va (k := E + 1) (fun j hj e => (h2 j (by omega)).1) e he
    · simp only [gi_sl, gi_sA, gi_sB, gi_si_s, gi_si_n, gl_si, gl_sA, gl_sB, gl_sl_s, gl_sl_n, gA_si, gA_sl, gA_sB, gA_sA_s, gA_sA_n, gB_si, gB_sl, gB_sA, gB_sB_s, gB_sB_n, Nat.reduceBEq]
      rw [wr_nI hE (by decide)]
      by_cases q : e = E
      · subst q; rw [upd_s, va_up_self]
      · rw [upd_n _ _ q, heg e (by omega)]; exact (h2 e (by omega)).2.1
    · by_cases q : e = E
      · subst q; rw [va_up_self]; omega
      · rw [hfr e (by omega)]; exact (h2 e (by omega)).2.2.1
    · by_cases q : e = E
      · subst q; rw [va_up_self]; exact hgc
      · rw [heg e (by omega)]; exact (h2 e (by omega)).2.2.2
    · simp only [gi_sl, gi_sA, gi_sB, gi_si_s, gi_si_n, gl_si, gl_sA, gl_sB, gl_sl_s, gl_sl_n, gA_si, gA_sl, gA_sB, gA_sA_s, gA_sA_n, gB_si, gB_sl, gB_sA, gB_sB_s, gB_sB_n, Nat.reduceBEq]; exact (h3 b' hb').1
    · have := (h3 b' hb').2.1; omega
    · have q1 := h3 b' hb'
      by_cases q : e = E
      · subst q
        rw [va_up_self]
        exact ⟨fun _ => by omega, fun _ => q1.2.1⟩
      · rw [hfr e (by omega)]; exact q1.2.2 e (by omega)
    · simp only [gi_sl, gi_sA, gi_sB, gi_si_s, gi_si_n, gl_si, gl_sA, gl_sB, gl_sl_s, gl_sl_n, gA_si, gA_sl, gA_sB, gA_sA_s, gA_sA_n, gB_si, gB_sl, gB_sA, gB_sB_s, gB_sB_n, Nat.reduceBEq]
      rw [rdL_nI (by omega) (by decide), wrL_nI (by omega) (by decide)]
      have h9 := h4 b' hb' k
      by_cases q : b' = b
      · subst q
        rw [updL_s, tb_or, tb_bit (by omega)]
        constructor
        · intro z
          rcases Bool.or_eq_true_iff.mp z with z | z
          · obtain ⟨e, e1, e2, e3⟩ := h9.mp z
            exact ⟨e, by omega, by rw [hfr e e1]; exact e2, by rw [heg e e1]; exact e3⟩
          · exact ⟨E, by omega, va_up_self _ _ _, by rw [va_up_self]; exact (of_decide_eq_true z).symm⟩
        · rintro ⟨e, e1, e2, e3⟩
          by_cases q : e = E
          · subst q
            rw [va_up_self] at e3
            rw [decide_eq_true e3.symm, Bool.or_true]
          · rw [hfr e (by omega)] at e2
            rw [heg e (by omega)] at e3
            rw [h9.mpr ⟨e, by omega, e2, e3⟩, Bool.true_or]
      · rw [updL_n _ _ q, h9]
        constructor
        · rintro ⟨e, e1, e2, e3⟩
          exact ⟨e, by omega, by rw [hfr e e1]; exact e2, by rw [heg e e1]; exact e3⟩
        · rintro ⟨e, e1, e2, e3⟩
          by_cases q2 : e = E
          · subst q2
            rw [va_up_self] at e2
            exact absurd e2.symm q
          · rw [hfr e (by omega)] at e2
            rw [heg e (by omega)] at e3
            exact ⟨e, by omega, e2, e3⟩
    · by_cases q : e + 1 = E
      · have q1 := h2 e (by omega)
        rw [hfr e (by omega), heg e (by omega), q, va_up_self, va_up_self]
        refine ⟨by omega, fun z z2 => ?_⟩
        have := (h4 b (by omega) g).mpr ⟨e, by omega, z, z2⟩
        rw [hk] at this; cases this
      · rw [hfr e (by omega), heg e (by omega), hfr (e + 1) (by omega), heg (e + 1) (by omega)]
        exact h5 e (by omega)
  · rw [if_pos rfl]; exact h.more
theorem leave_x {n c b m : Nat} {hm fs fe : Nat → Nat} {co fl : Ob} (hco : gi co 0 = nI n) (hn : n ≤ 19) (hb : b < c) (hm2 : m + 2 < 80) (h : FX n c (b + 1) m hm fs fe fl) : FX n c (b + 1) (m + 3) hm fs fe (leave co fl (nI b)) := by
  have hA : ∀ e k, FX n c (b + 1) (m + 1) hm fs fe (leaveA co fl (nI b) e k) := fun e k => by
    unfold leaveA
    rw [hco]
    split
    · exact join_x hn hb (by omega) h _
    · split
      · exact join_x hn hb (by omega) h _
      · exact h.more
  have hB : ∀ f e k, FX n c (b + 1) (m + 1) hm fs fe f → FX n c (b + 1) (m + 2) hm fs fe (leaveB co f (nI b) e k) := fun f e k hf => by
    unfold leaveB
    rw [hco]
    split
    · exact join_x hn hb (by omega) hf _
    · exact hf.more
  have hC : ∀ f k, FX n c (b + 1) (m + 2) hm fs fe f → FX n c (b + 1) (m + 3) hm fs fe (leaveC co f (nI b) k) := fun f k hf => by
    unfold leaveC
    rw [hco]
    split
    · exact join_x hn hb (by omega) hf _
    · exact hf.more
  unfold leave
  exact hC _ _ (hB _ _ _ (hA _ _))
theorem part_x {n c b : Nat} {hm fs fe : Nat → Nat} {co fl : Ob} (hco : gi co 0 = nI n) (hn : n ≤ 19) (hb : b < c) (hc : c ≤ 19) (h : FX n c b (3 * b) hm fs fe fl) : ∃ fe2 : Nat → Nat, (∀ b', b' < b → fe2 b' = fe b') ∧ FX n c (b + 1) (3 * (b + 1)) hm fs fe2 (partStep co b fl) := by
  obtain ⟨E, fr, eg, ⟨a1, a2, a3, a4, a5⟩, h2, h3, h4, h5, h6⟩ := h
  refine ⟨va_up fe b E, fun b' hb' => va_up_ne _ _ (by omega), ?_⟩
  unfold partStep
  refine leave_x (m := 3 * b) hco hn hb (by omega) ?_
  rw [a2]
  refine ⟨E, fr, eg, ⟨?_, ?_, a3, ?_, ?_⟩, fun e he => ?_, fun b' hb' => ?_, fun b' hb' k => ?_, h5, by omega⟩
  · simp only [gi_sl, gi_sA, gi_sB, gi_si_s, gi_si_n, gl_si, gl_sA, gl_sB, gl_sl_s, gl_sl_n, gA_si, gA_sl, gA_sB, gA_sA_s, gA_sA_n, gB_si, gB_sl, gB_sA, gB_sB_s, gB_sB_n, Nat.reduceBEq]; exact a1
  · simp only [gi_sl, gi_sA, gi_sB, gi_si_s, gi_si_n, gl_si, gl_sA, gl_sB, gl_sl_s, gl_sl_n, gA_si, gA_sl, gA_sB, gA_sA_s, gA_sA_n, gB_si, gB_sl, gB_sA, gB_sB_s, gB_sB_n, Nat.reduceBEq]; exact a2
  · simp only [gi_sl, gi_sA, gi_sB, gi_si_s, gi_si_n, gl_si, gl_sA, gl_sB, gl_sl_s, gl_sl_n, gA_si, gA_sl, gA_sB, gA_sA_s, gA_sA_n, gB_si, gB_sl, gB_sA, gB_sB_s, gB_sB_n, Nat.reduceBEq]; exact a4
  · simp only [gi_sl, gi_sA, gi_sB, gi_si_s, gi_si_n, gl_si, gl_sA, gl_sB, gl_sl_s, gl_sl_n, gA_si, gA_sl, gA_sB, gA_sA_s, gA_sA_n, gB_si, gB_sl, gB_sA, gB_sB_s, gB_sB_n, Nat.reduceBEq]; exact a5
  · have := h2 e he
    simp only [gi_sl, gi_sA, gi_sB, gi_si_s, gi_si_n, gl_si, gl_sA, gl_sB, gl_sl_s, gl_sl_n, gA_si, gA_sl, gA_sB, gA_sA_s, gA_sA_n, gB_si, gB_sl, gB_sA, gB_sB_s, gB_sB_n, Nat.reduceBEq]
    exact ⟨this.1, this.2.1, by omega, this.2.2.2⟩
  · simp only [gi_sl, gi_sA, gi_sB, gi_si_s, gi_si_n, gl_si, gl_sA, gl_sB, gl_sl_s, gl_sl_n, gA_si, gA_sl, gA_sB, gA_sA_s, gA_sA_n, gB_si, gB_sl, gB_sA, gB_sB_s, gB_sB_n, Nat.reduceBEq]
    rw [wr_nI (by omega) (by decide)]
    refine ⟨upd_va (k := b + 1) (fun j hj e => (h3 j (by omega)).1) b' hb', ?_⟩
    by_cases q : b' = b
    · subst q
      rw [va_up_self]
      refine ⟨Nat.le_refl _, fun e he => ?_⟩
      have := (h2 e he).2.2.1
      omega
    · rw [va_up_ne _ _ q]; exact (h3 b' (by omega)).2
  · simp only [gi_sl, gi_sA, gi_sB, gi_si_s, gi_si_n, gl_si, gl_sA, gl_sB, gl_sl_s, gl_sl_n, gA_si, gA_sl, gA_sB, gA_sA_s, gA_sA_n, gB_si, gB_sl, gB_sA, gB_sB_s, gB_sB_n, Nat.reduceBEq]
    rw [wrL_nI (by omega) (by decide)]
    by_cases q : b' = b
    · subst q
      rw [updL_s, tb_0]
      refine ⟨fun z => by (cases z), ?_⟩
      rintro ⟨e, e1, e2, e3⟩
      have := (h2 e e1).2.2.1
      omega
    · rw [updL_n _ _ q]; exact h4 b' (by omega) k
/-! ===== Flow: what holds of it when it is worked out ===== -/
def FL (n c E : Nat) (hm fs fr eg fe : Nat → Nat) (fl : Ob) : Prop :=
  (gi fl 0 = nI c ∧ gi fl 1 = nI E ∧ CutF n c hm fs ∧ (∀ j, j < n → gA fl 0 j = nI (hm j)) ∧ (∀ b, b < c → gA fl 1 b = nI (fs b))) ∧
  (∀ e, e < E → gA fl 3 e = nI (fr e) ∧ gA fl 4 e = tv (eg e) ∧ fr e < c ∧ (eg e < c ∨ eg e = 40)) ∧
  (∀ b, b ≤ c → gA fl 5 b = nI (fe b) ∧ fe b ≤ E ∧ ∀ e, e < E → (fe b ≤ e ↔ b ≤ fr e)) ∧
  (∀ b, b < c → ∀ k, tb (gB fl 0 b) k = true ↔ ∃ e, e < E ∧ fr e = b ∧ eg e = k) ∧
  (∀ e, e + 1 < E → fr e ≤ fr (e + 1) ∧ (fr e = fr (e + 1) → eg e ≠ eg (e + 1))) ∧
  E ≤ 3 * c ∧ n ≤ 19 ∧
  gl fl 0 = (if 0 < c then spread (gB fl 0) 1 (bitL 40) else 0)
theorem part_ok {n : Nat} {co fl : Ob} (hco : gi co 0 = nI n) (hn : n ≤ 19) : ∃ (c E : Nat) (hm fs fr eg fe : Nat → Nat), FL n c E hm fs fr eg fe (part co fl) := by
  obtain ⟨c, hm, fs, b1, b2, b3, b4⟩ := cut_all (fl := fl) hn (lead_0 co)
  have hc : c ≤ 19 := by have := b4.1; omega
  have key : ∃ fe : Nat → Nat, FX n c c (3 * c) hm fs fe (partL co fl) := by
    unfold partL
    rw [hco, b1, nN_nI (by omega)]
    refine lp_ind (fun b t => ∃ fe : Nat → Nat, FX n c b (3 * b) hm fs fe t) ?_ (fun b t hb h => ?_)
    · refine ⟨fun _ => 0, 0, fun _ => 0, fun _ => 0, ⟨?_, ?_, b4, ?_, ?_⟩, fun e he => absurd he (Nat.not_lt_zero e), fun b hb => absurd hb (Nat.not_lt_zero b), fun b hb => absurd hb (Nat.not_lt_zero b), fun e he => absurd he (Nat.not_lt_zero _), by omega⟩
      · simp only [gi_sl, gi_sA, gi_sB, gi_si_s, gi_si_n, gl_si, gl_sA, gl_sB, gl_sl_s, gl_sl_n, gA_si, gA_sl, gA_sB, gA_sA_s, gA_sA_n, gB_si, gB_sl, gB_sA, gB_sB_s, gB_sB_n, Nat.reduceBEq]; exact b1
      · simp only [gi_sl, gi_sA, gi_sB, gi_si_s, gi_si_n, gl_si, gl_sA, gl_sB, gl_sl_s, gl_sl_n, gA_si, gA_sl, gA_sB, gA_sA_s, gA_sA_n, gB_si, gB_sl, gB_sA, gB_sB_s, gB_sB_n, Nat.reduceBEq]; rfl
      · simp only [gi_sl, gi_sA, gi_sB, gi_si_s, gi_si_n, gl_si, gl_sA, gl_sB, gl_sl_s, gl_sl_n, gA_si, gA_sl, gA_sB, gA_sA_s, gA_sA_n, gB_si, gB_sl, gB_sA, gB_sB_s, gB_sB_n, Nat.reduceBEq]; exact b2
      · simp only [gi_sl, gi_sA, gi_sB, gi_si_s, gi_si_n, gl_si, gl_sA, gl_sB, gl_sl_s, gl_sl_n, gA_si, gA_sl, gA_sB, gA_sA_s, gA_sA_n, gB_si, gB_sl, gB_sA, gB_sB_s, gB_sB_n, Nat.reduceBEq]; exact b3
    · obtain ⟨fe, h⟩ := h
      obtain ⟨fe2, -, h2⟩ := part_x hco hn hb hc h
      exact ⟨fe2, h2⟩
  obtain ⟨fe, E, fr, eg, ⟨a1, a2, a3, a4, a5⟩, h2, h3, h4, h5, h6⟩ := key
  have hif : (if (0 : Int32) < nI c then spread (gB (partL co fl) 0) 1 (bitL 40) else 0) = (if 0 < c then spread (gB (partL co fl) 0) 1 (bitL 40) else 0) := by
    by_cases e : 0 < c
    · rw [if_pos e, if_pos (show (0 : Int32) < nI c from nI_lt (a := 0) e (by omega))]
    · have e0 : c = 0 := by omega
      subst e0
      rfl
  unfold part partE
  rw [a1, a2, hif]
  refine ⟨c, E, hm, fs, fr, eg, va_up fe c E, ⟨?_, ?_, a3, ?_, ?_⟩, fun e he => ?_, fun b hb => ?_, fun b hb => ?_, h5, h6, hn, ?_⟩
  · simp only [gi_sl, gi_sA, gi_sB, gi_si_s, gi_si_n, gl_si, gl_sA, gl_sB, gl_sl_s, gl_sl_n, gA_si, gA_sl, gA_sB, gA_sA_s, gA_sA_n, gB_si, gB_sl, gB_sA, gB_sB_s, gB_sB_n, Nat.reduceBEq]; exact a1
  · simp only [gi_sl, gi_sA, gi_sB, gi_si_s, gi_si_n, gl_si, gl_sA, gl_sB, gl_sl_s, gl_sl_n, gA_si, gA_sl, gA_sB, gA_sA_s, gA_sA_n, gB_si, gB_sl, gB_sA, gB_sB_s, gB_sB_n, Nat.reduceBEq]; exact a2
  · simp only [gi_sl, gi_sA, gi_sB, gi_si_s, gi_si_n, gl_si, gl_sA, gl_sB, gl_sl_s, gl_sl_n, gA_si, gA_sl, gA_sB, gA_sA_s, gA_sA_n, gB_si, gB_sl, gB_sA, gB_sB_s, gB_sB_n, Nat.reduceBEq]; exact a4
  · simp only [gi_sl, gi_sA, gi_sB, gi_si_s, gi_si_n, gl_si, gl_sA, gl_sB, gl_sl_s, gl_sl_n, gA_si, gA_sl, gA_sB, gA_sA_s, gA_sA_n, gB_si, gB_sl, gB_sA, gB_sB_s, gB_sB_n, Nat.reduceBEq]; exact a5
  · simp only [gi_sl, gi_sA, gi_sB, gi_si_s, gi_si_n, gl_si, gl_sA, gl_sB, gl_sl_s, gl_sl_n, gA_si, gA_sl, gA_sB, gA_sA_s, gA_sA_n, gB_si, gB_sl, gB_sA, gB_sB_s, gB_sB_n, Nat.reduceBEq]; exact h2 e he
  · simp only [gi_sl, gi_sA, gi_sB, gi_si_s, gi_si_n, gl_si, gl_sA, gl_sB, gl_sl_s, gl_sl_n, gA_si, gA_sl, gA_sB, gA_sA_s, gA_sA_n, gB_si, gB_sl, gB_sA, gB_sB_s, gB_sB_n, Nat.reduceBEq]
    rw [wr_nI (by omega) (by decide)]
    refine ⟨upd_va (k := c + 1) (fun j hj e => (h3 j (by omega)).1) b (by omega), ?_⟩
    by_cases q : b = c
    · subst q
      rw [va_up_self]
      refine ⟨Nat.le_refl _, fun e he => ?_⟩
      have := (h2 e he).2.2.1
      omega
    · rw [va_up_ne _ _ q]; exact (h3 b (by omega)).2
  · simp only [gi_sl, gi_sA, gi_sB, gi_si_s, gi_si_n, gl_si, gl_sA, gl_sB, gl_sl_s, gl_sl_n, gA_si, gA_sl, gA_sB, gA_sA_s, gA_sA_n, gB_si, gB_sl, gB_sA, gB_sB_s, gB_sB_n, Nat.reduceBEq]; exact h4 b hb
  · simp only [gi_sl, gi_sA, gi_sB, gi_si_s, gi_si_n, gl_si, gl_sA, gl_sB, gl_sl_s, gl_sl_n, gA_si, gA_sl, gA_sB, gA_sA_s, gA_sA_n, gB_si, gB_sl, gB_sA, gB_sB_s, gB_sB_n, Nat.reduceBEq]
end
section
/-! ===== what is reached; who is ahead of whom ===== -/
theorem tv_neg {g : Nat} (h : g ≤ 40) : tv g < 0 ↔ g = 40 := by
  unfold tv
  by_cases e : g = 40
  · rw [if_pos e]; exact ⟨fun _ => e, fun _ => by decide⟩
  · rw [if_neg e]
    exact ⟨fun z => absurd z (nI_pos (by omega)), fun z => absurd z e⟩
theorem tv_nI {g : Nat} (h : g ≠ 40) : tv g = nI g := if_neg h
theorem ct_ext {p : Nat → Bool} {m n : Nat} (h : m ≤ n) (hp : ∀ k, m ≤ k → k < n → p k = false) : fb_ct p n = fb_ct p m := by
  obtain ⟨d, rfl⟩ : ∃ d, n = m + d := ⟨n - m, by omega⟩
  rw [fb_ct_split, fb_ct_zero.mpr (fun k hk => hp (m + k) (by omega) (by omega)), Nat.add_zero]
theorem lp_ct (p : Nat → Bool) {f : Nat → Int32 → Int32} {n a : Nat} (h : ∀ i m, i < n → f i (nI m) = nI (m + if p i = true then 1 else 0)) : lp f n (nI a) = nI (a + fb_ct p n) := by
  refine lp_ind (fun i t => t = nI (a + fb_ct p i)) rfl (fun i t hi ht => ?_)
  rw [ht, h i _ hi, fb_ct_succ, Nat.add_assoc]
section FLS
variable {n c E : Nat} {hm fs fr eg fe : Nat → Nat} {fl : Ob}
theorem FL.bc (h : FL n c E hm fs fr eg fe fl) : gi fl 0 = nI c := h.1.1
theorem FL.ec (h : FL n c E hm fs fr eg fe fl) : gi fl 1 = nI E := h.1.2.1
theorem FL.cut (h : FL n c E hm fs fr eg fe fl) : CutF n c hm fs := h.1.2.2.1
theorem FL.n19 (h : FL n c E hm fs fr eg fe fl) : n ≤ 19 := h.2.2.2.2.2.2.1
theorem FL.c19 (h : FL n c E hm fs fr eg fe fl) : c ≤ 19 := by have := h.cut.1; have := h.n19; omega
theorem FL.e57 (h : FL n c E hm fs fr eg fe fl) : E ≤ 57 := by have := h.2.2.2.2.2.1; have := h.c19; omega
theorem FL.edge (h : FL n c E hm fs fr eg fe fl) {e : Nat} (he : e < E) : gA fl 3 e = nI (fr e) ∧ gA fl 4 e = tv (eg e) ∧ fr e < c ∧ (eg e < c ∨ eg e = 40) := h.2.1 e he
theorem FL.rdf (h : FL n c E hm fs fr eg fe fl) {e : Nat} (he : e < E) : rd (gA fl 3) 80 (nI e) = nI (fr e) := by
  have := h.e57
  rw [rd_nI (by omega) (by decide)]; exact (h.edge he).1
theorem FL.rdt (h : FL n c E hm fs fr eg fe fl) {e : Nat} (he : e < E) : rd (gA fl 4) 80 (nI e) = tv (eg e) := by
  have := h.e57
  rw [rd_nI (by omega) (by decide)]; exact (h.edge he).2.1
theorem FL.g40 (h : FL n c E hm fs fr eg fe fl) {e : Nat} (he : e < E) : eg e ≤ 40 := by
  have := h.c19
  have := (h.edge he).2.2.2
  omega
theorem FL.row (h : FL n c E hm fs fr eg fe fl) {b : Nat} (hb : b < c) (k : Nat) : tb (gB fl 0 b) k = true ↔ ∃ e, e < E ∧ fr e = b ∧ eg e = k := h.2.2.2.1 b hb k
theorem FL.rowc (h : FL n c E hm fs fr eg fe fl) {b k : Nat} (hb : b < c) (hk : tb (gB fl 0 b) k = true) : k < c ∨ k = 40 := by
  obtain ⟨e, he, -, rfl⟩ := (h.row hb k).mp hk
  exact (h.edge he).2.2.2
/-- what one comes to from 0 but never by y -/
theorem FL.spr (h : FL n c E hm fs fr eg fe fl) (h0 : 0 < c) (y : Int64) (P : Nat → Prop) (p0 : tb y 0 = false → P 0) (ps : ∀ a k, P a → a < c → tb (gB fl 0 a) k = true → tb y k = false → P k) :
    (tb y 0 = false → tb (spread (gB fl 0) 1 y) 0 = true) ∧ (∀ k, tb (spread (gB fl 0) 1 y) k = true → tb y k = false ∧ P k ∧ (k < c ∨ k = 40)) ∧ (∀ a k, tb (spread (gB fl 0) 1 y) a = true → a < c → tb (gB fl 0 a) k = true → tb y k = false → tb (spread (gB fl 0) 1 y) k = true) := by
  have hc := h.c19
  have key := spread_facts (gB fl 0) 1 y (fun k hk => by rw [tb_1] at hk; have := of_decide_eq_true hk; omega) (fun k => P k ∧ (k < c ∨ k = 40))
    (fun b k hb h40 hk => by
      have hbc : b < c := by have := hb.2; omega
      have := h.rowc hbc hk
      omega)
    (fun k hk hy => by
      rw [tb_1] at hk
      have := of_decide_eq_true hk
      subst this
      exact ⟨p0 hy, Or.inl h0⟩)
    (fun a k ha h40 hk hy => by
      have hac : a < c := by have := ha.2; omega
      exact ⟨ps a k ha.1 hac hk hy, h.rowc hac hk⟩)
  exact ⟨fun hy => key.1 0 (by rw [tb_1]; rfl) hy, fun k hk => ⟨(key.2.1 k hk).1, (key.2.1 k hk).2.1.1, (key.2.1 k hk).2.1.2⟩, fun a k ha hac => key.2.2 a k ha (by omega)⟩
theorem FL.rch (h : FL n c E hm fs fr eg fe fl) : gl fl 0 = (if 0 < c then spread (gB fl 0) 1 (bitL 40) else 0) := h.2.2.2.2.2.2.2
theorem b40 (k : Nat) : tb (bitL 40) k = decide (k = 40) := tb_bit (n := 40) (by decide) k
theorem FL.r_lt (h : FL n c E hm fs fr eg fe fl) {k : Nat} (hk : tb (gl fl 0) k = true) : k < c := by
  rw [h.rch] at hk
  by_cases e : 0 < c
  · rw [if_pos e] at hk
    have h9 := (h.spr e (bitL 40) (fun _ => True) (fun _ => trivial) (fun _ _ _ _ _ _ => trivial)).2.1 k hk
    rw [b40] at h9
    have := of_decide_eq_false h9.1
    have := h9.2.2
    omega
  · rw [if_neg e, tb_0] at hk; cases hk
theorem FL.r_0 (h : FL n c E hm fs fr eg fe fl) (h0 : 0 < c) : tb (gl fl 0) 0 = true := by
  rw [h.rch, if_pos h0]
  exact (h.spr h0 (bitL 40) (fun _ => True) (fun _ => trivial) (fun _ _ _ _ _ _ => trivial)).1 (by rw [b40]; rfl)
theorem FL.r_go (h : FL n c E hm fs fr eg fe fl) {a k : Nat} (ha : tb (gl fl 0) a = true) (hk : tb (gB fl 0 a) k = true) (h40 : k ≠ 40) : tb (gl fl 0) k = true := by
  have hac := h.r_lt ha
  have h0 : 0 < c := by omega
  rw [h.rch, if_pos h0] at ha ⊢
  exact (h.spr h0 (bitL 40) (fun _ => True) (fun _ => trivial) (fun _ _ _ _ _ _ => trivial)).2.2 a k ha hac hk (by rw [b40]; exact decide_eq_false h40)
theorem FL.r_least (h : FL n c E hm fs fr eg fe fl) (P : Nat → Prop) (p0 : P 0) (ps : ∀ a k, P a → a < c → tb (gB fl 0 a) k = true → k ≠ 40 → P k) {k : Nat} (hk : tb (gl fl 0) k = true) : P k := by
  have hkc := h.r_lt hk
  have h0 : 0 < c := by omega
  rw [h.rch, if_pos h0] at hk
  exact ((h.spr h0 (bitL 40) P (fun _ => p0) (fun a k ha hac hk hy => ps a k ha hac hk (by rw [b40] at hy; exact of_decide_eq_false hy))).2.1 k hk).2.1
/-- an edge of a block that is reached -/
theorem FL.r_edge (h : FL n c E hm fs fr eg fe fl) {e : Nat} (he : e < E) (hr : tb (gl fl 0) (fr e) = true) (h40 : eg e ≠ 40) : tb (gl fl 0) (eg e) = true :=
  h.r_go hr ((h.row (h.edge he).2.2.1 _).mpr ⟨e, he, rfl, rfl⟩) h40
/-- the blocks that one comes to but never by b -/
def Sp (fl : Ob) (b : Nat) : Int64 := spread (gB fl 0) 1 (bitL (nI b))
theorem FL.s_0 (h : FL n c E hm fs fr eg fe fl) (h0 : 0 < c) {b : Nat} (hb : b < 40) (hb0 : b ≠ 0) : tb (Sp fl b) 0 = true :=
  (h.spr h0 (bitL (nI b)) (fun _ => True) (fun _ => trivial) (fun _ _ _ _ _ _ => trivial)).1 (by rw [tb_bit (by omega)]; exact decide_eq_false (fun z => hb0 z.symm))
theorem FL.s_no (h : FL n c E hm fs fr eg fe fl) (h0 : 0 < c) {b : Nat} (hb : b < 40) : tb (Sp fl b) b = false := by
  cases hk : tb (Sp fl b) b
  · rfl
  · have := ((h.spr h0 (bitL (nI b)) (fun _ => True) (fun _ => trivial) (fun _ _ _ _ _ _ => trivial)).2.1 b hk).1
    rw [tb_bit (by omega)] at this
    simp at this
theorem FL.s_z (h : FL n c E hm fs fr eg fe fl) (h0 : 0 < c) (k : Nat) : tb (Sp fl 0) k = false := by
  cases hk : tb (Sp fl 0) k
  · rfl
  · exact (((h.spr h0 (bitL (nI 0)) (fun _ => False) (fun z => by rw [tb_bit (by decide)] at z; simp at z) (fun _ _ z _ _ _ => z)).2.1 k hk).2.1).elim
theorem FL.s_go (h : FL n c E hm fs fr eg fe fl) (h0 : 0 < c) {b a k : Nat} (hb : b < 40) (ha : tb (Sp fl b) a = true) (hac : a < c) (hk : tb (gB fl 0 a) k = true) (hkb : k ≠ b) : tb (Sp fl b) k = true :=
  (h.spr h0 (bitL (nI b)) (fun _ => True) (fun _ => trivial) (fun _ _ _ _ _ _ => trivial)).2.2 a k ha hac hk (by rw [tb_bit (by omega)]; exact decide_eq_false hkb)
theorem ruled_tb (fl : Ob) (a b : Nat) : tb (ruledBy fl (nI a)) b = (tb (gl fl 0) b && !tb (Sp fl a) b) := tb_sub _ _ _
/-- two different blocks don't dominate each other -/
theorem FL.anti (h : FL n c E hm fs fr eg fe fl) {a b : Nat} (ha : a < 40) (hb : b < 40) (hab : a ≠ b) (h1 : tb (ruledBy fl (nI a)) b = true) (h2 : tb (ruledBy fl (nI b)) a = true) : False := by
  rw [ruled_tb] at h1 h2
  have r1 : tb (gl fl 0) b = true := by
    cases q : tb (gl fl 0) b
    · rw [q] at h1; cases h1
    · rfl
  have r2 : tb (gl fl 0) a = true := by
    cases q : tb (gl fl 0) a
    · rw [q] at h2; cases h2
    · rfl
  rw [r1] at h1
  rw [r2] at h2
  have s1 : tb (Sp fl a) b = false := by simpa using h1
  have s2 : tb (Sp fl b) a = false := by simpa using h2
  have h0 : 0 < c := by have := h.r_lt r1; omega
  have a0 : a ≠ 0 := by
    intro z; subst z
    rw [h.s_0 h0 hb (fun z => hab z.symm)] at s2; cases s2
  have b0 : b ≠ 0 := by
    intro z; subst z
    rw [h.s_0 h0 ha hab] at s1; cases s1
  have key := h.r_least (fun k => tb (Sp fl a) k = true ∧ tb (Sp fl b) k = true) ⟨h.s_0 h0 ha a0, h.s_0 h0 hb b0⟩ (fun x k hx hxc hk h40 => by
    have ka : k ≠ a := by
      intro z; subst z
      rw [h.s_go h0 hb hx.2 hxc hk hab] at s2; cases s2
    have kb : k ≠ b := by
      intro z; subst z
      rw [h.s_go h0 ha hx.1 hxc hk (fun z => hab z.symm)] at s1; cases s1
    exact ⟨h.s_go h0 ha hx.1 hxc hk ka, h.s_go h0 hb hx.2 hxc hk kb⟩) r1
  rw [key.1] at s1; cases s1
/-! ===== Ranks: what holds when they are worked out ===== -/
def RK (c E : Nat) (fr eg : Nat → Nat) (fl ra : Ob) : Prop :=
  (∀ b, b < 40 → gB ra 0 b = if tb (gl fl 0) b = true then ruledBy fl (nI b) else 0) ∧
  (∀ h, h < 40 → ∀ k, tb (gB ra 1 h) k = true → tb (gl fl 0) k = true) ∧
  (∀ h, h < 40 → gB ra 1 h ≠ 0 → tb (gB ra 1 h) h = true) ∧
  gi ra 0 = nI (fb_ct (fun h => decide (gB ra 1 h ≠ 0)) c) ∧
  (∀ h, c ≤ h → h < 40 → gB ra 1 h = 0) ∧
  (∀ e, e < E → eg e < c → tb (gl fl 0) (fr e) = true → tb (gB ra 0 (eg e)) (fr e) = true → gB ra 1 (eg e) ≠ 0)
def RA (i : Nat) (fl ra : Ob) : Prop := ∀ b, b < i → (gB ra 0 b = if tb (gl fl 0) b = true then ruledBy fl (nI b) else 0) ∧ gB ra 1 b = 0 ∧ gB ra 2 b = 0
theorem rankA_ok (fl ra : Ob) : RA 40 fl (lp (rankA fl) 40 ra) := by
  refine lp_ind (fun i t => RA i fl t) (fun b hb => absurd hb (Nat.not_lt_zero b)) (fun i t hi h b hb => ?_)
  unfold rankA
  simp only [gi_sl, gi_sA, gi_sB, gi_si_s, gi_si_n, gl_si, gl_sA, gl_sB, gl_sl_s, gl_sl_n, gA_si, gA_sl, gA_sB, gA_sA_s, gA_sA_n, gB_si, gB_sl, gB_sA, gB_sB_s, gB_sB_n, Nat.reduceBEq]
  rw [wrL_nI hi (by decide), wrL_nI hi (by decide), wrL_nI hi (by decide), hs_tb _ (by omega)]
  by_cases e : b = i
  · subst e
    rw [updL_s, updL_s, updL_s]
    exact ⟨rfl, rfl, rfl⟩
  · rw [updL_n _ _ e, updL_n _ _ e, updL_n _ _ e]
    exact h b (by omega)
theorem sortA_ok {fl ra : Ob} (h : RA 40 fl ra) : RA 40 fl (lp sortA 40 ra) := by
  refine lp_ind (fun _ t => RA 40 fl t) h (fun i t hi h b hb => ?_)
  unfold sortA
  simp only [gi_sl, gi_sA, gi_sB, gi_si_s, gi_si_n, gl_si, gl_sA, gl_sB, gl_sl_s, gl_sl_n, gA_si, gA_sl, gA_sB, gA_sA_s, gA_sA_n, gB_si, gB_sl, gB_sA, gB_sB_s, gB_sB_n, Nat.reduceBEq]
  exact h b hb
def RB (i c : Nat) (fr eg : Nat → Nat) (fl ra : Ob) : Prop :=
  (∀ b, b < 40 → (gB ra 0 b = if tb (gl fl 0) b = true then ruledBy fl (nI b) else 0) ∧ gB ra 1 b = 0) ∧
  (∀ t, t < 40 → ∀ k, tb (gB ra 2 t) k = true → tb (gl fl 0) k = true) ∧
  (∀ e, e < i → eg e < c → tb (gl fl 0) (fr e) = true → tb (gB ra 2 (eg e)) (fr e) = true)
theorem sortD_ok {i c : Nat} {fr eg : Nat → Nat} {fl ra : Ob} (hc : c ≤ 19) (h : RB i c fr eg fl ra) (hg : eg i < c) (hf : fr i < c) (hr : tb (gl fl 0) (fr i) = true) : RB (i + 1) c fr eg fl (sortD ra (nI (fr i)) (nI (eg i))) := by
  have h2 : RB (i + 1) c fr eg fl (sortC ra (nI (fr i)) (nI (eg i))) := by
    obtain ⟨h1, h2, h3⟩ := h
    unfold sortC
    rw [wrL_nI (by omega) (by decide), rdL_nI (by omega) (by decide)]
    refine ⟨fun b hb => ?_, fun t ht k hk => ?_, fun e he hge hre => ?_⟩
    · simp only [gi_sl, gi_sA, gi_sB, gi_si_s, gi_si_n, gl_si, gl_sA, gl_sB, gl_sl_s, gl_sl_n, gA_si, gA_sl, gA_sB, gA_sA_s, gA_sA_n, gB_si, gB_sl, gB_sA, gB_sB_s, gB_sB_n, Nat.reduceBEq]; exact h1 b hb
    · simp only [gi_sl, gi_sA, gi_sB, gi_si_s, gi_si_n, gl_si, gl_sA, gl_sB, gl_sl_s, gl_sl_n, gA_si, gA_sl, gA_sB, gA_sA_s, gA_sA_n, gB_si, gB_sl, gB_sA, gB_sB_s, gB_sB_n, Nat.reduceBEq] at hk
      by_cases e : t = eg i
      · subst e
        rw [updL_s, tb_or, tb_bit (by omega)] at hk
        rcases Bool.or_eq_true_iff.mp hk with z | z
        · exact h2 _ ht k z
        · rw [of_decide_eq_true z]; exact hr
      · rw [updL_n _ _ e] at hk; exact h2 t ht k hk
    · simp only [gi_sl, gi_sA, gi_sB, gi_si_s, gi_si_n, gl_si, gl_sA, gl_sB, gl_sl_s, gl_sl_n, gA_si, gA_sl, gA_sB, gA_sA_s, gA_sA_n, gB_si, gB_sl, gB_sA, gB_sB_s, gB_sB_n, Nat.reduceBEq]
      by_cases q : eg e = eg i
      · rw [q, updL_s, tb_or, tb_bit (by omega)]
        by_cases q2 : fr e = fr i
        · rw [decide_eq_true q2, Bool.or_true]
        · have hei : e < i := by
            rcases Nat.lt_or_ge e i with z | z
            · exact z
            · have : e = i := by omega
              subst this; exact absurd rfl q2
          have := h3 e hei hge hre
          rw [q] at this
          rw [this, Bool.true_or]
      · rw [updL_n _ _ q]
        have hei : e < i := by
          rcases Nat.lt_or_ge e i with z | z
          · exact z
          · have : e = i := by omega
            subst this; exact absurd rfl q
        exact h3 e hei hge hre
  unfold sortD
  split
  · exact h2
  · obtain ⟨h1, h2, h3⟩ := h2
    refine ⟨fun b hb => ?_, fun t ht k hk => ?_, fun e he hge hre => ?_⟩
    · simp only [gi_sl, gi_sA, gi_sB, gi_si_s, gi_si_n, gl_si, gl_sA, gl_sB, gl_sl_s, gl_sl_n, gA_si, gA_sl, gA_sB, gA_sA_s, gA_sA_n, gB_si, gB_sl, gB_sA, gB_sB_s, gB_sB_n, Nat.reduceBEq]; exact h1 b hb
    · simp only [gi_sl, gi_sA, gi_sB, gi_si_s, gi_si_n, gl_si, gl_sA, gl_sB, gl_sl_s, gl_sl_n, gA_si, gA_sl, gA_sB, gA_sA_s, gA_sA_n, gB_si, gB_sl, gB_sA, gB_sB_s, gB_sB_n, Nat.reduceBEq] at hk; exact h2 t ht k hk
    · simp only [gi_sl, gi_sA, gi_sB, gi_si_s, gi_si_n, gl_si, gl_sA, gl_sB, gl_sl_s, gl_sl_n, gA_si, gA_sl, gA_sB, gA_sA_s, gA_sA_n, gB_si, gB_sl, gB_sA, gB_sB_s, gB_sB_n, Nat.reduceBEq]; exact h3 e he hge hre
theorem sortB_ok (h : FL n c E hm fs fr eg fe fl) {ra : Ob} (hr : RA 40 fl ra) : RB E c fr eg fl (lp (sortB fl) E ra) := by
  have hc := h.c19
  refine lp_ind (fun i t => RB i c fr eg fl t) ?_ (fun i t hi hb => ?_)
  · exact ⟨fun b hb => ⟨(hr b hb).1, (hr b hb).2.1⟩, fun t ht k hk => (by rw [(hr t ht).2.2, tb_0] at hk; cases hk), fun e he => absurd he (Nat.not_lt_zero e)⟩
  · have he := h.edge hi
    have h40 := h.g40 hi
    unfold sortB
    rw [h.rdf hi, h.rdt hi]
    by_cases q : eg i = 40
    · rw [if_pos ((tv_neg h40).mpr q)]
      refine ⟨hb.1, hb.2.1, fun e hei hge hre => ?_⟩
      have : e ≠ i := fun z => by subst z; omega
      exact hb.2.2 e (by omega) hge hre
    · rw [if_neg (fun z => q ((tv_neg h40).mp z)), tv_nI q, hs_tb _ (by omega)]
      cases hrr : tb (gl fl 0) (fr i)
      · rw [if_neg (by decide)]
        refine ⟨hb.1, hb.2.1, fun e hei hge hre => ?_⟩
        have : e ≠ i := fun z => by subst z; rw [hrr] at hre; cases hre
        exact hb.2.2 e (by omega) hge hre
      · rw [if_pos rfl]
        exact sortD_ok hc hb (by omega) he.2.2.1 hrr
def RC (i c E : Nat) (fr eg : Nat → Nat) (fl ra : Ob) : Prop :=
  (∀ b, b < 40 → gB ra 0 b = if tb (gl fl 0) b = true then ruledBy fl (nI b) else 0) ∧
  (∀ t, t < 40 → ∀ k, tb (gB ra 2 t) k = true → tb (gl fl 0) k = true) ∧
  (∀ e, e < E → eg e < c → tb (gl fl 0) (fr e) = true → tb (gB ra 2 (eg e)) (fr e) = true) ∧
  (∀ h, h < 40 → ∀ k, tb (gB ra 1 h) k = true → tb (gl fl 0) k = true) ∧
  (∀ h, h < 40 → gB ra 1 h ≠ 0 → tb (gB ra 1 h) h = true) ∧
  gi ra 0 = nI (fb_ct (fun h => decide (gB ra 1 h ≠ 0)) i) ∧
  (∀ h, i ≤ h → h < 40 → gB ra 1 h = 0) ∧
  (∀ h, h < i → (gB ra 2 h &&& gB ra 0 h) ≠ 0 → gB ra 1 h ≠ 0)
theorem closeLoop_ok {i c E : Nat} {fr eg : Nat → Nat} {fl ra : Ob} (hi : i < 40) (hrc : ∀ k, tb (gl fl 0) k = true → k < 41) (h : RC i c E fr eg fl ra) : RC (i + 1) c E fr eg fl (closeLoop ra (nI i)) := by
  obtain ⟨h1, h2, h3, h4, h5, h6, h7, h8⟩ := h
  unfold closeLoop clEnds
  rw [rdL_nI hi (by decide), rdL_nI hi (by decide)]
  by_cases e : (gB ra 2 i &&& gB ra 0 i) = 0
  · rw [if_pos e]
    refine ⟨h1, h2, h3, h4, h5, ?_, fun k hk h40 => h7 k (by omega) h40, fun k hk => ?_⟩
    · rw [h6, fb_ct_succ, if_neg (by simp [h7 i (Nat.le_refl i) hi])]; rfl
    · by_cases q : k = i
      · subst q; exact fun z => absurd e z
      · exact h8 k (by omega)
  · rw [if_neg e]
    obtain ⟨x, hx64, hx⟩ := tb_some e
    rw [tb_and] at hx
    have hri : tb (gl fl 0) i = true := by
      have : tb (gB ra 0 i) x = true := by
        cases q : tb (gB ra 0 i) x
        · rw [q, Bool.and_false] at hx; cases hx
        · rfl
      rw [h1 i hi] at this
      by_cases q : tb (gl fl 0) i = true
      · exact q
      · rw [if_neg q, tb_0] at this; cases this
    have hend : ∀ k, tb (gB ra 2 i &&& gB ra 0 i) k = true → tb (gl fl 0) k = true := fun k hk => by
      rw [tb_and] at hk
      cases q : tb (gB ra 2 i) k
      · rw [q] at hk; cases hk
      · exact h2 i hi k q
    have key := (spread_facts (gB ra 2) (gB ra 2 i &&& gB ra 0 i) (bitL (nI i)) (fun k hk => hrc k (hend k hk)) (fun k => tb (gl fl 0) k = true) (fun b k _ hb hk => hrc k (h2 b hb k hk)) (fun k hk _ => hend k hk) (fun a k _ ha hk _ => h2 a ha k hk)).2.1
    rw [wrL_nI hi (by decide)]
    have hb : ∀ k, tb (bitL (nI i) ||| spread (gB ra 2) (gB ra 2 i &&& gB ra 0 i) (bitL (nI i))) k = true → tb (gl fl 0) k = true := fun k hk => by
      rw [tb_or, tb_bit (by omega)] at hk
      rcases Bool.or_eq_true_iff.mp hk with z | z
      · rw [of_decide_eq_true z]; exact hri
      · exact (key k z).2.1
    have hbi : tb (bitL (nI i) ||| spread (gB ra 2) (gB ra 2 i &&& gB ra 0 i) (bitL (nI i))) i = true := by
      rw [tb_or, tb_bit (by omega), decide_eq_true rfl, Bool.true_or]
    generalize bitL (nI i) ||| spread (gB ra 2) (gB ra 2 i &&& gB ra 0 i) (bitL (nI i)) = L at hb hbi
    refine ⟨?_, ?_, ?_, fun k h40 z hz => ?_, fun k h40 hz => ?_, ?_, fun k hk h40 => ?_, fun k hk hz => ?_⟩
    · simp only [gi_sl, gi_sA, gi_sB, gi_si_s, gi_si_n, gl_si, gl_sA, gl_sB, gl_sl_s, gl_sl_n, gA_si, gA_sl, gA_sB, gA_sA_s, gA_sA_n, gB_si, gB_sl, gB_sA, gB_sB_s, gB_sB_n, Nat.reduceBEq]; exact h1
    · simp only [gi_sl, gi_sA, gi_sB, gi_si_s, gi_si_n, gl_si, gl_sA, gl_sB, gl_sl_s, gl_sl_n, gA_si, gA_sl, gA_sB, gA_sA_s, gA_sA_n, gB_si, gB_sl, gB_sA, gB_sB_s, gB_sB_n, Nat.reduceBEq]; exact h2
    · simp only [gi_sl, gi_sA, gi_sB, gi_si_s, gi_si_n, gl_si, gl_sA, gl_sB, gl_sl_s, gl_sl_n, gA_si, gA_sl, gA_sB, gA_sA_s, gA_sA_n, gB_si, gB_sl, gB_sA, gB_sB_s, gB_sB_n, Nat.reduceBEq]; exact h3
    · simp only [gi_sl, gi_sA, gi_sB, gi_si_s, gi_si_n, gl_si, gl_sA, gl_sB, gl_sl_s, gl_sl_n, gA_si, gA_sl, gA_sB, gA_sA_s, gA_sA_n, gB_si, gB_sl, gB_sA, gB_sB_s, gB_sB_n, Nat.reduceBEq] at hz
      by_cases q : k = i
      · subst q; rw [updL_s] at hz; exact hb z hz
      · rw [updL_n _ _ q] at hz; exact h4 k h40 z hz
    · simp only [gi_sl, gi_sA, gi_sB, gi_si_s, gi_si_n, gl_si, gl_sA, gl_sB, gl_sl_s, gl_sl_n, gA_si, gA_sl, gA_sB, gA_sA_s, gA_sA_n, gB_si, gB_sl, gB_sA, gB_sB_s, gB_sB_n, Nat.reduceBEq] at hz ⊢
      by_cases q : k = i
      · subst q; rw [updL_s]; exact hbi
      · rw [updL_n _ _ q] at hz ⊢; exact h5 k h40 hz
    · simp only [gi_sl, gi_sA, gi_sB, gi_si_s, gi_si_n, gl_si, gl_sA, gl_sB, gl_sl_s, gl_sl_n, gA_si, gA_sl, gA_sB, gA_sA_s, gA_sA_n, gB_si, gB_sl, gB_sA, gB_sB_s, gB_sB_n, Nat.reduceBEq]
      rw [h6, nI_1, fb_ct_succ, updL_s, if_pos (decide_eq_true (tb_ne hbi))]
      congr 2
      exact fb_ct_cong fun k hk => by rw [updL_n _ _ (by omega)]
    · simp only [gi_sl, gi_sA, gi_sB, gi_si_s, gi_si_n, gl_si, gl_sA, gl_sB, gl_sl_s, gl_sl_n, gA_si, gA_sl, gA_sB, gA_sA_s, gA_sA_n, gB_si, gB_sl, gB_sA, gB_sB_s, gB_sB_n, Nat.reduceBEq]
      rw [updL_n _ _ (by omega)]; exact h7 k (by omega) h40
    · simp only [gi_sl, gi_sA, gi_sB, gi_si_s, gi_si_n, gl_si, gl_sA, gl_sB, gl_sl_s, gl_sl_n, gA_si, gA_sl, gA_sB, gA_sA_s, gA_sA_n, gB_si, gB_sl, gB_sA, gB_sB_s, gB_sB_n, Nat.reduceBEq] at hz ⊢
      by_cases q : k = i
      · subst q; rw [updL_s]; exact tb_ne hbi
      · rw [updL_n _ _ q]; exact h8 k (by omega) hz
theorem rank_ok (h : FL n c E hm fs fr eg fe fl) (ra : Ob) : RK c E fr eg fl (rank fl ra) := by
  have hc := h.c19
  have he := h.e57
  have hB := sortB_ok h (sortA_ok (rankA_ok fl ra))
  have key : RC c c E fr eg fl (rank fl ra) := by
    unfold rank sortEdges
    rw [h.bc, h.ec, nN_nI (by omega), nN_nI (by omega)]
    refine lp_ind (fun i t => RC i c E fr eg fl t) ?_ (fun i t hi ht => ?_)
    · refine ⟨?_, ?_, ?_, ?_, ?_, ?_, ?_, fun k hk => absurd hk (Nat.not_lt_zero k)⟩
      · simp only [gi_sl, gi_sA, gi_sB, gi_si_s, gi_si_n, gl_si, gl_sA, gl_sB, gl_sl_s, gl_sl_n, gA_si, gA_sl, gA_sB, gA_sA_s, gA_sA_n, gB_si, gB_sl, gB_sA, gB_sB_s, gB_sB_n, Nat.reduceBEq]; exact fun b hb => (hB.1 b hb).1
      · simp only [gi_sl, gi_sA, gi_sB, gi_si_s, gi_si_n, gl_si, gl_sA, gl_sB, gl_sl_s, gl_sl_n, gA_si, gA_sl, gA_sB, gA_sA_s, gA_sA_n, gB_si, gB_sl, gB_sA, gB_sB_s, gB_sB_n, Nat.reduceBEq]; exact hB.2.1
      · simp only [gi_sl, gi_sA, gi_sB, gi_si_s, gi_si_n, gl_si, gl_sA, gl_sB, gl_sl_s, gl_sl_n, gA_si, gA_sl, gA_sB, gA_sA_s, gA_sA_n, gB_si, gB_sl, gB_sA, gB_sB_s, gB_sB_n, Nat.reduceBEq]; exact hB.2.2
      · simp only [gi_sl, gi_sA, gi_sB, gi_si_s, gi_si_n, gl_si, gl_sA, gl_sB, gl_sl_s, gl_sl_n, gA_si, gA_sl, gA_sB, gA_sA_s, gA_sA_n, gB_si, gB_sl, gB_sA, gB_sB_s, gB_sB_n, Nat.reduceBEq]; exact fun k hk z hz => by rw [(hB.1 k hk).2, tb_0] at hz; cases hz
      · simp only [gi_sl, gi_sA, gi_sB, gi_si_s, gi_si_n, gl_si, gl_sA, gl_sB, gl_sl_s, gl_sl_n, gA_si, gA_sl, gA_sB, gA_sA_s, gA_sA_n, gB_si, gB_sl, gB_sA, gB_sB_s, gB_sB_n, Nat.reduceBEq]; exact fun k hk hz => absurd (hB.1 k hk).2 hz
      · simp only [gi_sl, gi_sA, gi_sB, gi_si_s, gi_si_n, gl_si, gl_sA, gl_sB, gl_sl_s, gl_sl_n, gA_si, gA_sl, gA_sB, gA_sA_s, gA_sA_n, gB_si, gB_sl, gB_sA, gB_sB_s, gB_sB_n, Nat.reduceBEq]; rfl
      · simp only [gi_sl, gi_sA, gi_sB, gi_si_s, gi_si_n, gl_si, gl_sA, gl_sB, gl_sl_s, gl_sl_n, gA_si, gA_sl, gA_sB, gA_sA_s, gA_sA_n, gB_si, gB_sl, gB_sA, gB_sB_s, gB_sB_n, Nat.reduceBEq]; exact fun k _ hk => (hB.1 k hk).2
    · have h9 := closeLoop_ok (by omega) (fun k hk => by have := h.r_lt hk; omega) ht
      unfold rankB rankT
      split
      · obtain ⟨a1, a2, a3, a4, a5, a6, a7, a8⟩ := h9
        refine ⟨?_, ?_, ?_, ?_, ?_, ?_, ?_, ?_⟩ <;> simp only [gi_sl, gi_sA, gi_sB, gi_si_s, gi_si_n, gl_si, gl_sA, gl_sB, gl_sl_s, gl_sl_n, gA_si, gA_sl, gA_sB, gA_sA_s, gA_sA_n, gB_si, gB_sl, gB_sA, gB_sB_s, gB_sB_n, Nat.reduceBEq] <;> assumption
      · exact h9
  obtain ⟨h1, h2, h3, h4, h5, h6, h7, h8⟩ := key
  refine ⟨h1, h4, h5, h6, h7, fun e he2 hg hr hd => h8 _ hg (fun z => ?_)⟩
  have := h3 e he2 hg hr
  have q : tb (gB (rank fl ra) 2 (eg e) &&& gB (rank fl ra) 0 (eg e)) (fr e) = true := by rw [tb_and, this, hd]; rfl
  rw [z, tb_0] at q; cases q
/-! ===== the nearest above, depth ===== -/
theorem rules_tb {ra : Ob} {d b : Nat} (hd : d < 40) (hb : b < 64) : rules ra (nI d) (nI b) = tb (gB ra 0 d) b := by
  unfold rules
  rw [rdL_nI hd (by decide), hs_tb _ hb]
theorem near_cases {ra : Ob} {b : Nat} (hb : b < 40) : (nearest ra (nI b) = -1 ∧ ∀ d, d < 40 → d ≠ b → tb (gB ra 0 d) b = true → ¬ bc (gB ra 0 d) < 41) ∨ (∃ d, d < 40 ∧ nearest ra (nI b) = nI d ∧ d ≠ b ∧ tb (gB ra 0 d) b = true) := by
  have key := lp_ind (f := nearStep ra (nI b)) (n := 40) (s := ((-1 : Int32), (41 : Int32))) (fun i p => (p = (-1, 41) ∧ ∀ d, d < i → d ≠ b → tb (gB ra 0 d) b = true → ¬ bc (gB ra 0 d) < 41) ∨ (∃ d, d < i ∧ p.1 = nI d ∧ d ≠ b ∧ tb (gB ra 0 d) b = true)) (Or.inl ⟨rfl, fun d hd => absurd hd (Nat.not_lt_zero d)⟩) (fun i p hi h => ?_)
  · rcases key with ⟨h1, h2⟩ | h
    · exact Or.inl ⟨by unfold nearest; rw [h1], h2⟩
    · exact Or.inr h
  · unfold nearStep
    rw [rules_tb hi (by omega), rdL_nI hi (by decide)]
    by_cases e : i = b
    · subst e
      rw [if_pos rfl]
      rcases h with ⟨h1, h2⟩ | ⟨d, h1, h2⟩
      · exact Or.inl ⟨h1, fun d hd hdb => h2 d (by omega) hdb⟩
      · exact Or.inr ⟨d, by omega, h2⟩
    · rw [if_neg (fun z => e (nI_inj (by omega) (by omega) z))]
      by_cases q : tb (gB ra 0 i) b = true
      · rw [if_pos q]
        by_cases q2 : bc (gB ra 0 i) < p.2
        · rw [if_pos q2]
          exact Or.inr ⟨i, by omega, rfl, e, q⟩
        · rw [if_neg q2]
          rcases h with ⟨h1, h2⟩ | ⟨d, h1, h2⟩
          · refine Or.inl ⟨h1, fun d hd hdb hz => ?_⟩
            by_cases q3 : d = i
            · subst q3
              rw [h1] at q2
              exact q2
            · exact h2 d (by omega) hdb hz
          · exact Or.inr ⟨d, by omega, h2⟩
      · rw [if_neg q]
        rcases h with ⟨h1, h2⟩ | ⟨d, h1, h2⟩
        · refine Or.inl ⟨h1, fun d hd hdb hz => ?_⟩
          by_cases q3 : d = i
          · subst q3; exact absurd hz q
          · exact h2 d (by omega) hdb hz
        · exact Or.inr ⟨d, by omega, h2⟩
theorem depth_ct {ra : Ob} {b : Nat} (hb : b < 64) : depth ra (nI b) = nI (fb_ct (fun h => tb (gB ra 1 h) b) 40) := by
  unfold depth
  rw [show (0 : Int32) = nI 0 from rfl, lp_ct (fun h => tb (gB ra 1 h) b) (fun i m hi => ?_), Nat.zero_add]
  unfold depStep
  rw [rdL_nI hi (by decide), hs_tb _ hb]
  by_cases q : tb (gB ra 1 i) b = true
  · rw [if_pos q, if_pos q, nI_1]
  · rw [if_neg q, if_neg q]; rfl
/-- the parent: none of the block 0 and of what is not reached; else one that dominates and is not dominated -/
theorem parent_ok (h : FL n c E hm fs fr eg fe fl) {ra : Ob} (hr : RK c E fr eg fl ra) {b : Nat} (hb : b < c) :
    ((b = 0 ∨ tb (gl fl 0) b = false) ∧ nearest ra (nI b) = -1) ∨ (b ≠ 0 ∧ tb (gl fl 0) b = true ∧ ∃ d, d < c ∧ nearest ra (nI b) = nI d ∧ tb (gB ra 0 d) b = true ∧ tb (gB ra 0 b) d = false) := by
  have hc := h.c19
  have h0 : 0 < c := by omega
  have hx : ∀ d k, d < 40 → tb (gB ra 0 d) k = true → tb (gl fl 0) d = true ∧ tb (gl fl 0) k = true ∧ tb (Sp fl d) k = false := fun d k hd hk => by
    rw [hr.1 d hd] at hk
    by_cases q : tb (gl fl 0) d = true
    · rw [if_pos q, ruled_tb] at hk
      cases a : tb (gl fl 0) k <;> cases a2 : tb (Sp fl d) k <;> rw [a, a2] at hk <;> first | exact ⟨q, rfl, rfl⟩ | cases hk
    · rw [if_neg q, tb_0] at hk; cases hk
  by_cases e : b = 0 ∨ tb (gl fl 0) b = false
  · refine Or.inl ⟨e, ?_⟩
    rcases near_cases (ra := ra) (b := b) (by omega) with h9 | ⟨d, h1, h2, h3, h4⟩
    · exact h9.1
    · exfalso
      have h8 := hx d b h1 h4
      rcases e with e | e
      · subst e
        rw [h.s_0 h0 h1 h3] at h8
        cases h8.2.2
      · rw [e] at h8; cases h8.2.1
  · have hb0 : b ≠ 0 := fun z => e (Or.inl z)
    have hrb : tb (gl fl 0) b = true := ts_nf (fun z => e (Or.inr z))
    refine Or.inr ⟨hb0, hrb, ?_⟩
    rcases near_cases (ra := ra) (b := b) (by omega) with h9 | ⟨d, h1, h2, h3, h4⟩
    · exfalso
      have r0 := h.r_0 h0
      have e0 : gB ra 0 0 = ruledBy fl (nI 0) := by rw [hr.1 0 (by decide), if_pos r0]
      refine h9.2 0 (by decide) (fun z => hb0 z.symm) ?_ ?_
      · rw [e0, ruled_tb, hrb, h.s_z h0]; rfl
      · rw [bc_ct]
        have : fb_ct (tb (gB ra 0 0)) 64 ≤ fb_ct (fun i => decide (i < 19)) 64 := fb_ct_sub fun k hk hz => by
          have := h.r_lt (hx 0 k (by decide) hz).2.1
          exact decide_eq_true (by omega)
        rw [ct_lt 19 64 (by decide)] at this
        exact nI_lt (b := 41) (by omega) (by decide)
    · have h8 := hx d b h1 h4
      refine ⟨d, h.r_lt h8.1, h2, h4, ?_⟩
      cases q : tb (gB ra 0 b) d
      · rfl
      · exfalso
        have e1 : gB ra 0 d = ruledBy fl (nI d) := by rw [hr.1 d h1, if_pos h8.1]
        have e2 : gB ra 0 b = ruledBy fl (nI b) := by rw [hr.1 b (by omega), if_pos hrb]
        rw [e1] at h4
        rw [e2] at q
        exact h.anti h1 (by omega) h3 h4 q
/-- a block dominates itself where it is reached -/
theorem self_ok (h : FL n c E hm fs fr eg fe fl) {ra : Ob} (hr : RK c E fr eg fl ra) {b : Nat} (hb : b < c) : tb (gB ra 0 b) b = tb (gl fl 0) b := by
  have hc := h.c19
  rw [hr.1 b (by omega)]
  by_cases q : tb (gl fl 0) b = true
  · rw [if_pos q, ruled_tb, q, h.s_no (by omega) (by omega)]; rfl
  · rw [if_neg q, tb_0, ts_nt q]
end FLS
/-! ===== Lives: nothing lives where nothing is reached ===== -/
def LV (fl li : Ob) : Prop := ∀ b, b < 40 → tb (gl fl 0) b = false → gA li 0 b = 0
theorem pass_lv {co fl li : Ob} (h : LV fl li) : LV fl (passUp co fl li).1 := by
  unfold passUp
  refine lp_ind (fun _ (p : Ob × Bool) => LV fl p.1) h (fun j p hj h b hb hz => ?_)
  unfold passStep
  generalize gi fl 0 - 1 - nI j = x
  by_cases q : hs (gl fl 0) x = true
  · rw [if_pos q]
    unfold passB
    simp only [gi_sl, gi_sA, gi_sB, gi_si_s, gi_si_n, gl_si, gl_sA, gl_sB, gl_sl_s, gl_sl_n, gA_si, gA_sl, gA_sB, gA_sA_s, gA_sA_n, gB_si, gB_sl, gB_sA, gB_sB_s, gB_sB_n, Nat.reduceBEq]
    rcases ix_case x with hx | ⟨k, hk, rfl⟩
    · rw [wr_neg hx]; exact h b hb hz
    · rcases Nat.lt_or_ge k 40 with hk4 | hk4
      · rw [wr_nI hk4 (by decide)]
        rw [hs_tb _ (by omega)] at q
        have : b ≠ k := fun e => by subst e; rw [hz] at q; cases q
        rw [upd_n _ _ this]; exact h b hb hz
      · rw [wr_out hk4 hk]; exact h b hb hz
  · rw [if_neg q]; exact h b hb hz
theorem follow_lv (co fl li : Ob) : LV fl (follow co fl li) := by
  have h1 : ∀ b, b < 40 → gA (lp liInit 40 li) 0 b = 0 := by
    refine lp_ind (fun i t => ∀ b, b < i → gA t 0 b = 0) (fun b hb => absurd hb (Nat.not_lt_zero b)) (fun i t hi h b hb => ?_)
    unfold liInit
    simp only [gi_sl, gi_sA, gi_sB, gi_si_s, gi_si_n, gl_si, gl_sA, gl_sB, gl_sl_s, gl_sl_n, gA_si, gA_sl, gA_sB, gA_sA_s, gA_sA_n, gB_si, gB_sl, gB_sA, gB_sB_s, gB_sB_n, Nat.reduceBEq]
    rw [wr_nI hi (by decide)]
    by_cases e : b = i
    · subst e; rw [upd_s]
    · rw [upd_n _ _ e]; exact h b (by omega)
  have h2 : LV fl (foP co fl li) := by
    unfold foP
    exact lpW_ind (fun _ (p : Ob × Bool) => LV fl p.1) (fun b hb _ => h1 b hb) (fun i p _ h _ => pass_lv h) (fun i p _ h _ => h)
  unfold follow
  refine lp_ind (fun _ t => LV fl t) ?_ (fun i t hi h b hb hz => ?_)
  · intro b hb hz
    simp only [gi_sl, gi_sA, gi_sB, gi_si_s, gi_si_n, gl_si, gl_sA, gl_sB, gl_sl_s, gl_sl_n, gA_si, gA_sl, gA_sB, gA_sA_s, gA_sA_n, gB_si, gB_sl, gB_sA, gB_sB_s, gB_sB_n, Nat.reduceBEq]
    exact h2 b hb hz
  · unfold foV
    split
    · simp only [gi_sl, gi_sA, gi_sB, gi_si_s, gi_si_n, gl_si, gl_sA, gl_sB, gl_sl_s, gl_sl_n, gA_si, gA_sl, gA_sB, gA_sA_s, gA_sA_n, gB_si, gB_sl, gB_sA, gB_sB_s, gB_sB_n, Nat.reduceBEq]; exact h b hb hz
    · exact h b hb hz
end
section
/-! ===== Reduction ===== -/
def RDI (s : Nat) (fl re : Ob) : Prop :=
  gi re 0 = nI s ∧ (s = 0 → gl re 0 = gl fl 0) ∧
  (∀ b, b < 40 → tb (gl fl 0) b = true → ∃ h, h ≤ b ∧ gA re 0 b = nI h ∧ tb (gl re 0) h = true) ∧
  (∀ b, b < 40 → tb (gl fl 0) b = false → gA re 0 b = -1) ∧
  (∀ k, tb (gl re 0) k = true → tb (gl fl 0) k = true ∧ gA re 0 k = nI k) ∧
  (∀ b, b < 40 → ∀ k, tb (gB re 0 b) k = true → tb (gl re 0) k = true ∨ k = 40)
theorem RDI.cong {s : Nat} {fl re re2 : Ob} (h : RDI s fl re) (e1 : gi re2 0 = gi re 0) (e2 : gl re2 0 = gl re 0) (e3 : gA re2 0 = gA re 0) (e4 : gB re2 0 = gB re 0) : RDI s fl re2 := by
  unfold RDI at *
  rw [e1, e2, e3, e4]; exact h
theorem fnd_yes (p : Nat → Bool) : ∀ n, fnd p n < n → p (fnd p n) = true := by
  intro n
  induction n with
  | zero => intro h; exact absurd h (Nat.not_lt_zero _)
  | succ n ih =>
    intro h
    have e : fnd p (n + 1) = if fnd p n < n then fnd p n else if p n = true then n else n + 1 := rfl
    by_cases q : fnd p n < n
    · rw [if_pos q] at e; rw [e]; exact ih q
    · rw [if_neg q] at e
      by_cases q2 : p n = true
      · rw [if_pos q2] at e; rw [e]; exact q2
      · rw [if_neg q2] at e; omega
theorem fnd_le (p : Nat → Bool) : ∀ n, fnd p n ≤ n := by
  intro n
  induction n with
  | zero => exact Nat.le_refl _
  | succ n ih =>
    have e : fnd p (n + 1) = if fnd p n < n then fnd p n else if p n = true then n else n + 1 := rfl
    rw [e]
    split
    · omega
    · split <;> omega
theorem entries_ok (re : Ob) : gi (findEntries re) 0 = gi re 0 ∧ gl (findEntries re) 0 = gl re 0 ∧ gA (findEntries re) 0 = gA re 0 ∧ gB (findEntries re) 0 = gB re 0 ∧ gA (findEntries re) 3 40 = -1 := by
  have h1 : gi (lp feC 41 re) 0 = gi re 0 ∧ gl (lp feC 41 re) 0 = gl re 0 ∧ gA (lp feC 41 re) 0 = gA re 0 ∧ gB (lp feC 41 re) 0 = gB re 0 ∧ ∀ k, k < 41 → gA (lp feC 41 re) 3 k = -1 := by
    refine lp_ind (fun i t => gi t 0 = gi re 0 ∧ gl t 0 = gl re 0 ∧ gA t 0 = gA re 0 ∧ gB t 0 = gB re 0 ∧ ∀ k, k < i → gA t 3 k = -1) ⟨rfl, rfl, rfl, rfl, fun k hk => absurd hk (Nat.not_lt_zero k)⟩ (fun i t hi h => ?_)
    unfold feC
    simp only [gi_sl, gi_sA, gi_sB, gi_si_s, gi_si_n, gl_si, gl_sA, gl_sB, gl_sl_s, gl_sl_n, gA_si, gA_sl, gA_sB, gA_sA_s, gA_sA_n, gB_si, gB_sl, gB_sA, gB_sB_s, gB_sB_n, Nat.reduceBEq]
    refine ⟨h.1, h.2.1, h.2.2.1, h.2.2.2.1, fun k hk => ?_⟩
    rw [wr_nI hi (by decide)]
    by_cases e : k = i
    · subst e; rw [upd_s]
    · rw [upd_n _ _ e]; exact h.2.2.2.2 k (by omega)
  unfold findEntries
  generalize feOnly re = only
  refine lp_ind (fun i t => gi t 0 = gi re 0 ∧ gl t 0 = gl re 0 ∧ gA t 0 = gA re 0 ∧ gB t 0 = gB re 0 ∧ gA t 3 40 = -1) ⟨h1.1, h1.2.1, h1.2.2.1, h1.2.2.2.1, h1.2.2.2.2 40 (by decide)⟩ (fun i t hi h => ?_)
  unfold feN
  refine lp_ind (fun _ t => gi t 0 = gi re 0 ∧ gl t 0 = gl re 0 ∧ gA t 0 = gA re 0 ∧ gB t 0 = gB re 0 ∧ gA t 3 40 = -1) h (fun j t hj h => ?_)
  unfold feB
  split
  · simp only [gi_sl, gi_sA, gi_sB, gi_si_s, gi_si_n, gl_si, gl_sA, gl_sB, gl_sl_s, gl_sl_n, gA_si, gA_sl, gA_sB, gA_sA_s, gA_sA_n, gB_si, gB_sl, gB_sA, gB_sB_s, gB_sB_n, Nat.reduceBEq]
    refine ⟨h.1, h.2.1, h.2.2.1, h.2.2.2.1, ?_⟩
    rw [wr_nI (by omega) (by decide), upd_n _ _ (by omega)]
    exact h.2.2.2.2
  · exact h
/-- merging: members are nodes -/
theorem merge_ok {s p : Nat} {fl re : Ob} {M : Int64} {ci : Bool} (hs0 : s ≠ 0) (hrc : ∀ k, tb (gl fl 0) k = true → k < 40) (h : RDI s fl re) (hM : ∀ k, tb M k = true → tb (gl re 0) k = true) (hp : p < 40) (hMp : tb M p = true) (hlow : ∀ j, j < p → tb M j = false) : RDI s fl (merge re M (nI p) ci) := by
  obtain ⟨h1, h2, h3, h4, h5, h6⟩ := h
  have hpn := hM p hMp
  have hA := lp_ind (f := mgA M) (n := 40) (s := (re, (0 : Int64))) (fun _ q => gi q.1 0 = nI s ∧ gl q.1 0 = gl re 0 ∧ gA q.1 0 = gA re 0 ∧ (∀ b, b < 40 → ∀ k, tb (gB q.1 0 b) k = true → tb (gl re 0) k = true ∨ k = 40) ∧ (∀ k, tb q.2 k = true → tb (gl re 0) k = true ∨ k = 40))
    ⟨h1, rfl, rfl, h6, fun k hk => by rw [tb_0] at hk; cases hk⟩ (fun i q hi hq => by
      unfold mgA
      split
      · simp only [gi_sl, gi_sA, gi_sB, gi_si_s, gi_si_n, gl_si, gl_sA, gl_sB, gl_sl_s, gl_sl_n, gA_si, gA_sl, gA_sB, gA_sA_s, gA_sA_n, gB_si, gB_sl, gB_sA, gB_sB_s, gB_sB_n, Nat.reduceBEq]
        rw [wrL_nI hi (by decide), rdL_nI hi (by decide)]
        refine ⟨hq.1, hq.2.1, hq.2.2.1, fun b hb k hk => ?_, fun k hk => ?_⟩
        · by_cases e : b = i
          · subst e; rw [updL_s, tb_0] at hk; cases hk
          · rw [updL_n _ _ e] at hk; exact hq.2.2.2.1 b hb k hk
        · rw [tb_or] at hk
          rcases Bool.or_eq_true_iff.mp hk with z | z
          · exact hq.2.2.2.2 k z
          · exact hq.2.2.2.1 i hi k z
      · exact hq)
  unfold merge
  generalize lp (mgA M) 40 (re, (0 : Int64)) = q at hA
  obtain ⟨a1, a2, a3, a4, a5⟩ := hA
  have hN : ∀ k, tb ((gl re 0 &&& (M ^^^ (-1))) ||| bitL (nI p)) k = ((tb (gl re 0) k && !tb M k) || decide (k = p)) := fun k => by rw [tb_or, tb_sub, tb_bit (by omega)]
  generalize hNN : (gl re 0 &&& (M ^^^ (-1))) ||| bitL (nI p) = N at hN
  have hNsub : ∀ k, tb N k = true → tb (gl re 0) k = true := fun k hk => by
    rw [hN] at hk
    rcases Bool.or_eq_true_iff.mp hk with z | z
    · cases q2 : tb (gl re 0) k
      · rw [q2] at z; cases z
      · rfl
    · rw [of_decide_eq_true z]; exact hpn
  have hin : ∀ k, tb (gl re 0) k = true → tb M k = false → tb N k = true := fun k z1 z2 => by rw [hN, z1, z2]; rfl
  have hNp : tb N p = true := by rw [hN, decide_eq_true rfl, Bool.or_true]
  have hB : RDI s fl (mgN q M (nI p) ci) ∨ True := Or.inr trivial
  have b0 : gi (mgN q M (nI p) ci) 0 = nI s ∧ gl (mgN q M (nI p) ci) 0 = N ∧ gA (mgN q M (nI p) ci) 0 = gA re 0 ∧ (∀ b, b < 40 → ∀ k, tb (gB (mgN q M (nI p) ci) 0 b) k = true → tb (gl re 0) k = true ∨ k = 40) := by
    unfold mgN
    simp only [gi_sl, gi_sA, gi_sB, gi_si_s, gi_si_n, gl_si, gl_sA, gl_sB, gl_sl_s, gl_sl_n, gA_si, gA_sl, gA_sB, gA_sA_s, gA_sA_n, gB_si, gB_sl, gB_sA, gB_sB_s, gB_sB_n, Nat.reduceBEq]
    rw [wrL_nI hp (by decide), a2, hNN]
    refine ⟨a1, rfl, a3, fun b hb k hk => ?_⟩
    by_cases e : b = p
    · subst e
      rw [updL_s, tb_or] at hk
      rcases Bool.or_eq_true_iff.mp hk with z | z
      · rw [tb_sub] at z
        cases q2 : tb q.2 k
        · rw [q2] at z; cases z
        · exact a5 k q2
      · cases ci
        · rw [if_neg (by decide), tb_0] at z; cases z
        · rw [if_pos rfl, tb_bit (by omega)] at z
          rw [of_decide_eq_true z]; exact Or.inl hpn
    · rw [updL_n _ _ e] at hk; exact a4 b hb k hk
  generalize mgN q M (nI p) ci = r0 at b0
  have key := lp_ind (f := mgB M (nI p)) (n := 40) (s := r0) (fun i t => gi t 0 = nI s ∧ gl t 0 = N ∧ (∀ b, b < 40 → ∀ k, tb (gB t 0 b) k = true → tb (gl re 0) k = true ∨ k = 40) ∧ (∀ b, b < i → ∀ k, tb (gB t 0 b) k = true → tb N k = true ∨ k = 40) ∧ (∀ b, i ≤ b → gA t 0 b = gA re 0 b) ∧ (∀ b, b < i → gA t 0 b = if gA re 0 b < 0 then gA re 0 b else if hs M (gA re 0 b) = true then nI p else gA re 0 b))
    ⟨b0.1, b0.2.1, b0.2.2.2, fun b hb => absurd hb (Nat.not_lt_zero b), fun b _ => by rw [b0.2.2.1], fun b hb => absurd hb (Nat.not_lt_zero b)⟩ (fun i t hi ht => by
      obtain ⟨c1, c2, c3, c4, c5, c6⟩ := ht
      have d : gi (mgC M (nI p) i t) 0 = nI s ∧ gl (mgC M (nI p) i t) 0 = N ∧ gA (mgC M (nI p) i t) 0 = gA t 0 ∧ (∀ b, b < 40 → ∀ k, tb (gB (mgC M (nI p) i t) 0 b) k = true → tb (gl re 0) k = true ∨ k = 40) ∧ (∀ b, b < i + 1 → ∀ k, tb (gB (mgC M (nI p) i t) 0 b) k = true → tb N k = true ∨ k = 40) := by
        unfold mgC
        rw [rdL_nI hi (by decide)]
        by_cases e : (gB t 0 i &&& M) = 0
        · rw [if_pos e]
          refine ⟨c1, c2, rfl, c3, fun b hb k hk => ?_⟩
          by_cases q2 : b = i
          · subst q2
            have : tb M k = false := by
              cases q3 : tb M k
              · rfl
              · have q4 : tb (gB t 0 b &&& M) k = true := by rw [tb_and, hk, q3]; rfl
                rw [e, tb_0] at q4; cases q4
            rcases c3 b hi k hk with z | z
            · exact Or.inl (hin k z this)
            · exact Or.inr z
          · exact c4 b (by omega) k hk
        · rw [if_neg e, wrL_nI hi (by decide)]
          simp only [gi_sl, gi_sA, gi_sB, gi_si_s, gi_si_n, gl_si, gl_sA, gl_sB, gl_sl_s, gl_sl_n, gA_si, gA_sl, gA_sB, gA_sA_s, gA_sA_n, gB_si, gB_sl, gB_sA, gB_sB_s, gB_sB_n, Nat.reduceBEq]
          have f : ∀ k, tb ((gB t 0 i &&& (M ^^^ (-1))) ||| bitL (nI p)) k = true → tb N k = true ∨ k = 40 := fun k hk => by
            rw [tb_or, tb_sub, tb_bit (by omega)] at hk
            rcases Bool.or_eq_true_iff.mp hk with z | z
            · cases q2 : tb (gB t 0 i) k <;> cases q3 : tb M k <;> rw [q2, q3] at z <;> try cases z
              rcases c3 i hi k q2 with y | y
              · exact Or.inl (hin k y q3)
              · exact Or.inr y
            · rw [of_decide_eq_true z]; exact Or.inl hNp
          refine ⟨c1, c2, trivial, fun b hb k hk => ?_, fun b hb k hk => ?_⟩
          · by_cases q2 : b = i
            · subst q2
              rw [updL_s] at hk
              rcases f k hk with z | z
              · exact Or.inl (hNsub k z)
              · exact Or.inr z
            · rw [updL_n _ _ q2] at hk; exact c3 b hb k hk
          · by_cases q2 : b = i
            · subst q2; rw [updL_s] at hk; exact f k hk
            · rw [updL_n _ _ q2] at hk; exact c4 b (by omega) k hk
      unfold mgB
      generalize mgC M (nI p) i t = u at d
      obtain ⟨d1, d2, d3, d4, d5⟩ := d
      have e5 : gA u 0 i = gA re 0 i := by rw [d3]; exact c5 i (Nat.le_refl i)
      unfold mgD
      rw [rd_nI hi (by decide), e5]
      by_cases q1 : gA re 0 i < 0
      · rw [if_pos q1]
        refine ⟨d1, d2, d4, d5, fun b hb => by rw [d3]; exact c5 b (by omega), fun b hb => ?_⟩
        by_cases q2 : b = i
        · subst q2; rw [if_pos q1, e5]
        · rw [d3]; exact c6 b (by omega)
      · rw [if_neg q1]
        by_cases q3 : hs M (gA re 0 i) = true
        · rw [if_pos q3]
          simp only [gi_sl, gi_sA, gi_sB, gi_si_s, gi_si_n, gl_si, gl_sA, gl_sB, gl_sl_s, gl_sl_n, gA_si, gA_sl, gA_sB, gA_sA_s, gA_sA_n, gB_si, gB_sl, gB_sA, gB_sB_s, gB_sB_n, Nat.reduceBEq]
          rw [wr_nI hi (by decide)]
          refine ⟨d1, d2, d4, d5, fun b hb => ?_, fun b hb => ?_⟩
          · rw [upd_n _ _ (by omega), d3]; exact c5 b (by omega)
          · by_cases q2 : b = i
            · subst q2; rw [upd_s, if_neg q1, if_pos q3]
            · rw [upd_n _ _ q2, d3]; exact c6 b (by omega)
        · rw [if_neg q3]
          refine ⟨d1, d2, d4, d5, fun b hb => by rw [d3]; exact c5 b (by omega), fun b hb => ?_⟩
          by_cases q2 : b = i
          · subst q2; rw [if_neg q1, if_neg q3, e5]
          · rw [d3]; exact c6 b (by omega))
  generalize lp (mgB M (nI p)) 40 r0 = t at key
  obtain ⟨c1, c2, -, c4, -, c6⟩ := key
  refine ⟨c1, fun z => absurd z hs0, fun b hb hr => ?_, fun b hb hr => ?_, fun k hk => ?_, fun b hb k hk => ?_⟩
  · obtain ⟨x, x1, x2, x3⟩ := h3 b hb hr
    rw [c6 b hb, x2, c2, if_neg (nI_pos (by omega)), hs_tb _ (by omega)]
    by_cases q2 : tb M x = true
    · rw [if_pos q2]
      refine ⟨p, ?_, rfl, hNp⟩
      rcases Nat.lt_or_ge x p with z | z
      · rw [hlow x z] at q2; cases q2
      · omega
    · rw [if_neg q2]
      exact ⟨x, x1, rfl, hin x x3 (ts_nt q2)⟩
  · rw [c6 b hb, h4 b hb hr, if_pos (by decide)]
  · rw [c2] at hk
    have z1 := h5 k (hNsub k hk)
    have z2 := hrc k z1.1
    refine ⟨z1.1, ?_⟩
    rw [c6 k z2, z1.2, if_neg (nI_pos (by omega)), hs_tb _ (by omega)]
    by_cases q2 : tb M k = true
    · rw [if_pos q2]
      rw [hN, q2] at hk
      simp at hk
      rw [hk]
    · rw [if_neg q2]
  · rw [c2]; exact c4 b hb k hk
theorem n1i {n : Nat} (h : n < 2 ^ 31) : nI n ≠ -1 := fun z => nI_pos h (by rw [z]; decide)
/-- a rule, applied to a node -/
theorem apply_ok {s a : Nat} {fl re : Ob} (hs0 : s ≠ 0) (hrc : ∀ k, tb (gl fl 0) k = true → k < 40) (h : RDI s fl re) (he : gA re 3 40 = -1) (hn : tb (gl re 0) a = true) (hf : ruleFor re (nI a) ≠ -1) : RDI s fl (apply re (ruleFor re (nI a)) (nI a)) := by
  have ha : a < 40 := hrc a (h.2.2.2.2.1 a hn).1
  have hout := h.2.2.2.2.2 a ha
  have hbits : ∀ k, tb (gB re 0 a) k = true → k ≤ 40 := fun k hk => by
    rcases hout k hk with z | z
    · have := hrc k (h.2.2.2.2.1 k z).1; omega
    · omega
  have hent : ∀ k, k ≤ 40 → rd (gA re 3) 41 (nI k) = nI a → k ≠ 40 := fun k hk z q => by
    subst q
    rw [rd_nI (by decide) (by decide), he] at z
    exact n1i (by omega) z.symm
  have fin : ∀ (M : Int64) (ci : Bool), tb M a = true → (∀ k, tb M k = true → tb (gl re 0) k = true) → RDI s fl (merge re M (lowest M) ci) := fun M ci h1 h2 => by
    obtain ⟨p, hp, hl, hb, hlo⟩ := low_bit (tb_ne h1)
    rw [hl]
    have := hrc p (h.2.2.2.2.1 p (h2 p hb)).1
    exact merge_ok hs0 hrc h h2 this hb hlo
  revert hf
  unfold ruleFor
  rw [rdL_nI ha (by decide), hs_tb _ (by omega)]
  by_cases q0 : tb (gB re 0 a) a = true
  · rw [if_pos q0]
    intro _
    unfold apply
    rw [if_pos rfl, rdL_nI ha (by decide), wrL_nI ha (by decide)]
    obtain ⟨h1, h2, h3, h4, h5, h6⟩ := h
    refine ⟨?_, ?_, ?_, ?_, ?_, fun b hb k hk => ?_⟩
    · simp only [gi_sl, gi_sA, gi_sB, gi_si_s, gi_si_n, gl_si, gl_sA, gl_sB, gl_sl_s, gl_sl_n, gA_si, gA_sl, gA_sB, gA_sA_s, gA_sA_n, gB_si, gB_sl, gB_sA, gB_sB_s, gB_sB_n, Nat.reduceBEq]; exact h1
    · simp only [gi_sl, gi_sA, gi_sB, gi_si_s, gi_si_n, gl_si, gl_sA, gl_sB, gl_sl_s, gl_sl_n, gA_si, gA_sl, gA_sB, gA_sA_s, gA_sA_n, gB_si, gB_sl, gB_sA, gB_sB_s, gB_sB_n, Nat.reduceBEq]; exact h2
    · simp only [gi_sl, gi_sA, gi_sB, gi_si_s, gi_si_n, gl_si, gl_sA, gl_sB, gl_sl_s, gl_sl_n, gA_si, gA_sl, gA_sB, gA_sA_s, gA_sA_n, gB_si, gB_sl, gB_sA, gB_sB_s, gB_sB_n, Nat.reduceBEq]; exact h3
    · simp only [gi_sl, gi_sA, gi_sB, gi_si_s, gi_si_n, gl_si, gl_sA, gl_sB, gl_sl_s, gl_sl_n, gA_si, gA_sl, gA_sB, gA_sA_s, gA_sA_n, gB_si, gB_sl, gB_sA, gB_sB_s, gB_sB_n, Nat.reduceBEq]; exact h4
    · simp only [gi_sl, gi_sA, gi_sB, gi_si_s, gi_si_n, gl_si, gl_sA, gl_sB, gl_sl_s, gl_sl_n, gA_si, gA_sl, gA_sB, gA_sA_s, gA_sA_n, gB_si, gB_sl, gB_sA, gB_sB_s, gB_sB_n, Nat.reduceBEq]; exact h5
    · simp only [gi_sl, gi_sA, gi_sB, gi_si_s, gi_si_n, gl_si, gl_sA, gl_sB, gl_sl_s, gl_sl_n, gA_si, gA_sl, gA_sB, gA_sA_s, gA_sA_n, gB_si, gB_sl, gB_sA, gB_sB_s, gB_sB_n, Nat.reduceBEq] at hk ⊢
      by_cases e : b = a
      · subst e
        rw [updL_s, tb_sub] at hk
        cases q2 : tb (gB re 0 b) k
        · rw [q2] at hk; cases hk
        · exact h6 b hb k q2
      · rw [updL_n _ _ e] at hk; exact h6 b hb k hk
  · rw [if_neg q0]
    have hna : ∀ k, tb (gB re 0 a) k = true → k ≠ a := fun k hk e => by subst e; exact q0 hk
    by_cases q1 : bc (gB re 0 a) = 1
    · rw [if_pos q1]
      obtain ⟨k, hk64, hl, hk⟩ := bc_one q1
      have hkk : tb (gB re 0 a) k = true := by rw [hk, decide_eq_true rfl]
      rw [hl]
      by_cases q2 : rd (gA re 3) 41 (nI k) = nI a
      · rw [if_pos q2]
        intro _
        unfold apply
        rw [if_neg (by decide)]
        refine fin _ _ ?_ (fun j hj => ?_)
        · unfold apM
          rw [if_neg (by decide), tb_or, tb_bit (by omega), decide_eq_true rfl, Bool.true_or]
        · unfold apM at hj
          rw [if_neg (by decide), rdL_nI ha (by decide), tb_or, tb_bit (by omega)] at hj
          rcases Bool.or_eq_true_iff.mp hj with z | z
          · rw [of_decide_eq_true z]; exact hn
          · rw [hk] at z
            have : j = k := of_decide_eq_true z
            subst this
            rcases hout j hkk with y | y
            · exact y
            · exact absurd y (hent j (hbits j hkk) q2)
      · rw [if_neg q2]; exact fun z => absurd rfl z
    · rw [if_neg q1]
      by_cases q2 : bc (gB re 0 a) = 2
      · rw [if_pos q2]
        obtain ⟨k, m, hk64, hm64, hkm, hl, hc, hk⟩ := bc_two q2
        have hkk : tb (gB re 0 a) k = true := by rw [hk, decide_eq_true rfl, Bool.true_or]
        have hmm : tb (gB re 0 a) m = true := by rw [hk, decide_eq_true (p := m = m) rfl, Bool.or_true]
        have nk : k ≠ 40 → tb (gl re 0) k = true := fun z => (hout k hkk).resolve_right z
        have nm : m ≠ 40 → tb (gl re 0) m = true := fun z => (hout m hmm).resolve_right z
        rw [hl, hc]
        unfold ruleTwo
        by_cases q3 : isSingle re (nI a) (nI k) (nI m) = true
        · rw [if_pos q3]
          intro _
          have k40 : k ≠ 40 := by
            unfold isSingle at q3
            exact hent k (hbits k hkk) (of_decide_eq_true (Bool.and_eq_true_iff.mp q3).1)
          unfold apply
          rw [if_neg (by decide), rdL_nI ha (by decide)]
          unfold apM
          rw [if_pos rfl, hl, hc, if_pos q3]
          refine fin _ _ ?_ (fun j hj => ?_)
          · rw [tb_sub, tb_or, tb_bit (by omega), tb_bit hm64, decide_eq_true rfl, decide_eq_false (fun z => hna m hmm z.symm)]; rfl
          · rw [tb_sub, tb_or, tb_bit (by omega), tb_bit hm64, hk] at hj
            by_cases w : j = a
            · rw [w]; exact hn
            · by_cases w2 : j = k
              · rw [w2]; exact nk k40
              · by_cases w3 : j = m
                · rw [decide_eq_true w3, Bool.not_true, Bool.and_false] at hj; cases hj
                · rw [decide_eq_false w, decide_eq_false w2, decide_eq_false w3] at hj; cases hj
        · rw [if_neg q3]
          by_cases q4 : isSingle re (nI a) (nI m) (nI k) = true
          · rw [if_pos q4]
            intro _
            have m40 : m ≠ 40 := by
              unfold isSingle at q4
              exact hent m (hbits m hmm) (of_decide_eq_true (Bool.and_eq_true_iff.mp q4).1)
            unfold apply
            rw [if_neg (by decide), rdL_nI ha (by decide)]
            unfold apM
            rw [if_pos rfl, hl, hc, if_neg q3]
            refine fin _ _ ?_ (fun j hj => ?_)
            · rw [tb_sub, tb_or, tb_bit (by omega), tb_bit hk64, decide_eq_true rfl, decide_eq_false (fun z => hna k hkk z.symm)]; rfl
            · rw [tb_sub, tb_or, tb_bit (by omega), tb_bit hk64, hk] at hj
              by_cases w : j = a
              · rw [w]; exact hn
              · by_cases w2 : j = m
                · rw [w2]; exact nm m40
                · by_cases w3 : j = k
                  · rw [decide_eq_true w3, Bool.not_true, Bool.and_false] at hj; cases hj
                  · rw [decide_eq_false w, decide_eq_false w2, decide_eq_false w3] at hj; cases hj
          · rw [if_neg q4]
            by_cases q5 : isDouble re (nI a) (nI k) (nI m) = true
            · rw [if_pos q5]
              intro _
              unfold isDouble at q5
              have z1 := Bool.and_eq_true_iff.mp q5
              have z2 := Bool.and_eq_true_iff.mp z1.2
              have k40 : k ≠ 40 := hent k (hbits k hkk) (of_decide_eq_true z1.1)
              have m40 : m ≠ 40 := hent m (hbits m hmm) (of_decide_eq_true z2.1)
              unfold apply
              rw [if_neg (by decide), rdL_nI ha (by decide)]
              unfold apM
              rw [if_neg (by decide)]
              refine fin _ _ ?_ (fun j hj => ?_)
              · rw [tb_or, tb_bit (by omega), decide_eq_true rfl, Bool.true_or]
              · rw [tb_or, tb_bit (by omega), hk] at hj
                by_cases w : j = a
                · rw [w]; exact hn
                · by_cases w2 : j = m
                  · rw [w2]; exact nm m40
                  · by_cases w3 : j = k
                    · rw [w3]; exact nk k40
                    · rw [decide_eq_false w, decide_eq_false w2, decide_eq_false w3] at hj; cases hj
            · rw [if_neg q5]; exact fun z => absurd rfl z
      · rw [if_neg q2]; exact fun z => absurd rfl z
theorem rule_ts (r : Ob) (k : Nat) : ruleFor (tsPut r k) (nI k) = ruleFor r (nI k) := by
  have e1 : gB (tsPut r k) 0 = gB r 0 := by unfold tsPut; simp only [gi_sl, gi_sA, gi_sB, gi_si_s, gi_si_n, gl_si, gl_sA, gl_sB, gl_sl_s, gl_sl_n, gA_si, gA_sl, gA_sB, gA_sA_s, gA_sA_n, gB_si, gB_sl, gB_sA, gB_sB_s, gB_sB_n, Nat.reduceBEq]
  have e2 : gA (tsPut r k) 3 = gA r 3 := by unfold tsPut; simp only [gi_sl, gi_sA, gi_sB, gi_si_s, gi_si_n, gl_si, gl_sA, gl_sB, gl_sl_s, gl_sl_n, gA_si, gA_sl, gA_sB, gA_sA_s, gA_sA_n, gB_si, gB_sl, gB_sA, gB_sB_s, gB_sB_n, Nat.reduceBEq]
  unfold ruleFor ruleTwo isSingle isDouble
  rw [e1, e2]
theorem take_ok {s : Nat} {fl re : Ob} (hrc : ∀ k, tb (gl fl 0) k = true → k < 40) (h : RDI s fl re) : ∃ s2, s2 ≤ s + 1 ∧ RDI s2 fl (takeStep re).1 := by
  unfold takeStep
  obtain ⟨e1, e2, e3, e4, e5⟩ := entries_ok re
  have h2 := h.cong e1 e2 e3 e4
  generalize findEntries re = r at h2 e5
  unfold takeF
  by_cases q : fnd (isFound r) 40 < 40
  · rw [if_pos q]
    have hy := fnd_yes (isFound r) 40 q
    generalize fnd (isFound r) 40 = k at q hy
    have hy2 : ¬ foundAt r k = -1 := by unfold isFound at hy; exact of_decide_eq_true hy
    have hn : tb (gl r 0) k = true := by
      unfold foundAt at hy2
      by_cases z : hs (gl r 0) (nI k) = true
      · rwa [hs_tb _ (by omega)] at z
      · rw [if_neg z] at hy2; exact absurd rfl hy2
    have hfo : foundAt r k = ruleFor r (nI k) := by
      unfold foundAt
      rw [hs_tb _ (by omega), if_pos hn]
    refine ⟨s + 1, Nat.le_refl _, ?_⟩
    show RDI (s + 1) fl (apply (tsPut r k) (foundAt r k) (nI k))
    rw [hfo, ← rule_ts r k]
    have ht : RDI (s + 1) fl (tsPut r k) := by
      unfold tsPut
      obtain ⟨h1, -, h3⟩ := h2
      refine ⟨?_, fun z => absurd z (by omega), ?_⟩
      · simp only [gi_sl, gi_sA, gi_sB, gi_si_s, gi_si_n, gl_si, gl_sA, gl_sB, gl_sl_s, gl_sl_n, gA_si, gA_sl, gA_sB, gA_sA_s, gA_sA_n, gB_si, gB_sl, gB_sA, gB_sB_s, gB_sB_n, Nat.reduceBEq]; rw [h1, nI_1]
      · simp only [gi_sl, gi_sA, gi_sB, gi_si_s, gi_si_n, gl_si, gl_sA, gl_sB, gl_sl_s, gl_sl_n, gA_si, gA_sl, gA_sB, gA_sA_s, gA_sA_n, gB_si, gB_sl, gB_sA, gB_sB_s, gB_sB_n, Nat.reduceBEq]; exact h3
    refine apply_ok (by omega) hrc ht ?_ ?_ ?_
    · unfold tsPut; simp only [gi_sl, gi_sA, gi_sB, gi_si_s, gi_si_n, gl_si, gl_sA, gl_sB, gl_sl_s, gl_sl_n, gA_si, gA_sl, gA_sB, gA_sA_s, gA_sA_n, gB_si, gB_sl, gB_sA, gB_sB_s, gB_sB_n, Nat.reduceBEq]; exact e5
    · unfold tsPut; simp only [gi_sl, gi_sA, gi_sB, gi_si_s, gi_si_n, gl_si, gl_sA, gl_sB, gl_sl_s, gl_sl_n, gA_si, gA_sl, gA_sB, gA_sA_s, gA_sA_n, gB_si, gB_sl, gB_sA, gB_sB_s, gB_sB_n, Nat.reduceBEq]; exact hn
    · rw [rule_ts, ← hfo]; exact hy2
  · rw [if_neg q]
    exact ⟨s, by omega, h2⟩
theorem reduce_ok {n c E : Nat} {hm fs fr eg fe : Nat → Nat} {fl : Ob} (h : FL n c E hm fs fr eg fe fl) (re : Ob) : ∃ s, s ≤ 120 ∧ RDI s fl (reduce fl re) := by
  have hc := h.c19
  have hrc : ∀ k, tb (gl fl 0) k = true → k < 40 := fun k hk => by have := h.r_lt hk; omega
  have h0 : RDI 0 fl (lp (reInit fl) 40 (si (sl re 0 (gl fl 0)) 0 0)) := by
    have key := lp_ind (f := reInit fl) (n := 40) (s := si (sl re 0 (gl fl 0)) 0 0) (fun i t => gi t 0 = nI 0 ∧ gl t 0 = gl fl 0 ∧ (∀ b, b < i → gA t 0 b = (if tb (gl fl 0) b = true then nI b else -1) ∧ gB t 0 b = (if tb (gl fl 0) b = true then gB fl 0 b else 0)))
      ⟨by simp only [gi_sl, gi_sA, gi_sB, gi_si_s, gi_si_n, gl_si, gl_sA, gl_sB, gl_sl_s, gl_sl_n, gA_si, gA_sl, gA_sB, gA_sA_s, gA_sA_n, gB_si, gB_sl, gB_sA, gB_sB_s, gB_sB_n, Nat.reduceBEq]; rfl, by simp only [gi_sl, gi_sA, gi_sB, gi_si_s, gi_si_n, gl_si, gl_sA, gl_sB, gl_sl_s, gl_sl_n, gA_si, gA_sl, gA_sB, gA_sA_s, gA_sA_n, gB_si, gB_sl, gB_sA, gB_sB_s, gB_sB_n, Nat.reduceBEq], fun b hb => absurd hb (Nat.not_lt_zero b)⟩ (fun i t hi ht => by
        unfold reInit
        simp only [gi_sl, gi_sA, gi_sB, gi_si_s, gi_si_n, gl_si, gl_sA, gl_sB, gl_sl_s, gl_sl_n, gA_si, gA_sl, gA_sB, gA_sA_s, gA_sA_n, gB_si, gB_sl, gB_sA, gB_sB_s, gB_sB_n, Nat.reduceBEq]
        rw [ht.2.1, hs_tb _ (by omega), rdL_nI hi (by decide), wrL_nI hi (by decide), wr_nI hi (by decide)]
        refine ⟨ht.1, rfl, fun b hb => ?_⟩
        by_cases e : b = i
        · subst e; rw [upd_s, updL_s]; exact ⟨rfl, rfl⟩
        · rw [upd_n _ _ e, updL_n _ _ e]; exact ht.2.2 b (by omega))
    obtain ⟨k1, k2, k3⟩ := key
    refine ⟨k1, fun _ => k2, fun b hb hr => ?_, fun b hb hr => ?_, fun k hk => ?_, fun b hb k hk => ?_⟩
    · exact ⟨b, Nat.le_refl b, by rw [(k3 b hb).1, if_pos hr], by rw [k2]; exact hr⟩
    · rw [(k3 b hb).1, if_neg (by rw [hr]; decide)]
    · rw [k2] at hk
      exact ⟨hk, by rw [(k3 k (hrc k hk)).1, if_pos hk]⟩
    · rw [(k3 b hb).2] at hk
      by_cases q : tb (gl fl 0) b = true
      · rw [if_pos q] at hk
        rw [k2]
        by_cases q2 : k = 40
        · exact Or.inr q2
        · exact Or.inl (h.r_go q hk q2)
      · rw [if_neg q, tb_0] at hk; cases hk
  unfold reduce
  refine lpW_ind (c := fun p : Ob × Bool => p.2) (f := fun p => takeStep p.1) (fun i (p : Ob × Bool) => ∃ s, s ≤ i ∧ RDI s fl p.1) ⟨0, Nat.le_refl 0, h0⟩ (fun i p hi h _ => ?_) (fun i p hi h _ => ?_)
  · obtain ⟨s, hs, h⟩ := h
    obtain ⟨s2, h2, h3⟩ := take_ok hrc h
    exact ⟨s2, by omega, h3⟩
  · obtain ⟨s, hs, h⟩ := h
    exact ⟨s, by omega, h⟩
end
section
/-! ===== Walk: the way through the graph ===== -/
def FIN (sn so : Nat → Bool) (b : Nat) : Prop := sn b = true ∧ so b = false
def ORD (m : Nat) (sn so : Nat → Bool) (st ft : Nat → Nat) (u l : Nat) : Prop := (FIN sn so l ∧ (FIN sn so u → ft l < ft u)) ∨ (∃ i j, i < j ∧ j < m ∧ st i = u ∧ st j = l)
def EDG (fl : Ob) (m : Nat) (sn so : Nat → Bool) (st ft : Nat → Nat) (f g : Nat) (u l : Int32) : Prop :=
  (u = nI f ∧ l = nI g ∧ tb (Sp fl g) f = true ∧ ORD m sn so st ft f g) ∨ (u = nI g ∧ l = nI f ∧ ORD m sn so st ft g f)
def DF (E : Nat) (fr eg fe : Nat → Nat) (fl : Ob) (m cc T : Nat) (sn so : Nat → Bool) (st ca ep ft : Nat → Nat) (up lo : Nat → Int32) : Prop :=
  ((∀ i j, i < j → j < cc → ca i ≠ ca j) ∧ (∀ k, sn k = true ↔ ∃ i, i < cc ∧ ca i = k)) ∧
  ((∀ i j, i < j → j < m → st i ≠ st j) ∧ (∀ k, so k = true ↔ ∃ i, i < m ∧ st i = k) ∧ (∀ k, so k = true → sn k = true)) ∧
  (∀ k, sn k = true → tb (gl fl 0) k = true) ∧
  ((0 < m → st 0 = 0) ∧ ∀ i, i + 1 < m → tb (gB fl 0 (st i)) (st (i + 1)) = true) ∧
  (∀ b, sn b = true → fe b ≤ ep b ∧ ep b ≤ fe (b + 1) ∧ (so b = false → ep b = fe (b + 1))) ∧
  (∀ e, e < E → (sn (fr e) = true → e < ep (fr e) → eg e ≠ 40 → sn (eg e) = true ∧ (eg e ≠ fr e → EDG fl m sn so st ft (fr e) (eg e) (up e) (lo e))) ∧ (¬ (sn (fr e) = true ∧ e < ep (fr e) ∧ eg e ≠ 40 ∧ eg e ≠ fr e) → up e = -1)) ∧
  ((∀ b, FIN sn so b → ft b < T) ∧ T + m = cc) ∧ sn 0 = true
theorem DF.leave {E : Nat} {fr eg fe : Nat → Nat} {fl : Ob} {m cc T : Nat} {sn so : Nat → Bool} {st ca ep ft : Nat → Nat} {up lo : Nat → Int32} (h : DF E fr eg fe fl (m + 1) cc T sn so st ca ep ft up lo) (hx : ep (st m) = fe (st m + 1)) :
    DF E fr eg fe fl m cc (T + 1) sn (fun k => so k && !decide (k = st m)) st ca ep (va_up ft (st m) T) up lo := by
  obtain ⟨h1, ⟨h2a, h2b, h2c⟩, h3, h4, h5, h6, ⟨h7a, h7b⟩, h8⟩ := h
  have hsx : so (st m) = true := (h2b _).mpr ⟨m, by omega, rfl⟩
  have hfin : ∀ b, FIN sn (fun k => so k && !decide (k = st m)) b → b ≠ st m → FIN sn so b := fun b hb hne => by
    refine ⟨hb.1, ?_⟩
    have := hb.2
    simp only [decide_eq_false hne, Bool.not_false, Bool.and_true] at this
    exact this
  have hfin2 : ∀ b, FIN sn so b → FIN sn (fun k => so k && !decide (k = st m)) b ∧ b ≠ st m := fun b hb => by
    refine ⟨⟨hb.1, ?_⟩, fun z => ?_⟩
    · show (so b && !decide (b = st m)) = false
      rw [hb.2]; rfl
    · have h9 := hb.2
      rw [z, hsx] at h9; cases h9
  have hord : ∀ u l, ORD (m + 1) sn so st ft u l → ORD m sn (fun k => so k && !decide (k = st m)) st (va_up ft (st m) T) u l := fun u l ho => by
    rcases ho with ⟨o1, o2⟩ | ⟨i, j, o1, o2, o3, o4⟩
    · left
      have := hfin2 l o1
      refine ⟨this.1, fun hu => ?_⟩
      rw [va_up_ne _ _ this.2]
      by_cases q : u = st m
      · rw [q, va_up_self]; exact h7a l o1
      · rw [va_up_ne _ _ q]; exact o2 (hfin u hu q)
    · by_cases q : j = m
      · left
        subst q
        have hl : so l = true := (h2b l).mpr ⟨j, by omega, o4⟩
        have hu : so u = true := (h2b u).mpr ⟨i, by omega, o3⟩
        have hne : u ≠ st j := by rw [← o3]; exact h2a i j o1 (by omega)
        refine ⟨⟨h2c l hl, ?_⟩, fun hz => ?_⟩
        · show (so l && !decide (l = st j)) = false
          rw [decide_eq_true o4.symm, Bool.not_true, Bool.and_false]
        · have := (hfin u hz hne).2
          rw [hu] at this; cases this
      · exact Or.inr ⟨i, j, o1, by omega, o3, o4⟩
  refine ⟨h1, ⟨fun i j hij hj => h2a i j hij (by omega), fun k => ?_, fun k hk => h2c k (Bool.and_eq_true_iff.mp hk).1⟩, h3, ⟨fun _ => h4.1 (by omega), fun i hi => h4.2 i (by omega)⟩, fun b hb => ?_, fun e he => ?_, ⟨fun b hb => ?_, by omega⟩, h8⟩
  · show (so k && !decide (k = st m)) = true ↔ _
    constructor
    · intro z
      have z2 := Bool.and_eq_true_iff.mp z
      obtain ⟨i, hi, e⟩ := (h2b k).mp z2.1
      refine ⟨i, ?_, e⟩
      have : i ≠ m := fun y => by
        subst y
        rw [decide_eq_true e.symm] at z2
        cases z2.2
      omega
    · rintro ⟨i, hi, e⟩
      have h9 : so k = true := (h2b k).mpr ⟨i, by omega, e⟩
      have : k ≠ st m := by rw [← e]; exact h2a i m hi (by omega)
      rw [h9, decide_eq_false this]; rfl
  · have := h5 b hb
    refine ⟨this.1, this.2.1, fun z => ?_⟩
    by_cases q : b = st m
    · rw [q]; exact hx
    · exact this.2.2 (hfin b ⟨hb, z⟩ q).2
  · have := h6 e he
    refine ⟨fun z1 z2 z3 => ⟨(this.1 z1 z2 z3).1, fun z4 => ?_⟩, this.2⟩
    rcases (this.1 z1 z2 z3).2 z4 with ⟨y1, y2, y3, y4⟩ | ⟨y1, y2, y3⟩
    · exact Or.inl ⟨y1, y2, y3, hord _ _ y4⟩
    · exact Or.inr ⟨y1, y2, hord _ _ y3⟩
  · by_cases q : b = st m
    · rw [q, va_up_self]; omega
    · rw [va_up_ne _ _ q]
      have := h7a b (hfin b hb q)
      omega
theorem DF.take {E : Nat} {fr eg fe : Nat → Nat} {fl : Ob} {m cc T x e : Nat} {sn so : Nat → Bool} {st ca ep ft : Nat → Nat} {up lo : Nat → Int32} (h : DF E fr eg fe fl m cc T sn so st ca ep ft up lo) (hx : so x = true) (he : ep x = e) (hf : fr e = x) (hn : e < fe (x + 1)) (U L : Int32)
    (h1 : eg e ≠ 40 → sn (eg e) = true ∧ (eg e ≠ x → EDG fl m sn so st ft x (eg e) U L)) (h0 : eg e = 40 ∨ eg e = x → U = -1) :
    DF E fr eg fe fl m cc T sn so st ca (va_up ep x (e + 1)) ft (upd up e U) (upd lo e L) := by
  obtain ⟨g1, g2, g3, g4, g5, g6, g7, g8⟩ := h
  have hsx := g2.2.2 x hx
  refine ⟨g1, g2, g3, g4, fun b hb => ?_, fun e' he' => ?_, g7, g8⟩
  · by_cases q : b = x
    · subst q
      rw [va_up_self]
      have := g5 b hb
      exact ⟨by omega, by omega, fun z => by rw [hx] at z; cases z⟩
    · rw [va_up_ne _ _ q]; exact g5 b hb
  · by_cases q : e' = e
    · subst q
      rw [hf, va_up_self, upd_s, upd_s]
      refine ⟨fun _ _ z => h1 z, fun z => h0 ?_⟩
      refine Classical.byContradiction fun y => z ⟨hsx, by omega, fun a => y (Or.inl a), fun a => y (Or.inr a)⟩
    · rw [upd_n _ _ q, upd_n _ _ q]
      have hiff : e' < va_up ep x (e + 1) (fr e') ↔ e' < ep (fr e') := by
        by_cases q2 : fr e' = x
        · rw [q2, va_up_self]; omega
        · rw [va_up_ne _ _ q2]
      have := g6 e' he'
      exact ⟨fun z1 z2 z3 => this.1 z1 (hiff.mp z2) z3, fun z => this.2 (fun y => z ⟨y.1, hiff.mpr y.2.1, y.2.2⟩)⟩
theorem DF.enter {E : Nat} {fr eg fe : Nat → Nat} {fl : Ob} {m cc T g : Nat} {sn so : Nat → Bool} {st ca ep ft : Nat → Nat} {up lo : Nat → Int32} (h : DF E fr eg fe fl (m + 1) cc T sn so st ca ep ft up lo) (hg : sn g = false) (hr : tb (gl fl 0) g = true) (hrow : tb (gB fl 0 (st m)) g = true) (hfe : fe g ≤ fe (g + 1)) (hfg : ∀ e, e < E → fr e = g → fe g ≤ e) :
    DF E fr eg fe fl (m + 2) (cc + 1) T (fun k => sn k || decide (k = g)) (fun k => so k || decide (k = g)) (va_up st (m + 1) g) (va_up ca cc g) (va_up ep g (fe g)) ft up lo := by
  obtain ⟨h1, ⟨h2a, h2b, h2c⟩, h3, h4, h5, h6, ⟨h7a, h7b⟩, h8⟩ := h
  have hso : so g = false := by
    cases q : so g
    · rfl
    · rw [h2c g q] at hg; cases hg
  have hcan : ∀ i, i < cc → ca i ≠ g := fun i hi e => by rw [(h1.2 g).mpr ⟨i, hi, e⟩] at hg; cases hg
  have hstn : ∀ i, i < m + 1 → st i ≠ g := fun i hi e => by rw [(h2b g).mpr ⟨i, hi, e⟩] at hso; cases hso
  have hfin : ∀ b, FIN (fun k => sn k || decide (k = g)) (fun k => so k || decide (k = g)) b ↔ FIN sn so b := fun b => by
    unfold FIN
    by_cases q : b = g
    · subst q
      constructor
      · intro z
        have := z.2
        simp at this
      · intro z; rw [hg] at z; cases z.1
    · simp only [decide_eq_false q, Bool.or_false]
  have hord : ∀ u l, ORD (m + 1) sn so st ft u l → ORD (m + 2) (fun k => sn k || decide (k = g)) (fun k => so k || decide (k = g)) (va_up st (m + 1) g) ft u l := fun u l ho => by
    rcases ho with ⟨o1, o2⟩ | ⟨i, j, o1, o2, o3, o4⟩
    · exact Or.inl ⟨(hfin l).mpr o1, fun z => o2 ((hfin u).mp z)⟩
    · exact Or.inr ⟨i, j, o1, by omega, by rw [va_up_ne _ _ (by omega)]; exact o3, by rw [va_up_ne _ _ (by omega)]; exact o4⟩
  refine ⟨⟨fun i j hij hj => ?_, fun k => ?_⟩, ⟨fun i j hij hj => ?_, fun k => ?_, fun k hk => ?_⟩, fun k hk => ?_, ⟨fun _ => ?_, fun i hi => ?_⟩, fun b hb => ?_, fun e he => ?_, ⟨fun b hb => h7a b ((hfin b).mp hb), by omega⟩, by show (sn 0 || _) = true; rw [h8]; rfl⟩
  · rw [va_up_ne _ _ (show i ≠ cc by omega)]
    by_cases q : j = cc
    · rw [q, va_up_self]; exact hcan i (by omega)
    · rw [va_up_ne _ _ q]; exact h1.1 i j hij (by omega)
  · show (sn k || decide (k = g)) = true ↔ _
    constructor
    · intro z
      rcases Bool.or_eq_true_iff.mp z with z | z
      · obtain ⟨i, hi, e⟩ := (h1.2 k).mp z
        exact ⟨i, by omega, by rw [va_up_ne _ _ (by omega)]; exact e⟩
      · exact ⟨cc, by omega, by rw [va_up_self]; exact (of_decide_eq_true z).symm⟩
    · rintro ⟨i, hi, e⟩
      by_cases q : i = cc
      · rw [q, va_up_self] at e; rw [decide_eq_true e.symm, Bool.or_true]
      · rw [va_up_ne _ _ q] at e; rw [(h1.2 k).mpr ⟨i, by omega, e⟩, Bool.true_or]
  · rw [va_up_ne _ _ (show i ≠ m + 1 by omega)]
    by_cases q : j = m + 1
    · rw [q, va_up_self]; exact hstn i (by omega)
    · rw [va_up_ne _ _ q]; exact h2a i j hij (by omega)
  · show (so k || decide (k = g)) = true ↔ _
    constructor
    · intro z
      rcases Bool.or_eq_true_iff.mp z with z | z
      · obtain ⟨i, hi, e⟩ := (h2b k).mp z
        exact ⟨i, by omega, by rw [va_up_ne _ _ (by omega)]; exact e⟩
      · exact ⟨m + 1, by omega, by rw [va_up_self]; exact (of_decide_eq_true z).symm⟩
    · rintro ⟨i, hi, e⟩
      by_cases q : i = m + 1
      · rw [q, va_up_self] at e; rw [decide_eq_true e.symm, Bool.or_true]
      · rw [va_up_ne _ _ q] at e; rw [(h2b k).mpr ⟨i, by omega, e⟩, Bool.true_or]
  · rcases Bool.or_eq_true_iff.mp hk with z | z
    · show (sn k || _) = true
      rw [h2c k z]; rfl
    · show (_ || decide (k = g)) = true
      rw [z, Bool.or_true]
  · rcases Bool.or_eq_true_iff.mp hk with z | z
    · exact h3 k z
    · rw [of_decide_eq_true z]; exact hr
  · rw [va_up_ne _ _ (by omega)]; exact h4.1 (by omega)
  · by_cases q : i + 1 = m + 1
    · have : i = m := by omega
      subst this
      rw [va_up_self, va_up_ne _ _ (by omega)]; exact hrow
    · rw [va_up_ne _ _ (show i ≠ m + 1 by omega), va_up_ne _ _ q]; exact h4.2 i (by omega)
  · by_cases q : b = g
    · subst q
      rw [va_up_self]
      exact ⟨Nat.le_refl _, hfe, fun z => by simp at z⟩
    · rw [va_up_ne _ _ q]
      have hb2 : sn b = true := by
        rcases Bool.or_eq_true_iff.mp hb with z | z
        · exact z
        · exact absurd (of_decide_eq_true z) q
      have := h5 b hb2
      refine ⟨this.1, this.2.1, fun z => this.2.2 ?_⟩
      cases y : so b
      · rfl
      · have : (so b || decide (b = g)) = false := z
        rw [y] at this; cases this
  · have h9 := h6 e he
    by_cases q : fr e = g
    · have := hfg e he q
      refine ⟨fun _ z => ?_, fun _ => h9.2 (fun y => by rw [q, hg] at y; cases y.1)⟩
      rw [q, va_up_self] at z
      omega
    · rw [va_up_ne _ _ q]
      have hs : ∀ k, sn k = true → (sn k || decide (k = g)) = true := fun k hk => by rw [hk]; rfl
      have hs2 : (sn (fr e) || decide (fr e = g)) = true → sn (fr e) = true := fun z => by
        rcases Bool.or_eq_true_iff.mp z with z | z
        · exact z
        · exact absurd (of_decide_eq_true z) q
      refine ⟨fun z1 z2 z3 => ⟨hs _ (h9.1 (hs2 z1) z2 z3).1, fun z4 => ?_⟩, fun z => h9.2 (fun y => z ⟨hs _ y.1, y.2⟩)⟩
      rcases (h9.1 (hs2 z1) z2 z3).2 z4 with ⟨y1, y2, y3, y4⟩ | ⟨y1, y2, y3⟩
      · exact Or.inl ⟨y1, y2, y3, hord _ _ y4⟩
      · exact Or.inr ⟨y1, y2, hord _ _ y3⟩
/-- the stack is a way that avoids what is not on it -/
theorem DF.path {n c E : Nat} {hm fs fr eg fe : Nat → Nat} {fl : Ob} (hF : FL n c E hm fs fr eg fe fl) {m cc T g : Nat} {sn so : Nat → Bool} {st ca ep ft : Nat → Nat} {up lo : Nat → Int32} (h : DF E fr eg fe fl m cc T sn so st ca ep ft up lo) (hg : g < 40) (hs : so g = false) : ∀ i, i < m → tb (Sp fl g) (st i) = true := by
  obtain ⟨h1, ⟨h2a, h2b, h2c⟩, h3, h4, -⟩ := h
  have hlt : ∀ i, i < m → st i < c := fun i hi => hF.r_lt (h3 _ (h2c _ ((h2b _).mpr ⟨i, hi, rfl⟩)))
  intro i
  induction i with
  | zero =>
    intro hi
    have h0 := hlt 0 hi
    rw [h4.1 hi] at h0 ⊢
    refine hF.s_0 h0 hg (fun z => ?_)
    subst z
    rw [(h2b 0).mpr ⟨0, hi, h4.1 hi⟩] at hs; cases hs
  | succ i ih =>
    intro hi
    have h0 := hlt i (by omega)
    refine hF.s_go (by omega) hg (ih (by omega)) h0 (h4.2 i hi) (fun z => ?_)
    rw [(h2b g).mpr ⟨i + 1, hi, z⟩] at hs; cases hs
/-! ===== the object and the way ===== -/
def LK (E : Nat) (wa : Ob) (m cc : Nat) (sn so : Nat → Bool) (st ca ep : Nat → Nat) (up lo : Nat → Int32) : Prop :=
  gi wa 0 = nI cc ∧ gi wa 1 = nI m ∧ (∀ i, i < cc → gA wa 0 i = nI (ca i)) ∧ (∀ i, i < m → gA wa 3 i = nI (st i)) ∧ (∀ k, tb (gl wa 0) k = sn k) ∧ (∀ k, tb (gl wa 1) k = so k) ∧ (∀ b, sn b = true → gA wa 4 b = nI (ep b)) ∧ (∀ e, e < E → gA wa 1 e = up e ∧ gA wa 2 e = lo e)
def ptF (fe : Nat → Nat) (sn so : Nat → Bool) (ep : Nat → Nat) (b : Nat) : Nat := if sn b = true then (if so b = true then fe (b + 1) - ep b + 1 else 0) else fe (b + 1) - fe b + 1
theorem sm_dec {p q : Nat → Nat} {x n : Nat} (hx : x < n) (h : q x + 1 = p x) (hs : ∀ k, k < n → k ≠ x → q k = p k) : fb_sm q n + 1 = fb_sm p n := by
  have h1 : fb_sm q n = fb_sm (fun k => if k = x then q x else p k) n := fb_sm_cong fun k hk => by
    by_cases e : k = x
    · subst e; rw [if_pos rfl]
    · rw [if_neg e]; exact hs k hk e
  have h2 := fb_sm_upd p (q x) (i := x) (n := n) hx
  omega
theorem FL.feR {n c E : Nat} {hm fs fr eg fe : Nat → Nat} {fl : Ob} (h : FL n c E hm fs fr eg fe fl) {b : Nat} (hb : b ≤ c) : gA fl 5 b = nI (fe b) ∧ fe b ≤ E ∧ ∀ e, e < E → (fe b ≤ e ↔ b ≤ fr e) := h.2.2.1 b hb
theorem FL.feM {n c E : Nat} {hm fs fr eg fe : Nat → Nat} {fl : Ob} (h : FL n c E hm fs fr eg fe fl) {b : Nat} (hb : b < c) : fe b ≤ fe (b + 1) := by
  have h1 := h.feR (b := b) (by omega)
  have h2 := h.feR (b := b + 1) hb
  rcases Nat.lt_or_ge (fe (b + 1)) (fe b) with q | q
  · have he : fe (b + 1) < E := by omega
    have := (h2.2.2 _ he).mp (Nat.le_refl _)
    have := (h1.2.2 _ he).mpr (by omega)
    omega
  · exact q
/-- an edge by its block -/
theorem FL.feI {n c E : Nat} {hm fs fr eg fe : Nat → Nat} {fl : Ob} (h : FL n c E hm fs fr eg fe fl) {b e : Nat} (hb : b < c) (h1 : fe b ≤ e) (h2 : e < fe (b + 1)) : e < E ∧ fr e = b := by
  have g1 := h.feR (b := b) (by omega)
  have g2 := h.feR (b := b + 1) hb
  have he : e < E := by omega
  have := (g1.2.2 e he).mp h1
  have q : ¬ (b + 1 ≤ fr e) := fun z => by have := (g2.2.2 e he).mpr z; omega
  exact ⟨he, by omega⟩
theorem FL.feJ {n c E : Nat} {hm fs fr eg fe : Nat → Nat} {fl : Ob} (h : FL n c E hm fs fr eg fe fl) {e : Nat} (he : e < E) : fe (fr e) ≤ e ∧ e < fe (fr e + 1) := by
  have hf := (h.edge he).2.2.1
  have g1 := h.feR (b := fr e) (by omega)
  have g2 := h.feR (b := fr e + 1) hf
  refine ⟨(g1.2.2 e he).mpr (Nat.le_refl _), ?_⟩
  rcases Nat.lt_or_ge e (fe (fr e + 1)) with q | q
  · exact q
  · have := (g2.2.2 e he).mp q; omega
def WS (c E : Nat) (fr eg fe : Nat → Nat) (fl : Ob) (k : Nat) (wa : Ob) : Prop := ∃ (m cc T : Nat) (sn so : Nat → Bool) (st ca ep ft : Nat → Nat) (up lo : Nat → Int32), DF E fr eg fe fl m cc T sn so st ca ep ft up lo ∧ LK E wa m cc sn so st ca ep up lo ∧ (m = 0 ∨ fb_sm (ptF fe sn so ep) c + k ≤ 76)
theorem upd_self (f : Nat → Int32) (e : Nat) : upd f e (f e) = f := funext fun i => by
  by_cases q : i = e
  · subst q; rw [upd_s]
  · rw [upd_n _ _ q]
section WKS
variable {n c E : Nat} {hm fs fr eg fe : Nat → Nat} {fl : Ob}
theorem upd_lk {f : Nat → Int32} {g : Nat → Int32} {E e : Nat} {v : Int32} (h : ∀ i, i < E → f i = g i) : ∀ i, i < E → upd f e v i = upd g e v i := fun i hi => by
  by_cases q : i = e
  · subst q; rw [upd_s, upd_s]
  · rw [upd_n _ _ q, upd_n _ _ q]; exact h i hi
theorem walk_step (h : FL n c E hm fs fr eg fe fl) {k : Nat} {wa : Ob} (hk : k < 120) (hw : WS c E fr eg fe fl k wa) (hgo : gtGo wa = true) : WS c E fr eg fe fl (k + 1) (gtStep fl wa) := by
  have hc := h.c19
  have hE := h.e57
  obtain ⟨m', cc, T, sn, so, st, ca, ep, ft, up, lo, hD, ⟨l1, l2, l3, l4, l5, l6, l7, l8⟩, hp⟩ := hw
  have hD2 := hD
  obtain ⟨h1, ⟨h2a, h2b, h2c⟩, h3, h4, h5, h6, ⟨h7a, h7b⟩, h8⟩ := hD2
  have hcc : cc ≤ c := fb_holes c cc ca (fun i hi => h.r_lt (h3 _ ((h1.2 _).mpr ⟨i, hi, rfl⟩))) h1.1
  have hm0 : m' ≠ 0 := fun z => by
    subst z
    unfold gtGo at hgo
    rw [l2] at hgo
    exact absurd (of_decide_eq_true hgo) (by decide)
  obtain ⟨m, rfl⟩ : ∃ m, m' = m + 1 := ⟨m' - 1, by omega⟩
  have hp2 : fb_sm (ptF fe sn so ep) c + k ≤ 76 := hp.resolve_left hm0
  have hxs : so (st m) = true := (h2b _).mpr ⟨m, by omega, rfl⟩
  have hxn := h2c _ hxs
  have hxc := h.r_lt (h3 _ hxn)
  have hx5 := h5 _ hxn
  have hbk : rd (gA wa 3) 40 (gi wa 1 - 1) = nI (st m) := by
    rw [l2, nI_pred, rd_nI (by omega) (by decide)]; exact l4 m (by omega)
  obtain ⟨x, hx⟩ : ∃ x, st m = x := ⟨_, rfl⟩
  rw [hx] at hxs hxn hxc hx5 hbk
  unfold gtStep
  rw [hbk]
  unfold goOn goE
  rw [rd_nI (by omega) (by decide), l7 x hxn, nI_1, rd_nI (by omega) (by decide), (h.feR (b := x + 1) hxc).1]
  have hfE := (h.feR (b := x + 1) hxc).2.1
  by_cases q : ep x < fe (x + 1)
  · rw [if_pos (nI_lt q (by omega))]
    obtain ⟨e, he⟩ : ∃ e, ep x = e := ⟨_, rfl⟩
    rw [he] at q hx5 ⊢
    obtain ⟨heE, hfe⟩ := h.feI hxc hx5.1 q
    have hg40 := h.g40 heE
    rw [h.rdt heE]
    have hx0 : ∀ u, fb_sm (ptF fe sn so (va_up ep x (e + 1))) c + (k + 1) ≤ 76 ∨ u := fun u => by
      left
      have := sm_dec (p := ptF fe sn so ep) (q := ptF fe sn so (va_up ep x (e + 1))) (x := x) (n := c) hxc (by
        unfold ptF
        rw [if_pos hxn, if_pos hxn, if_pos hxs, if_pos hxs, va_up_self, he]; omega) (fun b hb hne => by
        unfold ptF
        rw [va_up_ne _ _ hne])
      omega
    have hupe : eg e = 40 ∨ eg e = x → up e = -1 := fun z => (h6 e heE).2 (fun y => by
      rw [hfe] at y
      rcases z with z | z
      · exact y.2.2.1 z
      · exact y.2.2.2 z)
    have l7' : ∀ b, sn b = true → upd (gA wa 4) x (nI (e + 1)) b = nI (va_up ep x (e + 1) b) := fun b hb => by
      by_cases z : b = x
      · subst z; rw [upd_s, va_up_self]
      · rw [upd_n _ _ z, va_up_ne _ _ z]; exact l7 b hb
    by_cases q1 : eg e = 40
    · unfold goF
      rw [if_pos ((tv_neg (by omega)).mpr q1), wr_nI (by omega) (by decide), nI_1]
      refine ⟨m + 1, cc, T, sn, so, st, ca, va_up ep x (e + 1), ft, upd up e (up e), upd lo e (lo e), hD.take hxs he hfe q (up e) (lo e) (fun z => absurd q1 z) hupe, ?_, Or.inr ((hx0 False).resolve_right id)⟩
      refine ⟨?_, ?_, ?_, ?_, ?_, ?_, ?_, fun i hi => ?_⟩ <;> simp only [gi_sl, gi_sA, gi_sB, gi_si_s, gi_si_n, gl_si, gl_sA, gl_sB, gl_sl_s, gl_sl_n, gA_si, gA_sl, gA_sB, gA_sA_s, gA_sA_n, gB_si, gB_sl, gB_sA, gB_sB_s, gB_sB_n, Nat.reduceBEq] <;> try assumption
      rw [upd_self, upd_self]; exact l8 i hi
    · have hgc : eg e < c := (h.edge heE).2.2.2.resolve_right q1
      unfold goF
      rw [if_neg (fun z => q1 ((tv_neg (by omega)).mp z)), tv_nI q1]
      by_cases q2 : eg e = x
      · rw [if_pos (by rw [q2]), wr_nI (by omega) (by decide), nI_1]
        refine ⟨m + 1, cc, T, sn, so, st, ca, va_up ep x (e + 1), ft, upd up e (up e), upd lo e (lo e), hD.take hxs he hfe q (up e) (lo e) (fun _ => ⟨by rw [q2]; exact hxn, fun z => absurd q2 z⟩) hupe, ?_, Or.inr ((hx0 False).resolve_right id)⟩
        refine ⟨?_, ?_, ?_, ?_, ?_, ?_, ?_, fun i hi => ?_⟩ <;> simp only [gi_sl, gi_sA, gi_sB, gi_si_s, gi_si_n, gl_si, gl_sA, gl_sB, gl_sl_s, gl_sl_n, gA_si, gA_sl, gA_sB, gA_sA_s, gA_sA_n, gB_si, gB_sl, gB_sA, gB_sB_s, gB_sB_n, Nat.reduceBEq] <;> try assumption
        rw [upd_self, upd_self]; exact l8 i hi
      · rw [if_neg (fun z => q2 (nI_inj (by omega) (by omega) z))]
        obtain ⟨g, hg⟩ : ∃ g, eg e = g := ⟨_, rfl⟩
        rw [hg] at q1 q2 hgc hg40 ⊢
        have hno : ¬ (g = 40 ∨ g = x) := fun z => z.elim q1 q2
        have hrg : tb (gl fl 0) g = true := by
          have := h.r_edge heE (by rw [hfe]; exact h3 x hxn) (by rw [hg]; exact q1)
          rwa [hg] at this
        unfold goD
        rw [hs_tb _ (by omega), l5 g]
        by_cases q3 : sn g = true
        · rw [if_pos q3]
          unfold goM
          rw [wr_nI (by omega) (by decide), wr_nI (by omega) (by decide), wr_nI (by omega) (by decide), nI_1, hs_tb _ (by omega), l6 g]
          by_cases q4 : so g = true
          · rw [if_pos q4, if_pos q4]
            obtain ⟨i, hi, hsi⟩ := (h2b g).mp q4
            have him : i < m := by
              rcases Nat.lt_or_ge i m with z | z
              · exact z
              · have : i = m := by omega
                subst this; rw [hx] at hsi; exact absurd hsi.symm q2
            refine ⟨m + 1, cc, T, sn, so, st, ca, va_up ep x (e + 1), ft, upd up e (nI g), upd lo e (nI x), hD.take hxs he hfe q (nI g) (nI x) (fun _ => by rw [hg]; exact ⟨q3, fun _ => Or.inr ⟨rfl, rfl, Or.inr ⟨i, m, him, by omega, hsi, hx⟩⟩⟩) (fun z => by rw [hg] at z; exact absurd z hno), ?_, Or.inr ((hx0 False).resolve_right id)⟩
            refine ⟨?_, ?_, ?_, ?_, ?_, ?_, ?_, fun i hi => ?_⟩ <;> simp only [gi_sl, gi_sA, gi_sB, gi_si_s, gi_si_n, gl_si, gl_sA, gl_sB, gl_sl_s, gl_sl_n, gA_si, gA_sl, gA_sB, gA_sA_s, gA_sA_n, gB_si, gB_sl, gB_sA, gB_sB_s, gB_sB_n, Nat.reduceBEq] <;> try assumption
            exact ⟨upd_lk (fun i hi => (l8 i hi).1) i hi, upd_lk (fun i hi => (l8 i hi).2) i hi⟩
          · rw [if_neg q4, if_neg q4]
            have hpa := hD.path h (g := g) (by omega) (ts_nt q4) m (by omega)
            rw [hx] at hpa
            refine ⟨m + 1, cc, T, sn, so, st, ca, va_up ep x (e + 1), ft, upd up e (nI x), upd lo e (nI g), hD.take hxs he hfe q (nI x) (nI g) (fun _ => by rw [hg]; exact ⟨q3, fun _ => Or.inl ⟨rfl, rfl, hpa, Or.inl ⟨⟨q3, ts_nt q4⟩, fun z => (by have h9 := z.2; rw [hxs] at h9; cases h9)⟩⟩⟩) (fun z => by rw [hg] at z; exact absurd z hno), ?_, Or.inr ((hx0 False).resolve_right id)⟩
            refine ⟨?_, ?_, ?_, ?_, ?_, ?_, ?_, fun i hi => ?_⟩ <;> simp only [gi_sl, gi_sA, gi_sB, gi_si_s, gi_si_n, gl_si, gl_sA, gl_sB, gl_sl_s, gl_sl_n, gA_si, gA_sl, gA_sB, gA_sA_s, gA_sA_n, gB_si, gB_sl, gB_sA, gB_sB_s, gB_sB_n, Nat.reduceBEq] <;> try assumption
            exact ⟨upd_lk (fun i hi => (l8 i hi).1) i hi, upd_lk (fun i hi => (l8 i hi).2) i hi⟩
        · rw [if_neg q3]
          have hg0 : sn g = false := ts_nt q3
          have hso : so g = false := by
            cases z : so g
            · rfl
            · rw [h2c g z] at hg0; cases hg0
          have hpa := hD.path h (g := g) (by omega) hso m (by omega)
          rw [hx] at hpa
          have hrow : tb (gB fl 0 (st m)) g = true := by rw [hx]; exact (h.row hxc g).mpr ⟨e, heE, hfe, hg⟩
          have hD3 := hD.enter hg0 hrg hrow (h.feM hgc) (fun e' he' z => by have := (h.feJ he').1; rw [z] at this; exact this)
          have hxg : x ≠ g := fun z => q2 z.symm
          have hep : va_up ep g (fe g) x = e := by rw [va_up_ne _ _ hxg]; exact he
          have hD4 := hD3.take (x := x) (e := e) (by show (so x || decide (x = g)) = true; rw [hxs]; rfl) hep hfe q (nI x) (nI g) (fun _ => by
            rw [hg]
            refine ⟨by show (sn g || decide (g = g)) = true; rw [decide_eq_true rfl, Bool.or_true], fun _ => Or.inl ⟨rfl, rfl, hpa, Or.inr ⟨m, m + 1, by omega, by omega, ?_, ?_⟩⟩⟩
            · rw [va_up_ne _ _ (by omega)]; exact hx
            · exact va_up_self _ _ _) (fun z => by rw [hg] at z; exact absurd z hno)
          unfold enter goM
          simp only [gi_sl, gi_sA, gi_sB, gi_si_s, gi_si_n, gl_si, gl_sA, gl_sB, gl_sl_s, gl_sl_n, gA_si, gA_sl, gA_sB, gA_sA_s, gA_sA_n, gB_si, gB_sl, gB_sA, gB_sB_s, gB_sB_n, Nat.reduceBEq]
          rw [l1, l2, nI_1, nI_1, nI_1, wr_nI (i := cc) (by omega) (by decide), wr_nI (i := m + 1) (by omega) (by decide), wr_nI (i := x) (by omega) (by decide), wr_nI (i := g) (by omega) (by decide), wr_nI (i := e) (by omega) (by decide), wr_nI (i := e) (by omega) (by decide), hs_tb _ (by omega), l6 g, hso, if_neg (by decide), if_neg (by decide), rd_nI (by omega) (by decide), (h.feR (b := g) (by omega)).1]
          refine ⟨m + 2, cc + 1, T, _, _, _, _, _, ft, _, _, hD4, ?_, Or.inr ?_⟩
          · refine ⟨?_, ?_, ?_, ?_, fun j => ?_, fun j => ?_, fun b hb => ?_, fun i hi => ?_⟩ <;> simp only [gi_sl, gi_sA, gi_sB, gi_si_s, gi_si_n, gl_si, gl_sA, gl_sB, gl_sl_s, gl_sl_n, gA_si, gA_sl, gA_sB, gA_sA_s, gA_sA_n, gB_si, gB_sl, gB_sA, gB_sB_s, gB_sB_n, Nat.reduceBEq]
            · exact upd_va (fun j hj _ => l3 j (by omega))
            · exact upd_va (fun j hj _ => l4 j (by omega))
            · rw [tb_or, tb_bit (by omega), l5]
            · rw [tb_or, tb_bit (by omega), l6]
            · by_cases z : b = g
              · subst z; rw [upd_s, va_up_ne _ _ (fun y => hxg y.symm), va_up_self]
              · rw [upd_n _ _ z]
                by_cases z2 : b = x
                · subst z2; rw [upd_s, va_up_self]
                · rw [upd_n _ _ z2, va_up_ne _ _ z2, va_up_ne _ _ z]
                  rcases Bool.or_eq_true_iff.mp hb with y | y
                  · exact l7 b y
                  · exact absurd (of_decide_eq_true y) z
            · exact ⟨upd_lk (fun i hi => (l8 i hi).1) i hi, upd_lk (fun i hi => (l8 i hi).2) i hi⟩
          · have := sm_dec (p := ptF fe sn so ep) (q := ptF fe (fun k => sn k || decide (k = g)) (fun k => so k || decide (k = g)) (va_up (va_up ep g (fe g)) x (e + 1))) (x := x) (n := c) hxc (by
              unfold ptF
              simp only [hxn, hxs, Bool.true_or, if_true]
              rw [va_up_self, he]; omega) (fun b hb hne => by
              unfold ptF
              rw [va_up_ne _ _ hne]
              by_cases z : b = g
              · subst z
                simp only [hg0, hso, decide_true, Bool.or_true, if_true, Bool.false_eq_true, if_false]
                rw [va_up_self]
              · rw [va_up_ne _ _ z]
                simp only [decide_eq_false z, Bool.or_false])
            omega
  · rw [if_neg (nI_nlt (by omega) (by omega))]
    have hxe : ep (st m) = fe (st m + 1) := by rw [hx]; omega
    have hD3 := hD.leave hxe
    rw [hx] at hD3
    rw [l2, nI_pred]
    refine ⟨m, cc, T + 1, _, _, _, _, _, _, up, lo, hD3, ?_, Or.inr ?_⟩
    · refine ⟨?_, ?_, ?_, fun i hi => ?_, ?_, fun j => ?_, ?_, ?_⟩ <;> simp only [gi_sl, gi_sA, gi_sB, gi_si_s, gi_si_n, gl_si, gl_sA, gl_sB, gl_sl_s, gl_sl_n, gA_si, gA_sl, gA_sB, gA_sA_s, gA_sA_n, gB_si, gB_sl, gB_sA, gB_sB_s, gB_sB_n, Nat.reduceBEq] <;> try assumption
      · exact l4 i (by omega)
      · rw [tb_sub, tb_bit (by omega), l6]
    · have := sm_dec (p := ptF fe sn so ep) (q := ptF fe sn (fun k => so k && !decide (k = x)) ep) (x := x) (n := c) hxc (by
        unfold ptF
        simp only [hxn, hxs, if_true, decide_true, Bool.not_true, Bool.and_false, Bool.false_eq_true, if_false]
        omega) (fun b hb hne => by
        unfold ptF
        simp only [decide_eq_false hne, Bool.not_false, Bool.and_true])
      omega
theorem gtZero_ok (wa : Ob) : gi (gtZero wa) 0 = 0 ∧ gi (gtZero wa) 1 = 0 ∧ gl (gtZero wa) 0 = 0 ∧ gl (gtZero wa) 1 = 0 ∧ ∀ e, e < 80 → gA (gtZero wa) 1 e = -1 ∧ gA (gtZero wa) 2 e = -1 := by
  unfold gtZero
  refine lp_ind (fun i t => gi t 0 = 0 ∧ gi t 1 = 0 ∧ gl t 0 = 0 ∧ gl t 1 = 0 ∧ ∀ e, e < i → gA t 1 e = -1 ∧ gA t 2 e = -1) ⟨by simp only [gi_sl, gi_sA, gi_sB, gi_si_s, gi_si_n, gl_si, gl_sA, gl_sB, gl_sl_s, gl_sl_n, gA_si, gA_sl, gA_sB, gA_sA_s, gA_sA_n, gB_si, gB_sl, gB_sA, gB_sB_s, gB_sB_n, Nat.reduceBEq], by simp only [gi_sl, gi_sA, gi_sB, gi_si_s, gi_si_n, gl_si, gl_sA, gl_sB, gl_sl_s, gl_sl_n, gA_si, gA_sl, gA_sB, gA_sA_s, gA_sA_n, gB_si, gB_sl, gB_sA, gB_sB_s, gB_sB_n, Nat.reduceBEq], by simp only [gi_sl, gi_sA, gi_sB, gi_si_s, gi_si_n, gl_si, gl_sA, gl_sB, gl_sl_s, gl_sl_n, gA_si, gA_sl, gA_sB, gA_sA_s, gA_sA_n, gB_si, gB_sl, gB_sA, gB_sB_s, gB_sB_n, Nat.reduceBEq], by simp only [gi_sl, gi_sA, gi_sB, gi_si_s, gi_si_n, gl_si, gl_sA, gl_sB, gl_sl_s, gl_sl_n, gA_si, gA_sl, gA_sB, gA_sA_s, gA_sA_n, gB_si, gB_sl, gB_sA, gB_sB_s, gB_sB_n, Nat.reduceBEq], fun e he => absurd he (Nat.not_lt_zero e)⟩ (fun i t hi h => ?_)
  unfold gtInit
  simp only [gi_sl, gi_sA, gi_sB, gi_si_s, gi_si_n, gl_si, gl_sA, gl_sB, gl_sl_s, gl_sl_n, gA_si, gA_sl, gA_sB, gA_sA_s, gA_sA_n, gB_si, gB_sl, gB_sA, gB_sB_s, gB_sB_n, Nat.reduceBEq]
  rw [wr_nI hi (by decide), wr_nI hi (by decide)]
  refine ⟨h.1, h.2.1, h.2.2.1, h.2.2.2.1, fun e he => ?_⟩
  by_cases q : e = i
  · subst q; rw [upd_s, upd_s]; exact ⟨rfl, rfl⟩
  · rw [upd_n _ _ q, upd_n _ _ q]; exact h.2.2.2.2 e (by omega)
theorem FL.tele (h : FL n c E hm fs fr eg fe fl) : ∀ k, k ≤ c → fb_sm (fun b => fe (b + 1) - fe b + 1) k + fe 0 = fe k + k := by
  intro k
  induction k with
  | zero => intro _; rw [show fb_sm (fun b => fe (b + 1) - fe b + 1) 0 = 0 from rfl]; omega
  | succ k ih =>
    intro hk
    have h1 := ih (by omega)
    have h2 := h.feM (b := k) (by omega)
    rw [fb_sm_succ]
    omega
theorem walk_init (h : FL n c E hm fs fr eg fe fl) (h0 : 0 < c) (wa : Ob) : WS c E fr eg fe fl 0 (enter fl (gtZero wa) 0) := by
  have hc := h.c19
  have hE := h.e57
  obtain ⟨z1, z2, z3, z4, z5⟩ := gtZero_ok wa
  refine ⟨1, 1, 0, fun k => decide (k = 0), fun k => decide (k = 0), fun _ => 0, fun _ => 0, fun _ => fe 0, fun _ => 0, fun _ => -1, fun _ => -1, ?_, ?_, Or.inr ?_⟩
  · refine ⟨⟨fun i j hij hj => by omega, fun k => ⟨fun z => ⟨0, by decide, (of_decide_eq_true z).symm⟩, fun ⟨i, hi, e⟩ => decide_eq_true e.symm⟩⟩, ⟨fun i j hij hj => by omega, fun k => ⟨fun z => ⟨0, by decide, (of_decide_eq_true z).symm⟩, fun ⟨i, hi, e⟩ => decide_eq_true e.symm⟩, fun k hk => hk⟩, fun k hk => by rw [of_decide_eq_true hk]; exact h.r_0 h0, ⟨fun _ => rfl, fun i hi => by omega⟩, fun b hb => ?_, fun e he => ⟨fun w1 w2 => ?_, fun _ => rfl⟩, ⟨fun b hb => ?_, rfl⟩, rfl⟩
    · have hb0 : b = 0 := of_decide_eq_true hb
      subst hb0
      exact ⟨Nat.le_refl _, h.feM h0, fun z => by cases z⟩
    · have hb0 : fr e = 0 := of_decide_eq_true w1
      have := (h.feJ he).1
      rw [hb0] at this
      have w3 : e < fe 0 := w2
      omega
    · have hb1 : decide (b = 0) = true := hb.1
      have hb2 : decide (b = 0) = false := hb.2
      rw [hb1] at hb2; cases hb2
  · unfold enter
    rw [show (0 : Int32) = nI 0 from rfl] at z1 z2 ⊢
    rw [z1, z2, nI_1, wr_nI (by decide) (by decide), wr_nI (by decide) (by decide), wr_nI (by decide) (by decide), rd_nI (by decide) (by decide), (h.feR (b := 0) (by omega)).1, z3, z4]
    refine ⟨?_, ?_, fun i hi => ?_, fun i hi => ?_, fun k => ?_, fun k => ?_, fun b hb => ?_, fun e he => ?_⟩ <;> simp only [gi_sl, gi_sA, gi_sB, gi_si_s, gi_si_n, gl_si, gl_sA, gl_sB, gl_sl_s, gl_sl_n, gA_si, gA_sl, gA_sB, gA_sA_s, gA_sA_n, gB_si, gB_sl, gB_sA, gB_sB_s, gB_sB_n, Nat.reduceBEq]
    · have : i = 0 := by omega
      subst this; rw [upd_s]
    · have : i = 0 := by omega
      subst this; rw [upd_s]
    · rw [tb_or, tb_0, tb_bit (by decide)]; rfl
    · rw [tb_or, tb_0, tb_bit (by decide)]; rfl
    · have : b = 0 := of_decide_eq_true hb
      subst this; rw [upd_s]
    · exact z5 e (by omega)
  · rw [fb_sm_cong (g := fun b => fe (b + 1) - fe b + 1) (fun b hb => by
      unfold ptF
      by_cases q : b = 0
      · subst q; rfl
      · rw [if_neg (by simp [q])])]
    have h1 := h.tele c (Nat.le_refl c)
    have h2 := (h.feR (b := c) (Nat.le_refl c)).2.1
    omega
def DRW (fr eg : Nat → Nat) (fl : Ob) (e : Nat) : Prop := tb (gl fl 0) (fr e) = true ∧ eg e ≠ 40 ∧ eg e ≠ fr e
def WK (c E : Nat) (fr eg : Nat → Nat) (fl wa : Ob) (cc : Nat) (ca ht : Nat → Nat) : Prop :=
  (∀ k, tb (gl wa 0) k = tb (gl fl 0) k) ∧
  (gi wa 0 = nI cc ∧ cc ≤ c ∧ (∀ i, i < cc → gA wa 0 i = nI (ca i)) ∧ (∀ i j, i < j → j < cc → ca i ≠ ca j) ∧ (∀ k, tb (gl fl 0) k = true ↔ ∃ i, i < cc ∧ ca i = k)) ∧
  (∀ e, e < E → (DRW fr eg fl e → ∃ u l, gA wa 1 e = nI u ∧ gA wa 2 e = nI l ∧ ht u < ht l ∧ ((u = fr e ∧ l = eg e ∧ tb (Sp fl (eg e)) (fr e) = true) ∨ (u = eg e ∧ l = fr e))) ∧ (¬ DRW fr eg fl e → gA wa 1 e = -1)) ∧
  (∀ k, tb (gl fl 0) k = true → ht k < c)
theorem walk_ok (h : FL n c E hm fs fr eg fe fl) (wa : Ob) : ∃ (cc : Nat) (ca ht : Nat → Nat), WK c E fr eg fl (goThrough fl wa) cc ca ht := by
  have hc := h.c19
  unfold goThrough gtStart
  rcases Nat.eq_zero_or_pos c with q | q
  · subst q
    have hE : E = 0 := by have := h.2.2.2.2.2.1; omega
    subst hE
    obtain ⟨z1, z2, z3, z4, z5⟩ := gtZero_ok wa
    rw [h.bc, if_neg (by decide), lpW_same (by unfold gtGo; rw [z2]; decide)]
    have hR : gl fl 0 = 0 := by rw [h.rch, if_neg (by decide)]
    refine ⟨0, fun _ => 0, fun _ => 0, fun k => by rw [z3, hR], ⟨by rw [z1]; rfl, Nat.le_refl _, fun i hi => absurd hi (Nat.not_lt_zero i), fun i j _ hj => absurd hj (Nat.not_lt_zero j), fun k => ⟨fun z => by (rw [hR, tb_0] at z; cases z), fun ⟨i, hi, _⟩ => absurd hi (Nat.not_lt_zero i)⟩⟩, fun e he => absurd he (Nat.not_lt_zero e), fun k z => by rw [hR, tb_0] at z; cases z⟩
  · rw [h.bc, if_pos (show (0 : Int32) < nI c from nI_lt (a := 0) q (by omega))]
    have key := lpW_ind (c := gtGo) (f := gtStep fl) (n := 120) (s := enter fl (gtZero wa) 0) (fun k t => WS c E fr eg fe fl k t) (walk_init h q wa) (fun k t hk ht hg => walk_step h hk ht hg) (fun k t hk ht hg => by
      obtain ⟨m, cc, T, sn, so, st, ca, ep, ft, up, lo, hD, hL, hp⟩ := ht
      refine ⟨m, cc, T, sn, so, st, ca, ep, ft, up, lo, hD, hL, Or.inl ?_⟩
      have hcc : cc ≤ c := fb_holes c cc ca (fun i hi => h.r_lt (hD.2.2.1 _ ((hD.1.2 _).mpr ⟨i, hi, rfl⟩))) hD.1.1
      have hm := hD.2.2.2.2.2.2.1.2
      unfold gtGo at hg
      rw [hL.2.1] at hg
      rcases Nat.eq_zero_or_pos m with z | z
      · exact z
      · exact absurd (nI_lt (a := 0) z (by omega)) (of_decide_eq_false hg))
    generalize lpW gtGo (gtStep fl) 120 (enter fl (gtZero wa) 0) = w at key
    obtain ⟨m, cc, T, sn, so, st, ca, ep, ft, up, lo, hD, ⟨l1, l2, l3, l4, l5, l6, l7, l8⟩, hp⟩ := key
    obtain ⟨h1, ⟨h2a, h2b, h2c⟩, h3, h4, h5, h6, ⟨h7a, h7b⟩, h8⟩ := hD
    have hm : m = 0 := by
      rcases hp with z | z
      · exact z
      · omega
    subst hm
    have hso : ∀ k, so k = false := fun k => by
      cases z : so k
      · rfl
      · obtain ⟨i, hi, -⟩ := (h2b k).mp z
        exact absurd hi (Nat.not_lt_zero i)
    have hfin : ∀ k, sn k = true → FIN sn so k := fun k hk => ⟨hk, hso k⟩
    have htk : ∀ e, e < E → sn (fr e) = true → e < ep (fr e) := fun e he hs => by
      rw [(h5 _ hs).2.2 (hso _)]
      exact (h.feJ he).2
    have hR : ∀ k, tb (gl fl 0) k = sn k := fun k => by
      cases z : sn k
      · cases z2 : tb (gl fl 0) k
        · rfl
        · have := h.r_least (fun j => sn j = true) h8 (fun a j ha hac hj h40 => by
            obtain ⟨e, he, e1, e2⟩ := (h.row hac j).mp hj
            have := (h6 e he).1 (by rw [e1]; exact ha) (htk e he (by rw [e1]; exact ha)) (by rw [e2]; exact h40)
            rw [e2] at this
            exact this.1) z2
          rw [z] at this; cases this
      · exact h3 k z
    have hcc : cc ≤ c := fb_holes c cc ca (fun i hi => h.r_lt (h3 _ ((h1.2 _).mpr ⟨i, hi, rfl⟩))) h1.1
    refine ⟨cc, ca, fun k => T - 1 - ft k, fun k => by rw [l5, hR], ⟨l1, hcc, l3, h1.1, fun k => by rw [hR]; exact h1.2 k⟩, fun e he => ⟨fun hd => ?_, fun hd => ?_⟩, fun k hk => ?_⟩
    · have hs : sn (fr e) = true := by rw [← hR]; exact hd.1
      have h9 := (h6 e he).1 hs (htk e he hs) hd.2.1
      have hlt : ∀ u l, ORD 0 sn so st ft u l → sn u = true → T - 1 - ft u < T - 1 - ft l := fun u l ho hu => by
        rcases ho with ⟨o1, o2⟩ | ⟨i, j, -, o2, -⟩
        · have a1 := o2 (hfin u hu)
          have a2 := h7a u (hfin u hu)
          omega
        · exact absurd o2 (Nat.not_lt_zero j)
      rcases h9.2 hd.2.2 with ⟨y1, y2, y3, y4⟩ | ⟨y1, y2, y3⟩
      · exact ⟨fr e, eg e, by rw [(l8 e he).1]; exact y1, by rw [(l8 e he).2]; exact y2, hlt _ _ y4 hs, Or.inl ⟨rfl, rfl, y3⟩⟩
      · exact ⟨eg e, fr e, by rw [(l8 e he).1]; exact y1, by rw [(l8 e he).2]; exact y2, hlt _ _ y3 h9.1, Or.inr ⟨rfl, rfl⟩⟩
    · rw [(l8 e he).1]
      exact (h6 e he).2 (fun z => hd ⟨by rw [hR]; exact z.1, z.2.2.1, z.2.2.2⟩)
    · have := h7a k (hfin k (by rw [← hR]; exact hk))
      have h9 : T - 1 - ft k < c := by omega
      exact h9
end WKS
end
section
/-! ===== Picture: the layers ===== -/
def ub (wa : Ob) (e : Nat) : Nat := nN (gA wa 1 e)
def lb (wa : Ob) (e : Nat) : Nat := nN (gA wa 2 e)
def dw (wa : Ob) (e : Nat) : Bool := decide (¬ gA wa 1 e < 0)
def LYR (fl : Ob) (ly : Nat → Nat) (pi : Ob) : Prop := ∀ b, b < 40 → gA pi 0 b = if tb (gl fl 0) b = true then nI (ly b) else -1
section LAYS
variable {n c E : Nat} {hm fs fr eg fe : Nat → Nat} {fl wa : Ob} {cc : Nat} {ca ht : Nat → Nat}
theorem WK.dw_iff (hF : FL n c E hm fs fr eg fe fl) (h : WK c E fr eg fl wa cc ca ht) {e : Nat} (he : e < E) : dw wa e = true ↔ DRW fr eg fl e := by
  have h9 := h.2.2.1 e he
  unfold dw
  constructor
  · intro z
    refine Classical.byContradiction fun y => of_decide_eq_true z ?_
    rw [h9.2 y]; decide
  · intro z
    obtain ⟨u, l, h1, h2, h3, h4⟩ := h9.1 z
    have hu : u < c := by
      rcases h4 with ⟨q, -⟩ | ⟨q, -⟩
      · rw [q]; exact (hF.edge he).2.2.1
      · rw [q]; exact (hF.edge he).2.2.2.resolve_right z.2.1
    have hc := hF.c19
    rw [h1]
    exact decide_eq_true (nI_pos (by omega))
theorem WK.ul (hF : FL n c E hm fs fr eg fe fl) (h : WK c E fr eg fl wa cc ca ht) {e : Nat} (he : e < E) (hd : dw wa e = true) :
    gA wa 1 e = nI (ub wa e) ∧ gA wa 2 e = nI (lb wa e) ∧ ht (ub wa e) < ht (lb wa e) ∧ tb (gl fl 0) (ub wa e) = true ∧ tb (gl fl 0) (lb wa e) = true ∧ ((ub wa e = fr e ∧ lb wa e = eg e ∧ tb (Sp fl (eg e)) (fr e) = true) ∨ (ub wa e = eg e ∧ lb wa e = fr e)) := by
  have hc := hF.c19
  have z := (h.dw_iff hF he).mp hd
  obtain ⟨u, l, h1, h2, h3, h4⟩ := (h.2.2.1 e he).1 z
  have r1 : tb (gl fl 0) (fr e) = true := z.1
  have r2 : tb (gl fl 0) (eg e) = true := hF.r_edge he z.1 z.2.1
  have k1 := hF.r_lt r1
  have k2 := hF.r_lt r2
  have hu : u < 40 ∧ l < 40 ∧ tb (gl fl 0) u = true ∧ tb (gl fl 0) l = true := by
    rcases h4 with ⟨q, q2, -⟩ | ⟨q, q2⟩
    · rw [q, q2]; exact ⟨by omega, by omega, r1, r2⟩
    · rw [q, q2]; exact ⟨by omega, by omega, r2, r1⟩
  have e1 : ub wa e = u := by unfold ub; rw [h1, nN_nI (by omega)]
  have e2 : lb wa e = l := by unfold lb; rw [h2, nN_nI (by omega)]
  rw [e1, e2]
  exact ⟨h1, h2, h3, hu.2.2.1, hu.2.2.2, h4⟩
theorem draws_dw {e : Nat} (he : e < 80) : draws wa (nI e) = dw wa e := by
  unfold draws dw
  rw [rd_nI he (by decide)]
theorem top_eq (hF : FL n c E hm fs fr eg fe fl) (h : WK c E fr eg fl wa cc ca ht) {pi : Ob} {ly : Nat → Nat} (hl : LYR fl ly pi) {e : Nat} (he : e < E) (hd : dw wa e = true) : topE wa pi (nI e) = nI (ly (ub wa e)) ∧ botE wa pi (nI e) = nI (ly (lb wa e)) := by
  have hE := hF.e57
  have hc := hF.c19
  obtain ⟨h1, h2, h3, h4, h5, -⟩ := h.ul hF he hd
  have k1 := hF.r_lt h4
  have k2 := hF.r_lt h5
  unfold topE botE
  rw [rd_nI (by omega) (by decide), rd_nI (by omega) (by decide), h1, h2, rd_nI (by omega) (by decide), rd_nI (by omega) (by decide), hl _ (by omega), hl _ (by omega), if_pos h4, if_pos h5]
  exact ⟨rfl, rfl⟩
/-- one pass -/
theorem push_ok (hF : FL n c E hm fs fr eg fe fl) (h : WK c E fr eg fl wa cc ca ht) {pi : Ob} {ly0 : Nat → Nat} {p : Nat} (hE0 : gi pi 0 = nI E) (hl : LYR fl ly0 pi) (hle : ∀ b, tb (gl fl 0) b = true → ly0 b ≤ ht b) (hp : ∀ e, e < E → dw wa e = true → ht (lb wa e) ≤ p → ly0 (ub wa e) < ly0 (lb wa e)) :
    ∃ ly, LYR fl ly (pushDown wa pi).1 ∧ (∀ b, tb (gl fl 0) b = true → ly b ≤ ht b) ∧ (∀ e, e < E → dw wa e = true → ht (lb wa e) ≤ p + 1 → ly (ub wa e) < ly (lb wa e)) ∧ ((pushDown wa pi).2 = false → ∀ e, e < E → dw wa e = true → ly (ub wa e) < ly (lb wa e)) ∧ (∀ k, gi (pushDown wa pi).1 k = gi pi k) := by
  have hE := hF.e57
  have hc := hF.c19
  unfold pushDown
  rw [hE0, nN_nI (by omega)]
  have key := lp_ind (f := pdStep wa) (n := E) (s := (pi, false)) (fun i q => ∃ ly, LYR fl ly q.1 ∧ (∀ b, tb (gl fl 0) b = true → ly b ≤ ht b) ∧ (∀ b, tb (gl fl 0) b = true → ht b ≤ p → ly b = ly0 b) ∧ (∀ e, e < i → dw wa e = true → ht (lb wa e) ≤ p + 1 → ly (ub wa e) < ly (lb wa e)) ∧ (q.2 = false → ∀ e, e < i → dw wa e = true → ly (ub wa e) < ly (lb wa e)) ∧ (∀ k, gi q.1 k = gi pi k))
    ⟨ly0, hl, hle, fun _ _ _ => rfl, fun e he => absurd he (Nat.not_lt_zero e), fun _ e he => absurd he (Nat.not_lt_zero e), fun _ => rfl⟩ ?_
  · obtain ⟨ly, k1, k2, k3, k4, k5, k6⟩ := key
    exact ⟨ly, k1, k2, k4, k5, k6⟩
  · rintro i ⟨t, ch⟩ hi ⟨ly, k1, k2, k3, k4, k5, k6⟩
    simp only at k1 k5 k6
    unfold pdStep
    rw [draws_dw (by omega)]
    by_cases hd : dw wa i = true
    · obtain ⟨g1, g2, g3, g4, g5, -⟩ := h.ul hF hi hd
      obtain ⟨t1, t2⟩ := top_eq hF h k1 hi hd
      have q4 := hF.r_lt g4
      have q5 := hF.r_lt g5
      have b4 := k2 _ g4
      have b5 := k2 _ g5
      have b6 := h.2.2.2 _ g4
      have b7 := h.2.2.2 _ g5
      rw [if_pos hd, t1, t2]
      by_cases hlt : ly (ub wa i) < ly (lb wa i)
      · rw [if_pos (nI_lt hlt (by omega))]
        refine ⟨ly, k1, k2, k3, fun e he hde hz => ?_, fun hch e he hde => ?_, k6⟩
        · by_cases q : e = i
          · subst q; exact hlt
          · exact k4 e (by omega) hde hz
        · by_cases q : e = i
          · subst q; exact hlt
          · exact k5 hch e (by omega) hde
      · rw [if_neg (nI_nlt (by omega) (by omega))]
        have hnp : ¬ ht (lb wa i) ≤ p := fun z => by
          have a1 := hp i hi hd z
          have a2 := k3 _ g4 (by omega)
          have a3 := k3 _ g5 z
          omega
        have hul : ub wa i ≠ lb wa i := fun z => by rw [z] at g3; omega
        refine ⟨va_up ly (lb wa i) (ly (ub wa i) + 1), fun b hb => ?_, fun b hb => ?_, fun b hb hz => ?_, fun e he hde hz => ?_, fun hch => (by cases hch), fun k => ?_⟩
        · unfold pdPut
          simp only [gi_sl, gi_sA, gi_sB, gi_si_s, gi_si_n, gl_si, gl_sA, gl_sB, gl_sl_s, gl_sl_n, gA_si, gA_sl, gA_sB, gA_sA_s, gA_sA_n, gB_si, gB_sl, gB_sA, gB_sB_s, gB_sB_n, Nat.reduceBEq]
          rw [rd_nI (by omega) (by decide), g2, t1, nI_1, wr_nI (by omega) (by decide)]
          by_cases q : b = lb wa i
          · subst q; rw [upd_s, va_up_self, if_pos g5]
          · rw [upd_n _ _ q, va_up_ne _ _ q]; exact k1 b hb
        · by_cases q : b = lb wa i
          · subst q; rw [va_up_self]; omega
          · rw [va_up_ne _ _ q]; exact k2 b hb
        · by_cases q : b = lb wa i
          · subst q; exact absurd hz hnp
          · rw [va_up_ne _ _ q]; exact k3 b hb hz
        · obtain ⟨f1, f2, f3, f4, f5, -⟩ := h.ul hF (show e < E by omega) hde
          have hu : ub wa e ≠ lb wa i := fun z => by rw [z] at f3; omega
          rw [va_up_ne _ _ hu]
          by_cases q : e = i
          · subst q; rw [va_up_self]; omega
          · have a1 := k4 e (by omega) hde hz
            by_cases q2 : lb wa e = lb wa i
            · rw [q2, va_up_self]; rw [q2] at a1; omega
            · rw [va_up_ne _ _ q2]; exact a1
        · unfold pdPut; simp only [gi_sl, gi_sA, gi_sB, gi_si_s, gi_si_n, gl_si, gl_sA, gl_sB, gl_sl_s, gl_sl_n, gA_si, gA_sl, gA_sB, gA_sA_s, gA_sA_n, gB_si, gB_sl, gB_sA, gB_sB_s, gB_sB_n, Nat.reduceBEq]; exact k6 k
    · rw [if_neg hd]
      refine ⟨ly, k1, k2, k3, fun e he hde hz => ?_, fun hch e he hde => ?_, k6⟩
      · have : e ≠ i := fun q => by subst q; exact hd hde
        exact k4 e (by omega) hde hz
      · have : e ≠ i := fun q => by subst q; exact hd hde
        exact k5 hch e (by omega) hde
def LAY (E L : Nat) (fl wa : Ob) (ly : Nat → Nat) (pi : Ob) : Prop :=
  gi pi 0 = nI E ∧ gi pi 1 = nI L ∧ L ≤ 19 ∧ LYR fl ly pi ∧ (∀ b, tb (gl fl 0) b = true → ly b < L ∧ ly b < 19) ∧ (∀ e, e < E → dw wa e = true → ly (ub wa e) < ly (lb wa e))
theorem LAY.top (hF : FL n c E hm fs fr eg fe fl) (h : WK c E fr eg fl wa cc ca ht) {L : Nat} {ly : Nat → Nat} {pi : Ob} (hL : LAY E L fl wa ly pi) {e : Nat} (he : e < E) (hd : dw wa e = true) : topE wa pi (nI e) = nI (ly (ub wa e)) ∧ botE wa pi (nI e) = nI (ly (lb wa e)) ∧ ly (ub wa e) < ly (lb wa e) ∧ ly (lb wa e) < L ∧ ly (lb wa e) < 19 := by
  obtain ⟨g1, g2, g3, g4, g5, -⟩ := h.ul hF he hd
  obtain ⟨t1, t2⟩ := top_eq hF h hL.2.2.2.1 he hd
  exact ⟨t1, t2, hL.2.2.2.2.2 e he hd, hL.2.2.2.2.1 _ g5⟩
theorem layers_ok (hF : FL n c E hm fs fr eg fe fl) (h : WK c E fr eg fl wa cc ca ht) {pi : Ob} (hE0 : gi pi 0 = nI E) : ∃ (L : Nat) (ly : Nat → Nat), LAY E L fl wa ly (setLayers wa pi) ∧ gi (setLayers wa pi) 2 = gi pi 2 := by
  have hE := hF.e57
  have hc := hF.c19
  have h0 : LYR fl (fun _ => 0) (lp (slInit wa) 40 pi) ∧ ∀ k, gi (lp (slInit wa) 40 pi) k = gi pi k := by
    refine lp_ind (fun i t => (∀ b, b < i → gA t 0 b = if tb (gl fl 0) b = true then nI 0 else -1) ∧ ∀ k, gi t k = gi pi k) ⟨fun b hb => absurd hb (Nat.not_lt_zero b), fun _ => rfl⟩ (fun i t hi ht => ?_)
    unfold slInit
    simp only [gi_sl, gi_sA, gi_sB, gi_si_s, gi_si_n, gl_si, gl_sA, gl_sB, gl_sl_s, gl_sl_n, gA_si, gA_sl, gA_sB, gA_sA_s, gA_sA_n, gB_si, gB_sl, gB_sA, gB_sB_s, gB_sB_n, Nat.reduceBEq]
    rw [hs_tb _ (by omega), h.1, wr_nI hi (by decide)]
    refine ⟨fun b hb => ?_, ht.2⟩
    by_cases q : b = i
    · subst q; rw [upd_s]; rfl
    · rw [upd_n _ _ q]; exact ht.1 b (by omega)
  have key := lpW_ind (c := fun q : Ob × Bool => q.2) (f := fun q => pushDown wa q.1) (n := 40) (s := (lp (slInit wa) 40 pi, true)) (fun i q => ∃ ly, LYR fl ly q.1 ∧ (∀ b, tb (gl fl 0) b = true → ly b ≤ ht b) ∧ (∀ e, e < E → dw wa e = true → ht (lb wa e) ≤ i → ly (ub wa e) < ly (lb wa e)) ∧ (q.2 = false → ∀ e, e < E → dw wa e = true → ly (ub wa e) < ly (lb wa e)) ∧ (∀ k, gi q.1 k = gi pi k))
    ⟨fun _ => 0, h0.1, fun _ _ => Nat.zero_le _, fun e he hd hz => by have := (h.ul hF he hd).2.2.1; omega, (fun z => by cases z), h0.2⟩ ?_ ?_
  · unfold setLayers slPush
    generalize (lpW (fun q : Ob × Bool => q.2) (fun q => pushDown wa q.1) 40 (lp (slInit wa) 40 pi, true)) = w at key
    obtain ⟨ly, k1, k2, k3, -, k5⟩ := key
    have hsat : ∀ e, e < E → dw wa e = true → ly (ub wa e) < ly (lb wa e) := fun e he hd => k3 e he hd (by have := h.2.2.2 _ (h.ul hF he hd).2.2.2.2.1; omega)
    have h19 : ∀ b, tb (gl fl 0) b = true → ly b < 19 := fun b hb => by
      have := h.2.2.2 b hb
      have := k2 b hb
      omega
    have fin := lp_ind (f := slMax) (n := 40) (s := si w.1 1 0) (fun i t => gA t 0 = gA w.1 0 ∧ gi t 0 = gi pi 0 ∧ gi t 2 = gi pi 2 ∧ ∃ L, L ≤ 19 ∧ gi t 1 = nI L ∧ ∀ b, b < i → tb (gl fl 0) b = true → ly b < L)
      ⟨by simp only [gi_sl, gi_sA, gi_sB, gi_si_s, gi_si_n, gl_si, gl_sA, gl_sB, gl_sl_s, gl_sl_n, gA_si, gA_sl, gA_sB, gA_sA_s, gA_sA_n, gB_si, gB_sl, gB_sA, gB_sB_s, gB_sB_n, Nat.reduceBEq], by simp only [gi_sl, gi_sA, gi_sB, gi_si_s, gi_si_n, gl_si, gl_sA, gl_sB, gl_sl_s, gl_sl_n, gA_si, gA_sl, gA_sB, gA_sA_s, gA_sA_n, gB_si, gB_sl, gB_sA, gB_sB_s, gB_sB_n, Nat.reduceBEq]; exact k5 0, by simp only [gi_sl, gi_sA, gi_sB, gi_si_s, gi_si_n, gl_si, gl_sA, gl_sB, gl_sl_s, gl_sl_n, gA_si, gA_sl, gA_sB, gA_sA_s, gA_sA_n, gB_si, gB_sl, gB_sA, gB_sB_s, gB_sB_n, Nat.reduceBEq]; exact k5 2, 0, by decide, by simp only [gi_sl, gi_sA, gi_sB, gi_si_s, gi_si_n, gl_si, gl_sA, gl_sB, gl_sl_s, gl_sl_n, gA_si, gA_sl, gA_sB, gA_sA_s, gA_sA_n, gB_si, gB_sl, gB_sA, gB_sB_s, gB_sB_n, Nat.reduceBEq]; rfl, fun b hb => absurd hb (Nat.not_lt_zero b)⟩ (fun i t hi ht => by
        obtain ⟨f1, f2, f3, L, f4, f5, f6⟩ := ht
        unfold slMax
        simp only [gi_sl, gi_sA, gi_sB, gi_si_s, gi_si_n, gl_si, gl_sA, gl_sB, gl_sl_s, gl_sl_n, gA_si, gA_sl, gA_sB, gA_sA_s, gA_sA_n, gB_si, gB_sl, gB_sA, gB_sB_s, gB_sB_n, Nat.reduceBEq]
        refine ⟨f1, f2, f3, ?_⟩
        rw [rd_nI hi (by decide), f1, f5, k1 i hi]
        by_cases q : tb (gl fl 0) i = true
        · rw [if_pos q, nI_1]
          have q2 := h19 i q
          unfold imax
          by_cases q3 : L < ly i + 1
          · rw [if_pos (nI_lt q3 (by omega))]
            refine ⟨ly i + 1, by omega, rfl, fun b hb hr => ?_⟩
            by_cases q4 : b = i
            · subst q4; omega
            · have := f6 b (by omega) hr; omega
          · rw [if_neg (nI_nlt (by omega) (by omega))]
            refine ⟨L, f4, rfl, fun b hb hr => ?_⟩
            by_cases q4 : b = i
            · subst q4; omega
            · exact f6 b (by omega) hr
        · rw [if_neg q]
          unfold imax
          rw [show (-1 : Int32) + 1 = nI 0 from by decide, if_neg (nI_nlt (Nat.zero_le L) (by omega))]
          refine ⟨L, f4, rfl, fun b hb hr => ?_⟩
          have : b ≠ i := fun z => by subst z; exact q hr
          exact f6 b (by omega) hr)
    obtain ⟨f1, f2, f3, L, f4, f5, f6⟩ := fin
    refine ⟨L, ly, ⟨by rw [f2]; exact hE0, f5, f4, fun b hb => by rw [f1]; exact k1 b hb, fun b hb => ⟨f6 b (by have := hF.r_lt hb; omega) hb, h19 b hb⟩, hsat⟩, f3⟩
  · rintro i ⟨t, ch⟩ hi ⟨ly, k1, k2, k3, k4, k5⟩ hch
    obtain ⟨ly2, g1, g2, g3, g4, g5⟩ := push_ok hF h (by rw [k5]; exact hE0) k1 k2 k3
    exact ⟨ly2, g1, g2, g3, g4, fun k => by rw [g5]; exact k5 k⟩
  · rintro i ⟨t, ch⟩ hi ⟨ly, k1, k2, k3, k4, k5⟩ hch
    exact ⟨ly, k1, k2, fun e he hd _ => k4 hch e he hd, k4, k5⟩
/-! ===== Picture: the bends ===== -/
def bd (wa : Ob) (ly : Nat → Nat) (e : Nat) : Nat := if dw wa e = true then ly (lb wa e) - ly (ub wa e) - 1 else 0
def fbn (wa : Ob) (ly : Nat → Nat) (e : Nat) : Nat := 40 + fb_sm (bd wa ly) e
theorem bendCount_eq (hF : FL n c E hm fs fr eg fe fl) (h : WK c E fr eg fl wa cc ca ht) {L : Nat} {ly : Nat → Nat} {pi : Ob} (hL : LAY E L fl wa ly pi) {e : Nat} (he : e < E) : bendCount wa pi (nI e) = if dw wa e = true then nI (bd wa ly e) else -1 := by
  have hE := hF.e57
  unfold bendCount bd
  rw [draws_dw (by omega)]
  by_cases hd : dw wa e = true
  · obtain ⟨t1, t2, t3, t4, t5⟩ := hL.top hF h he hd
    rw [if_pos hd, if_pos hd, if_pos hd, t1, t2, pk_sub (by omega), show (1 : Int32) = nI 1 from rfl, pk_sub (by omega)]
  · rw [if_neg hd, if_neg hd]
theorem bd_le (hF : FL n c E hm fs fr eg fe fl) (h : WK c E fr eg fl wa cc ca ht) {L : Nat} {ly : Nat → Nat} {pi : Ob} (hL : LAY E L fl wa ly pi) {e : Nat} (he : e < E) : bd wa ly e ≤ 17 := by
  unfold bd
  by_cases hd : dw wa e = true
  · obtain ⟨t1, t2, t3, t4, t5⟩ := hL.top hF h he hd
    rw [if_pos hd]; omega
  · rw [if_neg hd]; omega
theorem fbn_le (hF : FL n c E hm fs fr eg fe fl) (h : WK c E fr eg fl wa cc ca ht) {L : Nat} {ly : Nat → Nat} {pi : Ob} (hL : LAY E L fl wa ly pi) {e : Nat} (he : e ≤ E) : fbn wa ly e ≤ 1009 := by
  have hE := hF.e57
  have : fb_sm (bd wa ly) e ≤ e * 17 := fb_sm_bound (fun k hk => bd_le hF h hL (by omega))
  unfold fbn
  omega
theorem fbn_s (ly : Nat → Nat) (e : Nat) : fbn wa ly (e + 1) = fbn wa ly e + bd wa ly e := by
  unfold fbn
  rw [fb_sm_succ]; omega
theorem fbn_mono (ly : Nat → Nat) {e e2 : Nat} (h : e < e2) : fbn wa ly e + bd wa ly e ≤ fbn wa ly e2 := by
  have := fb_sm_part (bd wa ly) h
  unfold fbn
  omega
theorem fbn_40 (ly : Nat → Nat) (e : Nat) : 40 ≤ fbn wa ly e := by unfold fbn; omega
/-- a number of a bend has one edge and one place on it -/
theorem fbn_inj {ly : Nat → Nat} {e e2 k k2 : Nat} (hk : k < bd wa ly e) (hk2 : k2 < bd wa ly e2) (h : fbn wa ly e + k = fbn wa ly e2 + k2) : e = e2 ∧ k = k2 := by
  rcases Nat.lt_trichotomy e e2 with q | q | q
  · have := fbn_mono (wa := wa) ly q; omega
  · subst q; exact ⟨rfl, by omega⟩
  · have := fbn_mono (wa := wa) ly q; omega
def BND (E : Nat) (wa : Ob) (ly : Nat → Nat) (pi : Ob) : Prop := (∀ e, e < E → gA pi 2 e = nI (fbn wa ly e)) ∧ (∀ e, e < E → ∀ k, k < bd wa ly e → gA pi 3 (fbn wa ly e + k) = nI e)
theorem bends_ok (hF : FL n c E hm fs fr eg fe fl) (h : WK c E fr eg fl wa cc ca ht) {L : Nat} {ly : Nat → Nat} {pi : Ob} (hL : LAY E L fl wa ly pi) : BND E wa ly (numberBends wa pi) ∧ LAY E L fl wa ly (numberBends wa pi) ∧ gi (numberBends wa pi) 2 = gi pi 2 := by
  have hE := hF.e57
  unfold numberBends
  rw [hL.1, nN_nI (by omega)]
  have key := lp_ind (f := nbStep wa) (n := E) (s := (pi, (40 : Int32))) (fun i q => q.2 = nI (fbn wa ly i) ∧ (∀ k, gi q.1 k = gi pi k) ∧ gA q.1 0 = gA pi 0 ∧ (∀ e, e < i → gA q.1 2 e = nI (fbn wa ly e)) ∧ (∀ e, e < i → ∀ k, k < bd wa ly e → gA q.1 3 (fbn wa ly e + k) = nI e))
    ⟨rfl, fun _ => rfl, rfl, fun e he => absurd he (Nat.not_lt_zero e), fun e he => absurd he (Nat.not_lt_zero e)⟩ ?_
  · obtain ⟨-, k2, k3, k4, k5⟩ := key
    obtain ⟨l1, l2, l3, l4, l5, l6⟩ := hL
    exact ⟨⟨k4, k5⟩, ⟨by rw [k2]; exact l1, by rw [k2]; exact l2, l3, fun b hb => by rw [k3]; exact l4 b hb, l5, l6⟩, k2 2⟩
  · rintro i ⟨t, num⟩ hi ⟨k1, k2, k3, k4, k5⟩
    simp only at k1 k2 k3 k4 k5
    subst k1
    have hb := fbn_le hF h hL (e := i) (by omega)
    have hb2 := fbn_le hF h hL (e := i + 1) (by omega)
    have hs := fbn_s (wa := wa) ly i
    unfold nbStep
    have e1 : nbPut i (t, nI (fbn wa ly i)) = sA t 2 (upd (gA t 2) i (nI (fbn wa ly i))) := by
      unfold nbPut
      rw [wr_nI (by omega) (by decide)]
    have hLt : LAY E L fl wa ly (nbPut i (t, nI (fbn wa ly i))) := by
      obtain ⟨l1, l2, l3, l4, l5, l6⟩ := hL
      rw [e1]
      refine ⟨by simp only [gi_sl, gi_sA, gi_sB, gi_si_s, gi_si_n, gl_si, gl_sA, gl_sB, gl_sl_s, gl_sl_n, gA_si, gA_sl, gA_sB, gA_sA_s, gA_sA_n, gB_si, gB_sl, gB_sA, gB_sB_s, gB_sB_n, Nat.reduceBEq]; rw [k2]; exact l1, by simp only [gi_sl, gi_sA, gi_sB, gi_si_s, gi_si_n, gl_si, gl_sA, gl_sB, gl_sl_s, gl_sl_n, gA_si, gA_sl, gA_sB, gA_sA_s, gA_sA_n, gB_si, gB_sl, gB_sA, gB_sB_s, gB_sB_n, Nat.reduceBEq]; rw [k2]; exact l2, l3, fun b hb => ?_, l5, l6⟩
      simp only [gi_sl, gi_sA, gi_sB, gi_si_s, gi_si_n, gl_si, gl_sA, gl_sB, gl_sl_s, gl_sl_n, gA_si, gA_sl, gA_sB, gA_sA_s, gA_sA_n, gB_si, gB_sl, gB_sA, gB_sB_s, gB_sB_n, Nat.reduceBEq]
      rw [k3]; exact l4 b hb
    have e2 : nN (bendCount wa (nbPut i (t, nI (fbn wa ly i))) (nI i)) = bd wa ly i := by
      rw [bendCount_eq hF h hLt hi]
      by_cases hd : dw wa i = true
      · rw [if_pos hd, nN_nI (by have := bd_le hF h hL hi; omega)]
      · rw [if_neg hd]
        unfold bd
        rw [if_neg hd]; decide
    rw [e2]
    have inn := lp_ind (f := nbIn i) (n := bd wa ly i) (s := (nbPut i (t, nI (fbn wa ly i)), nI (fbn wa ly i))) (fun k q => q.2 = nI (fbn wa ly i + k) ∧ (∀ k, gi q.1 k = gi pi k) ∧ gA q.1 0 = gA pi 0 ∧ gA q.1 2 = upd (gA t 2) i (nI (fbn wa ly i)) ∧ (∀ j, j < fbn wa ly i → gA q.1 3 j = gA t 3 j) ∧ (∀ k', k' < k → gA q.1 3 (fbn wa ly i + k') = nI i))
      ⟨rfl, fun k => by rw [e1]; simp only [gi_sl, gi_sA, gi_sB, gi_si_s, gi_si_n, gl_si, gl_sA, gl_sB, gl_sl_s, gl_sl_n, gA_si, gA_sl, gA_sB, gA_sA_s, gA_sA_n, gB_si, gB_sl, gB_sA, gB_sB_s, gB_sB_n, Nat.reduceBEq]; exact k2 k, by rw [e1]; simp only [gi_sl, gi_sA, gi_sB, gi_si_s, gi_si_n, gl_si, gl_sA, gl_sB, gl_sl_s, gl_sl_n, gA_si, gA_sl, gA_sB, gA_sA_s, gA_sA_n, gB_si, gB_sl, gB_sA, gB_sB_s, gB_sB_n, Nat.reduceBEq]; exact k3, by rw [e1]; simp only [gi_sl, gi_sA, gi_sB, gi_si_s, gi_si_n, gl_si, gl_sA, gl_sB, gl_sl_s, gl_sl_n, gA_si, gA_sl, gA_sB, gA_sA_s, gA_sA_n, gB_si, gB_sl, gB_sA, gB_sB_s, gB_sB_n, Nat.reduceBEq], fun j _ => by rw [e1]; simp only [gi_sl, gi_sA, gi_sB, gi_si_s, gi_si_n, gl_si, gl_sA, gl_sB, gl_sl_s, gl_sl_n, gA_si, gA_sl, gA_sB, gA_sA_s, gA_sA_n, gB_si, gB_sl, gB_sA, gB_sB_s, gB_sB_n, Nat.reduceBEq], fun k' hk => absurd hk (Nat.not_lt_zero k')⟩ ?_
    · obtain ⟨j1, j2, j3, j4, j5, j6⟩ := inn
      refine ⟨by rw [j1, hs], j2, j3, fun e he => ?_, fun e he k hk => ?_⟩
      · rw [j4]
        by_cases q : e = i
        · subst q; rw [upd_s]
        · rw [upd_n _ _ q]; exact k4 e (by omega)
      · by_cases q : e = i
        · subst q; exact j6 k hk
        · have := fbn_mono (wa := wa) ly (show e < i by omega)
          rw [j5 _ (by omega)]; exact k5 e (by omega) k hk
    · rintro k ⟨u, num⟩ hk ⟨j1, j2, j3, j4, j5, j6⟩
      simp only at j1 j2 j3 j4 j5 j6
      subst j1
      unfold nbIn
      simp only [gi_sl, gi_sA, gi_sB, gi_si_s, gi_si_n, gl_si, gl_sA, gl_sB, gl_sl_s, gl_sl_n, gA_si, gA_sl, gA_sB, gA_sA_s, gA_sA_n, gB_si, gB_sl, gB_sA, gB_sB_s, gB_sB_n, Nat.reduceBEq]
      rw [wr_nI (by omega) (by decide), nI_1]
      refine ⟨rfl, j2, j3, j4, fun j hj => ?_, fun k' hk' => ?_⟩
      · rw [upd_n _ _ (by omega)]; exact j5 j hj
      · by_cases q : k' = k
        · subst q; rw [upd_s]
        · rw [upd_n _ _ (by omega)]; exact j6 k' (by omega)
end LAYS
end
section
/-! ===== Picture: the points ===== -/
def SM45 (a b : Ob) : Prop := (∀ k, gi a k = gi b k) ∧ (∀ k, k ≠ 4 → k ≠ 5 → gA a k = gA b k)
theorem SM45.rf (a : Ob) : SM45 a a := ⟨fun _ => rfl, fun _ _ _ => rfl⟩
theorem sA_ne (o : Ob) (k j : Nat) (v : Nat → Int32) (h : j ≠ k) : gA (sA o k v) j = gA o j := gA_sA_n o k j v (by simp [h])
theorem put_eq {t : Ob} {l i p s0 : Nat} (hl : l < 41) (h1 : gA t 1 l = nI s0) (hi : i < 1600) (hp : p < 1600) (hs : s0 ≤ i) :
    gA (putPoint t (nI l) (nI i) (nI p)) 4 = upd (gA t 4) i (nI p) ∧ gA (putPoint t (nI l) (nI i) (nI p)) 5 = upd (gA t 5) p (nI (i - s0)) ∧ SM45 (putPoint t (nI l) (nI i) (nI p)) t := by
  unfold putPoint
  rw [wr_nI hi (by decide), wr_nI hp (by decide), rd_nI hl (by decide), h1, pk_sub hs]
  refine ⟨by simp only [gi_sl, gi_sA, gi_sB, gi_si_s, gi_si_n, gl_si, gl_sA, gl_sB, gl_sl_s, gl_sl_n, gA_si, gA_sl, gA_sB, gA_sA_s, gA_sA_n, gB_si, gB_sl, gB_sA, gB_sB_s, gB_sB_n, Nat.reduceBEq], by simp only [gi_sl, gi_sA, gi_sB, gi_si_s, gi_si_n, gl_si, gl_sA, gl_sB, gl_sl_s, gl_sl_n, gA_si, gA_sl, gA_sB, gA_sA_s, gA_sA_n, gB_si, gB_sl, gB_sA, gB_sB_s, gB_sB_n, Nat.reduceBEq], fun k => by simp only [gi_sl, gi_sA, gi_sB, gi_si_s, gi_si_n, gl_si, gl_sA, gl_sB, gl_sl_s, gl_sl_n, gA_si, gA_sl, gA_sB, gA_sA_s, gA_sA_n, gB_si, gB_sl, gB_sA, gB_sB_s, gB_sB_n, Nat.reduceBEq], fun k h4 h5 => ?_⟩
  rw [sA_ne _ _ _ _ h5, sA_ne _ _ _ _ h4]
theorem SM45.tr {a b d : Ob} (h : SM45 a b) (h2 : SM45 b d) : SM45 a d := ⟨fun k => (h.1 k).trans (h2.1 k), fun k h4 h5 => (h.2 k h4 h5).trans (h2.2 k h4 h5)⟩
theorem ct_lt_of {p : Nat → Bool} {i n : Nat} (hi : i < n) (h : p i = true) : fb_ct p i < fb_ct p n := by
  have := fb_ct_mono p (show i + 1 ≤ n from hi)
  rw [fb_ct_succ, if_pos h] at this
  omega
theorem list_loop {p : Nat → Bool} {q : Nat → Nat} {n a s0 l : Nat} {f : Nat → Ob × Int32 → Ob × Int32} {t0 : Ob}
    (hl : l < 41) (h1 : gA t0 1 l = nI s0) (hb : s0 + a + n < 1600) (hq : ∀ i, i < n → p i = true → q i < 1600) (hinj : ∀ i j, i < j → j < n → p i = true → p j = true → q i ≠ q j)
    (hf : ∀ i t k, i < n → SM45 t t0 → f i (t, nI k) = if p i = true then (putPoint t (nI l) (nI k) (nI (q i)), nI (k + 1)) else (t, nI k)) :
    ∃ t1, lp f n (t0, nI (s0 + a)) = (t1, nI (s0 + a + fb_ct p n)) ∧ SM45 t1 t0 ∧ (∀ j, j < s0 + a → gA t1 4 j = gA t0 4 j) ∧ (∀ i, i < n → p i = true → gA t1 4 (s0 + a + fb_ct p i) = nI (q i) ∧ gA t1 5 (q i) = nI (a + fb_ct p i)) ∧ (∀ pt, (∀ i, i < n → p i = true → q i ≠ pt) → gA t1 5 pt = gA t0 5 pt) := by
  have key := lp_ind (f := f) (n := n) (s := (t0, nI (s0 + a))) (fun m x => ∃ t1, x = (t1, nI (s0 + a + fb_ct p m)) ∧ SM45 t1 t0 ∧ (∀ j, j < s0 + a → gA t1 4 j = gA t0 4 j) ∧ (∀ i, i < m → p i = true → gA t1 4 (s0 + a + fb_ct p i) = nI (q i) ∧ gA t1 5 (q i) = nI (a + fb_ct p i)) ∧ (∀ pt, (∀ i, i < m → p i = true → q i ≠ pt) → gA t1 5 pt = gA t0 5 pt))
    ⟨t0, rfl, SM45.rf t0, fun _ _ => rfl, fun i hi => absurd hi (Nat.not_lt_zero i), fun _ _ => rfl⟩ ?_
  · exact key
  · rintro m x hm ⟨t1, rfl, k1, k2, k3, k4⟩
    rw [hf m t1 _ hm k1]
    have hct := fb_ct_le p m
    by_cases hp : p m = true
    · rw [if_pos hp]
      obtain ⟨g1, g2, g3⟩ := put_eq (t := t1) (l := l) (i := s0 + a + fb_ct p m) (p := q m) (s0 := s0) hl (by rw [k1.2 1 (by decide) (by decide)]; exact h1) (by omega) (hq m hm hp) (by omega)
      refine ⟨_, by rw [fb_ct_succ, if_pos hp]; rfl, g3.tr k1, fun j hj => ?_, fun i hi hpi => ?_, fun pt hpt => ?_⟩
      · rw [g1, upd_n _ _ (by omega)]; exact k2 j hj
      · rw [g1, g2]
        by_cases e : i = m
        · subst e
          rw [upd_s, upd_s]
          exact ⟨rfl, by congr 1; omega⟩
        · have h9 := ct_lt_of (show i < m by omega) hpi
          rw [upd_n _ _ (by omega), upd_n _ _ (hinj i m (by omega) hm hpi hp)]
          exact k3 i (by omega) hpi
      · rw [g2, upd_n _ _ (fun z => hpt m (by omega) hp z.symm)]
        exact k4 pt (fun i hi => hpt i (by omega))
    · rw [if_neg hp]
      refine ⟨t1, by rw [fb_ct_succ, if_neg hp, Nat.add_zero], k1, k2, fun i hi hpi => ?_, fun pt hpt => k4 pt (fun i hi => hpt i (by omega))⟩
      have : i ≠ m := fun z => by subst z; exact hp hpi
      exact k3 i (by omega) hpi
def PT (E : Nat) (fl wa : Ob) (ly : Nat → Nat) (l pt : Nat) : Prop := (tb (gl fl 0) pt = true ∧ ly pt = l) ∨ (∃ e, e < E ∧ dw wa e = true ∧ ly (ub wa e) < l ∧ l < ly (lb wa e) ∧ pt = fbn wa ly e + (l - ly (ub wa e) - 1))
def pA (ly ca : Nat → Nat) (l i : Nat) : Bool := decide (ly (ca i) = l)
def pB (wa : Ob) (ly : Nat → Nat) (l e : Nat) : Bool := dw wa e && (decide (ly (ub wa e) < l) && decide (l < ly (lb wa e)))
def zL (E cc : Nat) (wa : Ob) (ly ca : Nat → Nat) (l : Nat) : Nat := fb_ct (pA ly ca l) cc + fb_ct (pB wa ly l) E
def sF (E cc : Nat) (wa : Ob) (ly ca : Nat → Nat) (l : Nat) : Nat := fb_sm (zL E cc wa ly ca) l
/-- the orders of the layers below l -/
def PCi (l : Nat) (s : Nat → Nat) (P : Nat → Nat → Prop) (t : Ob) : Prop :=
  (∀ l', l' < l → ∀ i, s l' ≤ i → i < s (l' + 1) → ∃ pt, gA t 4 i = nI pt ∧ P l' pt ∧ gA t 5 pt = nI (i - s l')) ∧
  (∀ l', l' < l → ∀ pt, P l' pt → ∃ i, s l' ≤ i ∧ i < s (l' + 1) ∧ gA t 4 i = nI pt)
section FILLS
variable {n c E : Nat} {hm fs fr eg fe : Nat → Nat} {fl wa : Ob} {cc L : Nat} {ca ht ly : Nat → Nat}
theorem pB_iff {l e : Nat} : pB wa ly l e = true ↔ dw wa e = true ∧ ly (ub wa e) < l ∧ l < ly (lb wa e) := by
  unfold pB
  rw [Bool.and_eq_true, Bool.and_eq_true, decide_eq_true_iff, decide_eq_true_iff]
theorem pB_bd {l e : Nat} (h : pB wa ly l e = true) : l - ly (ub wa e) - 1 < bd wa ly e := by
  obtain ⟨h1, h2, h3⟩ := pB_iff.mp h
  unfold bd
  rw [if_pos h1]; omega
theorem PT_lt (hF : FL n c E hm fs fr eg fe fl) (h : WK c E fr eg fl wa cc ca ht) {pi : Ob} (hL : LAY E L fl wa ly pi) {l pt : Nat} (hp : PT E fl wa ly l pt) : pt < 1600 := by
  rcases hp with ⟨h1, -⟩ | ⟨e, he, hd, h1, h2, rfl⟩
  · have := hF.r_lt h1
    have := hF.c19
    omega
  · have a := fbn_le hF h hL (e := e) (by omega)
    have := pB_bd (pB_iff.mpr ⟨hd, h1, h2⟩)
    have := bd_le hF h hL he
    omega
/-- a point is in one layer -/
theorem PT_one (hF : FL n c E hm fs fr eg fe fl) {l l2 pt : Nat} (h1 : PT E fl wa ly l pt) (h2 : PT E fl wa ly l2 pt) : l = l2 := by
  have hc := hF.c19
  rcases h1 with ⟨a1, a2⟩ | ⟨e, he, hd, b1, b2, b3⟩
  · rcases h2 with ⟨d1, d2⟩ | ⟨e2, he2, hd2, f1, f2, f3⟩
    · omega
    · have := hF.r_lt a1
      have := fbn_40 (wa := wa) ly e2
      omega
  · rcases h2 with ⟨d1, d2⟩ | ⟨e2, he2, hd2, f1, f2, f3⟩
    · have := hF.r_lt d1
      have := fbn_40 (wa := wa) ly e
      omega
    · have := fbn_inj (pB_bd (pB_iff.mpr ⟨hd, b1, b2⟩)) (pB_bd (pB_iff.mpr ⟨hd2, f1, f2⟩)) (b3.symm.trans f3)
      obtain ⟨q1, q2⟩ := this
      subst q1
      omega
theorem zL_le (hE : E ≤ 57) (hcc : cc ≤ 19) (l : Nat) : zL E cc wa ly ca l ≤ 76 := by
  have := fb_ct_le (pA ly ca l) cc
  have := fb_ct_le (pB wa ly l) E
  unfold zL
  omega
theorem sF_le (hE : E ≤ 57) (hcc : cc ≤ 19) {l : Nat} (hl : l ≤ 19) : sF E cc wa ly ca l ≤ 1444 := by
  have : sF E cc wa ly ca l ≤ l * 76 := fb_sm_bound (fun k _ => zL_le hE hcc k)
  omega
theorem sF_s (l : Nat) : sF E cc wa ly ca (l + 1) = sF E cc wa ly ca l + zL E cc wa ly ca l := fb_sm_succ _ _
theorem sF_mono {l l2 : Nat} (h : l < l2) : sF E cc wa ly ca (l + 1) ≤ sF E cc wa ly ca l2 := by
  have := fb_sm_part (zL E cc wa ly ca) h
  rw [sF_s]
  exact this
theorem pn_mid (hF : FL n c E hm fs fr eg fe fl) (h : WK c E fr eg fl wa cc ca ht) {pi : Ob} (hL : LAY E L fl wa ly pi) (hB : ∀ e, e < E → gA pi 2 e = nI (fbn wa ly e)) {l e : Nat} (he : e < E) (hp : pB wa ly l e = true) : pointOn wa pi (nI e) (nI l) = nI (fbn wa ly e + (l - ly (ub wa e) - 1)) := by
  have hE := hF.e57
  obtain ⟨h1, h2, h3⟩ := pB_iff.mp hp
  obtain ⟨t1, t2, t3, t4, t5⟩ := hL.top hF h he h1
  have a := fbn_le hF h hL (e := e) (by omega)
  unfold pointOn
  rw [t1, t2, if_neg (fun z => by have := nI_inj (by omega) (by omega) z; omega), if_neg (fun z => by have := nI_inj (by omega) (by omega) z; omega), rd_nI (by omega) (by decide), hB e he, nI_add, pk_sub (by omega), show (1 : Int32) = nI 1 from rfl, pk_sub (by omega)]
  congr 1
  omega
theorem fill_ok (hF : FL n c E hm fs fr eg fe fl) (h : WK c E fr eg fl wa cc ca ht) {t : Ob} (hL : LAY E L fl wa ly t) (hB : ∀ e, e < E → gA t 2 e = nI (fbn wa ly e)) {l : Nat} (hl : l < L) (h1 : gA t 1 l = nI (sF E cc wa ly ca l)) :
    ∃ t1, fill wa t (nI l) (nI (sF E cc wa ly ca l)) = (t1, nI (sF E cc wa ly ca (l + 1))) ∧ SM45 t1 t ∧ (∀ j, j < sF E cc wa ly ca l → gA t1 4 j = gA t 4 j) ∧
      (∀ i, sF E cc wa ly ca l ≤ i → i < sF E cc wa ly ca (l + 1) → ∃ pt, gA t1 4 i = nI pt ∧ PT E fl wa ly l pt ∧ gA t1 5 pt = nI (i - sF E cc wa ly ca l)) ∧
      (∀ pt, PT E fl wa ly l pt → ∃ i, sF E cc wa ly ca l ≤ i ∧ i < sF E cc wa ly ca (l + 1) ∧ gA t1 4 i = nI pt) ∧ (∀ pt, ¬ PT E fl wa ly l pt → gA t1 5 pt = gA t 5 pt) := by
  have hE := hF.e57
  have hc := hF.c19
  have hLL := hL.2.2.1
  obtain ⟨w1, hcc, w3, w4, w5⟩ := h.2.1
  have hsl := sF_le (wa := wa) (ly := ly) (ca := ca) hE (show cc ≤ 19 by omega) (show l ≤ 19 by omega)
  have hss := sF_s (E := E) (cc := cc) (wa := wa) (ly := ly) (ca := ca) l
  have hz := zL_le (wa := wa) (ly := ly) (ca := ca) hE (show cc ≤ 19 by omega) l
  have hrc : ∀ i, i < cc → tb (gl fl 0) (ca i) = true := fun i hi => (w5 _).mpr ⟨i, hi, rfl⟩
  have hcac : ∀ i, i < cc → ca i < c := fun i hi => hF.r_lt (hrc i hi)
  generalize hsd : sF E cc wa ly ca l = s0 at *
  obtain ⟨ta, a1, a2, a3, a4, a5⟩ := list_loop (p := pA ly ca l) (q := ca) (n := cc) (a := 0) (s0 := s0) (l := l) (f := fiA wa (nI l)) (t0 := t) (by omega) h1 (by omega) (fun i hi _ => by have := hcac i hi; omega) (fun i j hij hj _ _ => w4 i j hij hj) (fun i t' k hi ht' => by
    have r1 := hrc i hi
    have r2 := hcac i hi
    have r3 := hL.2.2.2.2.1 _ r1
    unfold fiA pA
    simp only
    rw [rd_nI (by omega) (by decide), w3 i hi, rd_nI (by omega) (by decide), ht'.2 0 (by decide) (by decide), hL.2.2.2.1 _ (by omega), if_pos r1]
    by_cases q : ly (ca i) = l
    · rw [if_pos (by rw [q]), if_pos (decide_eq_true q), nI_1]
    · rw [if_neg (fun z => q (nI_inj (by omega) (by omega) z)), if_neg (by simp [q])])
  have hLa : LAY E L fl wa ly ta := by
    obtain ⟨l1, l2, l3, l4, l5, l6⟩ := hL
    exact ⟨by rw [a2.1]; exact l1, by rw [a2.1]; exact l2, l3, fun b hb => by rw [a2.2 0 (by decide) (by decide)]; exact l4 b hb, l5, l6⟩
  have hnA := fb_ct_le (pA ly ca l) cc
  generalize hna : fb_ct (pA ly ca l) cc = nA at *
  rw [Nat.add_zero] at a1
  obtain ⟨t1, b1, b2, b3, b4, b5⟩ := list_loop (p := pB wa ly l) (q := fun e => fbn wa ly e + (l - ly (ub wa e) - 1)) (n := E) (a := nA) (s0 := s0) (l := l) (f := fiB wa (nI l)) (t0 := ta) (by omega) (by rw [a2.2 1 (by decide) (by decide)]; exact h1) (by omega) (fun i hi hp => by
      have := pB_bd hp
      have := bd_le hF h hL hi
      have := fbn_le hF h hL (e := i) (by omega)
      show fbn wa ly i + (l - ly (ub wa i) - 1) < 1600
      omega) (fun i j hij hj hi hpj z => by
      have := (fbn_inj (pB_bd hi) (pB_bd hpj) z).1
      omega) (fun i t' k hi ht' => by
      have hLt : LAY E L fl wa ly t' := by
        obtain ⟨l1, l2, l3, l4, l5, l6⟩ := hLa
        exact ⟨by rw [ht'.1]; exact l1, by rw [ht'.1]; exact l2, l3, fun b hb => by rw [ht'.2 0 (by decide) (by decide)]; exact l4 b hb, l5, l6⟩
      have hBt : ∀ e, e < E → gA t' 2 e = nI (fbn wa ly e) := fun e he => by rw [ht'.2 2 (by decide) (by decide), a2.2 2 (by decide) (by decide)]; exact hB e he
      unfold fiB
      simp only
      rw [draws_dw (by omega)]
      by_cases hd : dw wa i = true
      · obtain ⟨u1, u2, u3, u4, u5⟩ := hLt.top hF h hi hd
        rw [if_pos hd, u1, u2]
        by_cases q1 : ly (ub wa i) < l
        · rw [if_pos (nI_lt q1 (by omega))]
          by_cases q2 : l < ly (lb wa i)
          · have hp : pB wa ly l i = true := pB_iff.mpr ⟨hd, q1, q2⟩
            rw [if_pos (nI_lt q2 (by omega)), if_pos hp, pn_mid hF h hLt hBt hi hp, nI_1]
          · rw [if_neg (nI_nlt (by omega) (by omega)), if_neg (fun z => q2 (pB_iff.mp z).2.2)]
        · rw [if_neg (nI_nlt (by omega) (by omega)), if_neg (fun z => q1 (pB_iff.mp z).2.1)]
      · rw [if_neg hd, if_neg (fun z => hd (pB_iff.mp z).1)])
  have hzz : zL E cc wa ly ca l = nA + fb_ct (pB wa ly l) E := by unfold zL; rw [hna]
  have hpl : ∀ i e, i < cc → ca i ≠ fbn wa ly e + (l - ly (ub wa e) - 1) := fun i e hi z => by
    have := hcac i hi
    have := fbn_40 (wa := wa) ly e
    omega
  refine ⟨t1, ?_, b2.tr a2, fun j hj => ?_, fun i hi1 hi2 => ?_, fun pt hpt => ?_, fun pt hpt => ?_⟩
  · unfold fill
    rw [h.2.1.1, nN_nI (by omega), a1, hL.1, nN_nI (by omega), b1, hss, hzz, Nat.add_assoc]
  · rw [b3 j (by omega)]; exact a3 j (by omega)
  · rw [hss, hzz] at hi2
    rcases Nat.lt_or_ge i (s0 + nA) with q | q
    · obtain ⟨x, x1, x2, x3⟩ := fb_ct_kth (p := pA ly ca l) (k := i - s0) (n := cc) (by omega)
      have y := a4 x x1 x2
      rw [x3, show s0 + 0 + (i - s0) = i by omega, Nat.zero_add] at y
      refine ⟨ca x, by rw [b3 i q]; exact y.1, Or.inl ⟨hrc x x1, of_decide_eq_true x2⟩, ?_⟩
      rw [b5 _ (fun e he hp z => hpl x e x1 z.symm)]
      exact y.2
    · obtain ⟨x, x1, x2, x3⟩ := fb_ct_kth (p := pB wa ly l) (k := i - s0 - nA) (n := E) (by omega)
      have y := b4 x x1 x2
      rw [x3, show s0 + nA + (i - s0 - nA) = i by omega, show nA + (i - s0 - nA) = i - s0 by omega] at y
      obtain ⟨z1, z2, z3⟩ := pB_iff.mp x2
      exact ⟨_, y.1, Or.inr ⟨x, x1, z1, z2, z3, rfl⟩, y.2⟩
  · rw [hss, hzz]
    rcases hpt with ⟨r1, r2⟩ | ⟨e, he, hd, r1, r2, rfl⟩
    · obtain ⟨x, x1, x2⟩ := (w5 pt).mp r1
      have hp : pA ly ca l x = true := by unfold pA; rw [x2]; exact decide_eq_true r2
      have y := a4 x x1 hp
      have q := ct_lt_of x1 hp
      refine ⟨s0 + 0 + fb_ct (pA ly ca l) x, by omega, by omega, ?_⟩
      rw [b3 _ (by omega), y.1, x2]
    · have hp := pB_iff.mpr ⟨hd, r1, r2⟩
      have y := b4 e he hp
      have q := ct_lt_of he hp
      exact ⟨s0 + nA + fb_ct (pB wa ly l) e, by omega, by omega, y.1⟩
  · rw [b5 pt (fun e he hp z => hpt (Or.inr ⟨e, he, (pB_iff.mp hp).1, (pB_iff.mp hp).2.1, (pB_iff.mp hp).2.2, z.symm⟩))]
    exact a5 pt (fun i hi hp z => hpt (Or.inl ⟨by rw [← z]; exact hrc i hi, by rw [← z]; exact of_decide_eq_true hp⟩))
/-- the picture, as it is drawn and after any sweeps -/
def PIC (E cc L : Nat) (fl wa : Ob) (ly ca : Nat → Nat) (t : Ob) : Prop :=
  LAY E L fl wa ly t ∧ BND E wa ly t ∧ (∀ l, l ≤ L → gA t 1 l = nI (sF E cc wa ly ca l)) ∧ PCi L (sF E cc wa ly ca) (PT E fl wa ly) t
theorem draw_ok (hF : FL n c E hm fs fr eg fe fl) (wa0 pi : Ob) : ∃ (cc L : Nat) (ca ht ly : Nat → Nat), WK c E fr eg fl (goThrough fl wa0) cc ca ht ∧ PIC E cc L fl (goThrough fl wa0) ly ca (draw fl wa0 pi) ∧ gi (draw fl wa0 pi) 2 = 0 := by
  have hE := hF.e57
  have hc := hF.c19
  obtain ⟨cc, ca, ht, h⟩ := walk_ok hF wa0
  have hcc := h.2.1.2.1
  obtain ⟨L, ly, h2, h3⟩ := layers_ok hF h (pi := si (si pi 0 (gi fl 1)) 2 0) (by simp only [gi_sl, gi_sA, gi_sB, gi_si_s, gi_si_n, gl_si, gl_sA, gl_sB, gl_sl_s, gl_sl_n, gA_si, gA_sl, gA_sB, gA_sA_s, gA_sA_n, gB_si, gB_sl, gB_sA, gB_sB_s, gB_sB_n, Nat.reduceBEq]; exact hF.ec)
  obtain ⟨h4, h5, h6⟩ := bends_ok hF h h2
  have hLL := h5.2.2.1
  refine ⟨cc, L, ca, ht, ly, h, ?_⟩
  unfold draw drFill drNum
  generalize goThrough fl wa0 = wa at *
  have e2 : gi (numberBends wa (setLayers wa (si (si pi 0 (gi fl 1)) 2 0))) 2 = 0 := by rw [h6, h3]; simp only [gi_sl, gi_sA, gi_sB, gi_si_s, gi_si_n, gl_si, gl_sA, gl_sB, gl_sl_s, gl_sl_n, gA_si, gA_sl, gA_sB, gA_sA_s, gA_sA_n, gB_si, gB_sl, gB_sA, gB_sB_s, gB_sB_n, Nat.reduceBEq]
  generalize numberBends wa (setLayers wa (si (si pi 0 (gi fl 1)) 2 0)) = t0 at *
  rw [h5.2.1, nN_nI (by omega)]
  have key := lp_ind (f := drStep wa) (n := L) (s := (t0, (0 : Int32))) (fun l x => ∃ t, x = (t, nI (sF E cc wa ly ca l)) ∧ (∀ k, gi t k = gi t0 k) ∧ gA t 0 = gA t0 0 ∧ gA t 2 = gA t0 2 ∧ gA t 3 = gA t0 3 ∧ (∀ l', l' < l → gA t 1 l' = nI (sF E cc wa ly ca l')) ∧ PCi l (sF E cc wa ly ca) (PT E fl wa ly) t)
    ⟨t0, rfl, fun _ => rfl, rfl, rfl, rfl, fun l' hl => absurd hl (Nat.not_lt_zero l'), fun l' hl => absurd hl (Nat.not_lt_zero l'), fun l' hl => absurd hl (Nat.not_lt_zero l')⟩ ?_
  · obtain ⟨t, e, k1, k2, k3, k4, k5, k6⟩ := key
    rw [e]
    simp only
    obtain ⟨l1, l2, l3, l4, l5, l6⟩ := h5
    rw [k1, l2, wr_nI (by omega) (by decide)]
    refine ⟨⟨⟨?_, ?_, l3, fun b hb => ?_, l5, l6⟩, ⟨fun e he => ?_, fun e he k hk => ?_⟩, fun l hl => ?_, ⟨fun l' hl' i hi1 hi2 => ?_, fun l' hl' pt hpt => ?_⟩⟩, ?_⟩ <;> simp only [gi_sl, gi_sA, gi_sB, gi_si_s, gi_si_n, gl_si, gl_sA, gl_sB, gl_sl_s, gl_sl_n, gA_si, gA_sl, gA_sB, gA_sA_s, gA_sA_n, gB_si, gB_sl, gB_sA, gB_sB_s, gB_sB_n, Nat.reduceBEq]
    · rw [k1]; exact l1
    · rw [k1]; exact l2
    · rw [k2]; exact l4 b hb
    · rw [k3]; exact h4.1 e he
    · rw [k4]; exact h4.2 e he k hk
    · by_cases q : l = L
      · subst q; rw [upd_s]
      · rw [upd_n _ _ q]; exact k5 l (by omega)
    · exact k6.1 l' hl' i hi1 hi2
    · exact k6.2 l' hl' pt hpt
    · rw [k1]; exact e2
  · rintro l x hl ⟨t, rfl, k1, k2, k3, k4, k5, k6⟩
    unfold drStep
    simp only
    rw [wr_nI (by omega) (by decide)]
    obtain ⟨l1, l2, l3, l4, l5, l6⟩ := h5
    obtain ⟨t1, f1, f2, f3, f4, f5, f6⟩ := fill_ok hF h (t := sA t 1 (upd (gA t 1) l (nI (sF E cc wa ly ca l)))) (L := L) (ly := ly) (l := l) ⟨by simp only [gi_sl, gi_sA, gi_sB, gi_si_s, gi_si_n, gl_si, gl_sA, gl_sB, gl_sl_s, gl_sl_n, gA_si, gA_sl, gA_sB, gA_sA_s, gA_sA_n, gB_si, gB_sl, gB_sA, gB_sB_s, gB_sB_n, Nat.reduceBEq]; rw [k1]; exact l1, by simp only [gi_sl, gi_sA, gi_sB, gi_si_s, gi_si_n, gl_si, gl_sA, gl_sB, gl_sl_s, gl_sl_n, gA_si, gA_sl, gA_sB, gA_sA_s, gA_sA_n, gB_si, gB_sl, gB_sA, gB_sB_s, gB_sB_n, Nat.reduceBEq]; rw [k1]; exact l2, l3, fun b hb => by simp only [gi_sl, gi_sA, gi_sB, gi_si_s, gi_si_n, gl_si, gl_sA, gl_sB, gl_sl_s, gl_sl_n, gA_si, gA_sl, gA_sB, gA_sA_s, gA_sA_n, gB_si, gB_sl, gB_sA, gB_sB_s, gB_sB_n, Nat.reduceBEq]; rw [k2]; exact l4 b hb, l5, l6⟩ (fun e he => by simp only [gi_sl, gi_sA, gi_sB, gi_si_s, gi_si_n, gl_si, gl_sA, gl_sB, gl_sl_s, gl_sl_n, gA_si, gA_sl, gA_sB, gA_sA_s, gA_sA_n, gB_si, gB_sl, gB_sA, gB_sB_s, gB_sB_n, Nat.reduceBEq]; rw [k3]; exact h4.1 e he) hl (by simp only [gi_sl, gi_sA, gi_sB, gi_si_s, gi_si_n, gl_si, gl_sA, gl_sB, gl_sl_s, gl_sl_n, gA_si, gA_sl, gA_sB, gA_sA_s, gA_sA_n, gB_si, gB_sl, gB_sA, gB_sB_s, gB_sB_n, Nat.reduceBEq]; rw [upd_s])
    rw [f1]
    refine ⟨t1, rfl, fun k => by rw [f2.1]; simp only [gi_sl, gi_sA, gi_sB, gi_si_s, gi_si_n, gl_si, gl_sA, gl_sB, gl_sl_s, gl_sl_n, gA_si, gA_sl, gA_sB, gA_sA_s, gA_sA_n, gB_si, gB_sl, gB_sA, gB_sB_s, gB_sB_n, Nat.reduceBEq]; exact k1 k, ?_, ?_, ?_, fun l' hl' => ?_, ⟨fun l' hl' i hi1 hi2 => ?_, fun l' hl' pt hpt => ?_⟩⟩
    · rw [f2.2 0 (by decide) (by decide)]; simp only [gi_sl, gi_sA, gi_sB, gi_si_s, gi_si_n, gl_si, gl_sA, gl_sB, gl_sl_s, gl_sl_n, gA_si, gA_sl, gA_sB, gA_sA_s, gA_sA_n, gB_si, gB_sl, gB_sA, gB_sB_s, gB_sB_n, Nat.reduceBEq]; exact k2
    · rw [f2.2 2 (by decide) (by decide)]; simp only [gi_sl, gi_sA, gi_sB, gi_si_s, gi_si_n, gl_si, gl_sA, gl_sB, gl_sl_s, gl_sl_n, gA_si, gA_sl, gA_sB, gA_sA_s, gA_sA_n, gB_si, gB_sl, gB_sA, gB_sB_s, gB_sB_n, Nat.reduceBEq]; exact k3
    · rw [f2.2 3 (by decide) (by decide)]; simp only [gi_sl, gi_sA, gi_sB, gi_si_s, gi_si_n, gl_si, gl_sA, gl_sB, gl_sl_s, gl_sl_n, gA_si, gA_sl, gA_sB, gA_sA_s, gA_sA_n, gB_si, gB_sl, gB_sA, gB_sB_s, gB_sB_n, Nat.reduceBEq]; exact k4
    · rw [f2.2 1 (by decide) (by decide)]; simp only [gi_sl, gi_sA, gi_sB, gi_si_s, gi_si_n, gl_si, gl_sA, gl_sB, gl_sl_s, gl_sl_n, gA_si, gA_sl, gA_sB, gA_sA_s, gA_sA_n, gB_si, gB_sl, gB_sA, gB_sB_s, gB_sB_n, Nat.reduceBEq]
      by_cases q : l' = l
      · subst q; rw [upd_s]
      · rw [upd_n _ _ q]; exact k5 l' (by omega)
    · by_cases q : l' = l
      · subst q; exact f4 i hi1 hi2
      · have hm := sF_mono (E := E) (cc := cc) (wa := wa) (ly := ly) (ca := ca) (show l' < l by omega)
        obtain ⟨pt, p1, p2, p3⟩ := k6.1 l' (by omega) i hi1 hi2
        refine ⟨pt, ?_, p2, ?_⟩
        · rw [f3 i (by omega)]; simp only [gi_sl, gi_sA, gi_sB, gi_si_s, gi_si_n, gl_si, gl_sA, gl_sB, gl_sl_s, gl_sl_n, gA_si, gA_sl, gA_sB, gA_sA_s, gA_sA_n, gB_si, gB_sl, gB_sA, gB_sB_s, gB_sB_n, Nat.reduceBEq]; exact p1
        · rw [f6 pt (fun z => q (PT_one hF p2 z))]; simp only [gi_sl, gi_sA, gi_sB, gi_si_s, gi_si_n, gl_si, gl_sA, gl_sB, gl_sl_s, gl_sl_n, gA_si, gA_sl, gA_sB, gA_sA_s, gA_sA_n, gB_si, gB_sl, gB_sA, gB_sB_s, gB_sB_n, Nat.reduceBEq]; exact p3
    · by_cases q : l' = l
      · subst q; exact f5 pt hpt
      · have hm := sF_mono (E := E) (cc := cc) (wa := wa) (ly := ly) (ca := ca) (show l' < l by omega)
        obtain ⟨i, p1, p2, p3⟩ := k6.2 l' (by omega) pt hpt
        exact ⟨i, p1, p2, by rw [f3 i (by omega)]; simp only [gi_sl, gi_sA, gi_sB, gi_si_s, gi_si_n, gl_si, gl_sA, gl_sB, gl_sl_s, gl_sl_n, gA_si, gA_sl, gA_sB, gA_sA_s, gA_sA_n, gB_si, gB_sl, gB_sA, gB_sB_s, gB_sB_n, Nat.reduceBEq]; exact p3⟩
/-- all points: the blocks that are reached, and all bends -/
theorem sm_one (P : Nat → Bool) : ∀ n, fb_sm (fun l => if P l = true then 1 else 0) n = fb_ct P n := by
  intro n
  induction n with
  | zero => rfl
  | succ n ih => rw [fb_sm_succ, fb_ct_succ, ih]
theorem sm_swap (P : Nat → Nat → Bool) (L : Nat) : ∀ n, fb_sm (fun l => fb_ct (P l) n) L = fb_sm (fun i => fb_ct (fun l => P l i) L) n := by
  intro n
  induction n with
  | zero =>
    exact (fb_sm_cong (g := fun _ => 0) (fun _ _ => rfl)).trans ((fb_sm_const 0 L).trans (Nat.mul_zero L))
  | succ n ih =>
    rw [fb_sm_succ, ← ih, ← sm_one, ← fb_sm_add]
    exact fb_sm_cong fun l _ => fb_ct_succ _ _
theorem ct_eq1 {a n : Nat} (h : a < n) : fb_ct (fun l => decide (a = l)) n = 1 := by
  have h1 : fb_ct (fun l => if l = a then true else false) n + (if false = true then 1 else 0) = fb_ct (fun _ => false) n + (if true = true then 1 else 0) := fb_ct_upd (fun _ => false) true h
  rw [if_neg (by decide), if_pos rfl, fb_ct_zero.mpr (fun _ _ => rfl)] at h1
  rw [fb_ct_cong (q := fun l => if l = a then true else false) (fun k _ => by
    by_cases e : k = a
    · subst e; simp
    · rw [if_neg e, decide_eq_false (fun z => e z.symm)])]
  omega
theorem ct_mid (a b : Nat) : ∀ n, fb_ct (fun l => decide (a < l) && decide (l < b)) n = min n b - (a + 1) := by
  intro n
  induction n with
  | zero => rw [show fb_ct (fun l => decide (a < l) && decide (l < b)) 0 = 0 from rfl]; omega
  | succ n ih =>
    rw [fb_ct_succ, ih]
    by_cases h1 : a < n
    · by_cases h2 : n < b
      · rw [decide_eq_true h1, decide_eq_true h2, if_pos (by decide)]; omega
      · rw [decide_eq_false h2, Bool.and_false, if_neg (by decide)]; omega
    · rw [decide_eq_false h1, Bool.false_and, if_neg (by decide)]; omega
theorem points_all (hF : FL n c E hm fs fr eg fe fl) (h : WK c E fr eg fl wa cc ca ht) {t : Ob} (hL : LAY E L fl wa ly t) : sF E cc wa ly ca L = cc + fb_sm (bd wa ly) E := by
  obtain ⟨w1, hcc, w3, w4, w5⟩ := h.2.1
  unfold sF
  rw [show fb_sm (zL E cc wa ly ca) L = fb_sm (fun l => fb_ct (pA ly ca l) cc + fb_ct (pB wa ly l) E) L from rfl, fb_sm_add, sm_swap (fun l i => pA ly ca l i), sm_swap (fun l e => pB wa ly l e)]
  congr 1
  · refine (fb_sm_cong (g := fun _ => 1) (fun i hi => ?_)).trans ((fb_sm_const 1 cc).trans (Nat.mul_one cc))
    exact ct_eq1 (hL.2.2.2.2.1 _ ((w5 _).mpr ⟨i, hi, rfl⟩)).1
  · refine fb_sm_cong fun e he => ?_
    unfold bd
    by_cases hd : dw wa e = true
    · obtain ⟨t1, t2, t3, t4, t5⟩ := hL.top hF h he hd
      rw [if_pos hd, fb_ct_cong (q := fun l => decide (ly (ub wa e) < l) && decide (l < ly (lb wa e))) (fun l _ => by unfold pB; rw [hd, Bool.true_and]), ct_mid]
      omega
    · rw [if_neg hd]
      exact fb_ct_zero.mpr (fun l _ => by unfold pB; rw [ts_nt hd, Bool.false_and])
end FILLS
end
section
/-! ===== Picture: a layer is ordered anew ===== -/
def EY (X : Nat → Bool) (a b : Ob) : Prop := (∀ k, k ≠ 2 → gi a k = gi b k) ∧ (∀ k, gl a k = gl b k) ∧ (∀ k, X k = false → gA a k = gA b k) ∧ (∀ k, gB a k = gB b k)
theorem EY.rf (X : Nat → Bool) (a : Ob) : EY X a a := ⟨fun _ _ => rfl, fun _ => rfl, fun _ _ => rfl, fun _ => rfl⟩
theorem EY.tr {X : Nat → Bool} {a b d : Ob} (h : EY X a b) (h2 : EY X b d) : EY X a d := ⟨fun k hk => (h.1 k hk).trans (h2.1 k hk), fun k => (h.2.1 k).trans (h2.2.1 k), fun k hk => (h.2.2.1 k hk).trans (h2.2.2.1 k hk), fun k => (h.2.2.2 k).trans (h2.2.2.2 k)⟩
theorem EY.sy {X : Nat → Bool} {a b : Ob} (h : EY X a b) : EY X b a := ⟨fun k hk => (h.1 k hk).symm, fun k => (h.2.1 k).symm, fun k hk => (h.2.2.1 k hk).symm, fun k => (h.2.2.2 k).symm⟩
theorem EY.mo {X Y : Nat → Bool} {a b : Ob} (h : EY X a b) (hXY : ∀ k, X k = true → Y k = true) : EY Y a b := ⟨h.1, h.2.1, fun k hk => h.2.2.1 k (by
  cases q : X k
  · rfl
  · rw [hXY k q] at hk; cases hk), h.2.2.2⟩
theorem EY.sA {X : Nat → Bool} {a b : Ob} (h : EY X a b) (k : Nat) (v : Nat → Int32) (hk : X k = true) : EY X (sA a k v) b := ⟨fun j hj => by rw [gi_sA]; exact h.1 j hj, fun j => by rw [gl_sA]; exact h.2.1 j, fun j hj => by
  rw [sA_ne _ _ _ _ (fun z => by rw [z, hk] at hj; cases hj)]; exact h.2.2.1 j hj, fun j => by rw [gB_sA]; exact h.2.2.2 j⟩
def X4 (k : Nat) : Bool := decide (k = 4)
def X45 (k : Nat) : Bool := decide (k = 4) || decide (k = 5)
def X78 (k : Nat) : Bool := decide (k = 7) || decide (k = 8)
def XAR (k : Nat) : Bool := X45 k || X78 k
def XSC (k : Nat) : Bool := decide (6 ≤ k)
theorem weigh_ey (wa pi : Ob) (l o z : Int32) : EY X78 (weigh wa pi l o z) pi ∧ gi (weigh wa pi l o z) 2 = gi pi 2 := by
  unfold weigh
  refine lp_ind (fun _ t => EY X78 t pi ∧ gi t 2 = gi pi 2) ?_ (fun i t hi h => ?_)
  · refine lp_ind (fun _ t => EY X78 t pi ∧ gi t 2 = gi pi 2) ?_ (fun i t hi h => ?_)
    · refine lp_ind (fun _ t => EY X78 t pi ∧ gi t 2 = gi pi 2) ⟨EY.rf _ _, rfl⟩ (fun i t hi h => ?_)
      unfold weA
      exact ⟨(h.1.sA 7 _ rfl).sA 8 _ rfl, by simp only [gi_sl, gi_sA, gi_sB, gi_si_s, gi_si_n, gl_si, gl_sA, gl_sB, gl_sl_s, gl_sl_n, gA_si, gA_sl, gA_sB, gA_sA_s, gA_sA_n, gB_si, gB_sl, gB_sA, gB_sB_s, gB_sB_n, Nat.reduceBEq]; exact h.2⟩
    · unfold weB
      split
      · exact ⟨(h.1.sA 7 _ rfl).sA 8 _ rfl, by simp only [gi_sl, gi_sA, gi_sB, gi_si_s, gi_si_n, gl_si, gl_sA, gl_sB, gl_sl_s, gl_sl_n, gA_si, gA_sl, gA_sB, gA_sA_s, gA_sA_n, gB_si, gB_sl, gB_sA, gB_sB_s, gB_sB_n, Nat.reduceBEq]; exact h.2⟩
      · exact h
  · unfold weC
    split
    · exact ⟨(h.1.sA 7 _ rfl).sA 8 _ rfl, by simp only [gi_sl, gi_sA, gi_sB, gi_si_s, gi_si_n, gl_si, gl_sA, gl_sB, gl_sl_s, gl_sl_n, gA_si, gA_sl, gA_sB, gA_sA_s, gA_sA_n, gB_si, gB_sl, gB_sA, gB_sB_s, gB_sB_n, Nat.reduceBEq]; exact h.2⟩
    · exact h
theorem slide_s (base pt : Int32) (k : Nat) (pi : Ob) : slide base pt (k + 1) pi = if isAhead pi pt (rd (gA pi 4) 1600 (base + nI (k + 1) - 1)) = true then slide base pt k (slidePut base k pi) else (pi, k + 1) := rfl
theorem slidePut_eq {s k : Nat} {pi : Ob} (h : s + (k + 1) < 1600) : slidePut (nI s) k pi = sA pi 4 (upd (gA pi 4) (s + (k + 1)) (gA pi 4 (s + k))) := by
  unfold slidePut
  rw [nI_add, show nI (s + (k + 1)) - 1 = nI (s + k) from nI_pred (s + k), wr_nI h (by decide), rd_nI (by omega) (by decide)]
theorem slide_res (s : Nat) (pt : Int32) : ∀ (k : Nat) (pi : Ob), s + k < 1600 → (slide (nI s) pt k pi).2 ≤ k ∧ EY X4 (slide (nI s) pt k pi).1 pi ∧ gi (slide (nI s) pt k pi).1 2 = gi pi 2 ∧ ∀ j, gA (slide (nI s) pt k pi).1 4 j = if s + (slide (nI s) pt k pi).2 < j ∧ j ≤ s + k then gA pi 4 (j - 1) else gA pi 4 j := by
  intro k
  induction k with
  | zero =>
    intro pi _
    refine ⟨Nat.le_refl _, EY.rf _ _, rfl, fun j => ?_⟩
    show gA pi 4 j = if s + 0 < j ∧ j ≤ s + 0 then _ else _
    rw [if_neg (by omega)]
  | succ k ih =>
    intro pi hk
    rw [slide_s]
    split
    · obtain ⟨h1, h2, h3, h4⟩ := ih (slidePut (nI s) k pi) (by omega)
      rw [slidePut_eq hk] at h1 h2 h3 h4 ⊢
      refine ⟨by omega, h2.tr ((EY.rf _ _).sA 4 _ rfl), by rw [h3]; simp only [gi_sl, gi_sA, gi_sB, gi_si_s, gi_si_n, gl_si, gl_sA, gl_sB, gl_sl_s, gl_sl_n, gA_si, gA_sl, gA_sB, gA_sA_s, gA_sA_n, gB_si, gB_sl, gB_sA, gB_sB_s, gB_sB_n, Nat.reduceBEq], fun j => ?_⟩
      rw [h4 j]
      simp only [gi_sl, gi_sA, gi_sB, gi_si_s, gi_si_n, gl_si, gl_sA, gl_sB, gl_sl_s, gl_sl_n, gA_si, gA_sl, gA_sB, gA_sA_s, gA_sA_n, gB_si, gB_sl, gB_sA, gB_sB_s, gB_sB_n, Nat.reduceBEq]
      generalize (slide (nI s) pt k (sA pi 4 (upd (gA pi 4) (s + (k + 1)) (gA pi 4 (s + k))))).2 = r at h1 ⊢
      by_cases q1 : s + r < j ∧ j ≤ s + k
      · rw [if_pos q1, if_pos (by omega), upd_n _ _ (by omega)]
      · rw [if_neg q1]
        by_cases q2 : j = s + (k + 1)
        · subst q2
          rw [upd_s, if_pos (by omega)]
          congr 1
        · rw [upd_n _ _ q2, if_neg (by omega)]
    · refine ⟨Nat.le_refl _, EY.rf _ _, rfl, fun j => ?_⟩
      show gA pi 4 j = if s + (k + 1) < j ∧ j ≤ s + (k + 1) then _ else _
      rw [if_neg (by omega)]
def PERM (z s : Nat) (g f : Nat → Int32) : Prop := ∃ σ : Nat → Nat, (∀ i, i < z → σ i < z) ∧ (∀ i j, i < j → j < z → σ i ≠ σ j) ∧ (∀ i, i < z → g (s + i) = f (s + σ i)) ∧ (∀ j, (j < s ∨ s + z ≤ j) → g j = f j)
theorem PERM.rf (z s : Nat) (f : Nat → Int32) : PERM z s f f := ⟨fun i => i, fun _ h => h, fun i j h _ e => (by have e2 : i = j := e; omega), fun _ _ => rfl, fun _ _ => rfl⟩
theorem PERM.rot {z s r i : Nat} {g f f0 : Nat → Int32} (h : PERM z s f f0) (hr : r ≤ i) (hi : i < z) (hg : ∀ j, g j = if j = s + r then f (s + i) else if s + r < j ∧ j ≤ s + i then f (j - 1) else f j) : PERM z s g f0 := by
  obtain ⟨σ, h1, h2, h3, h4⟩ := h
  have h2' : ∀ a b, a < z → b < z → a ≠ b → σ a ≠ σ b := fun a b ha hb hab => by
    rcases Nat.lt_or_ge a b with q | q
    · exact h2 a b q hb
    · exact fun e => h2 b a (by omega) ha e.symm
  have hρ : ∀ x, x < z → (if x = r then i else if r < x ∧ x ≤ i then x - 1 else x) < z := fun x hx => by
    split
    · exact hi
    · split <;> omega
  refine ⟨fun x => σ (if x = r then i else if r < x ∧ x ≤ i then x - 1 else x), fun x hx => h1 _ (hρ x hx), fun a b hab hb => h2' _ _ (hρ a (by omega)) (hρ b hb) ?_, fun x hx => ?_, fun j hj => ?_⟩
  · split <;> split <;> (try split) <;> (try split) <;> omega
  · rw [hg, ← h3 _ (hρ x hx)]
    by_cases q : x = r
    · subst q; rw [if_pos rfl, if_pos rfl]
    · rw [if_neg (show ¬ (s + x = s + r) by omega), if_neg q]
      by_cases q2 : r < x ∧ x ≤ i
      · rw [if_pos (show s + r < s + x ∧ s + x ≤ s + i by omega), if_pos q2, show s + x - 1 = s + (x - 1) by omega]
      · rw [if_neg (show ¬ (s + r < s + x ∧ s + x ≤ s + i) by omega), if_neg q2]
  · rw [hg, if_neg (by omega), if_neg (by omega)]
    exact h4 j hj
theorem arStep_eq {s j : Nat} {pi : Ob} (h : s + (j + 1) < 1600) : EY X4 (arStep (nI s) j pi) pi ∧ gi (arStep (nI s) j pi) 2 = gi pi 2 ∧ ∃ r, r ≤ j + 1 ∧ ∀ x, gA (arStep (nI s) j pi) 4 x = if x = s + r then gA pi 4 (s + (j + 1)) else if s + r < x ∧ x ≤ s + (j + 1) then gA pi 4 (x - 1) else gA pi 4 x := by
  unfold arStep arPoint
  rw [nI_add, rd_nI h (by decide)]
  obtain ⟨h1, h2, h3, h4⟩ := slide_res s (gA pi 4 (s + (j + 1))) (j + 1) pi h
  generalize slide (nI s) (gA pi 4 (s + (j + 1))) (j + 1) pi = w at h1 h2 h3 h4
  rw [nI_add, wr_nI (by omega) (by decide)]
  refine ⟨h2.sA 4 _ rfl, by simp only [gi_sl, gi_sA, gi_sB, gi_si_s, gi_si_n, gl_si, gl_sA, gl_sB, gl_sl_s, gl_sl_n, gA_si, gA_sl, gA_sB, gA_sA_s, gA_sA_n, gB_si, gB_sl, gB_sA, gB_sB_s, gB_sB_n, Nat.reduceBEq]; exact h3, w.2, h1, fun x => ?_⟩
  simp only [gi_sl, gi_sA, gi_sB, gi_si_s, gi_si_n, gl_si, gl_sA, gl_sB, gl_sl_s, gl_sl_n, gA_si, gA_sl, gA_sB, gA_sA_s, gA_sA_n, gB_si, gB_sl, gB_sA, gB_sB_s, gB_sB_n, Nat.reduceBEq]
  by_cases q : x = s + w.2
  · subst q; rw [upd_s, if_pos rfl]
  · rw [upd_n _ _ q, if_neg q]; exact h4 x
section SORTS
variable {n c E : Nat} {hm fs fr eg fe : Nat → Nat} {fl wa : Ob} {cc L : Nat} {ca ht ly : Nat → Nat}
theorem PIC.cong {a b : Ob} (h : PIC E cc L fl wa ly ca a) (h0 : gi b 0 = gi a 0) (h1 : gi b 1 = gi a 1) (hA : ∀ k, k < 6 → gA b k = gA a k) : PIC E cc L fl wa ly ca b := by
  obtain ⟨⟨l1, l2, l3, l4, l5, l6⟩, ⟨b1, b2⟩, s1, ⟨p1, p2⟩⟩ := h
  have e0 := hA 0 (by decide)
  have e1 := hA 1 (by decide)
  have e2 := hA 2 (by decide)
  have e3 := hA 3 (by decide)
  have e4 := hA 4 (by decide)
  have e5 := hA 5 (by decide)
  refine ⟨⟨by rw [h0]; exact l1, by rw [h1]; exact l2, l3, fun b hb => by rw [e0]; exact l4 b hb, l5, l6⟩, ⟨fun e he => by rw [e2]; exact b1 e he, fun e he k hk => by rw [e3]; exact b2 e he k hk⟩, fun l hl => by rw [e1]; exact s1 l hl, ⟨fun l hl i hi1 hi2 => ?_, fun l hl pt hpt => ?_⟩⟩
  · rw [e4, e5]; exact p1 l hl i hi1 hi2
  · rw [e4]; exact p2 l hl pt hpt
theorem size_eq {t : Ob} (h : PIC E cc L fl wa ly ca t) {l : Nat} (hl : l < L) : sizeOf t (nI l) = nI (zL E cc wa ly ca l) ∧ rd (gA t 1) 41 (nI l) = nI (sF E cc wa ly ca l) := by
  have hL := h.1.2.2.1
  have s1 := h.2.2.1 l (by omega)
  have s2 := h.2.2.1 (l + 1) hl
  unfold sizeOf
  rw [nI_1, rd_nI (by omega) (by decide), rd_nI (by omega) (by decide), s1, s2, sF_s, pk_sub (by omega)]
  exact ⟨by congr 1; omega, rfl⟩
theorem arrange_ok (hF : FL n c E hm fs fr eg fe fl) (h : WK c E fr eg fl wa cc ca ht) {t : Ob} (hP : PIC E cc L fl wa ly ca t) {l : Nat} (hl : l < L) (o : Int32) :
    PIC E cc L fl wa ly ca (arrange wa t (nI l) o) ∧ EY XAR (arrange wa t (nI l) o) t ∧ gi (arrange wa t (nI l) o) 2 = gi t 2 ∧
    (∀ j, (j < sF E cc wa ly ca l ∨ sF E cc wa ly ca (l + 1) ≤ j) → gA (arrange wa t (nI l) o) 4 j = gA t 4 j) ∧ (∀ p, ¬ PT E fl wa ly l p → gA (arrange wa t (nI l) o) 5 p = gA t 5 p) := by
  have hE := hF.e57
  have hc := hF.c19
  have hL := hP.1.2.2.1
  have hcc := h.2.1.2.1
  obtain ⟨z1, z2⟩ := size_eq hP hl
  have hz := zL_le (wa := wa) (ly := ly) (ca := ca) hE (show cc ≤ 19 by omega) l
  have hs := sF_le (wa := wa) (ly := ly) (ca := ca) hE (show cc ≤ 19 by omega) (show l ≤ 19 by omega)
  have hss := sF_s (E := E) (cc := cc) (wa := wa) (ly := ly) (ca := ca) l
  unfold arrange
  rw [z1, z2, nN_nI (by omega)]
  obtain ⟨w1, w2⟩ := weigh_ey wa t (nI l) o (nI (zL E cc wa ly ca l))
  generalize weigh wa t (nI l) o (nI (zL E cc wa ly ca l)) = w at w1 w2
  rw [hss]
  have hseg : ∀ i, i < zL E cc wa ly ca l → ∃ pt, gA t 4 (sF E cc wa ly ca l + i) = nI pt ∧ PT E fl wa ly l pt ∧ gA t 5 pt = nI i := fun i hi => by
    obtain ⟨pt, a1, a2, a3⟩ := hP.2.2.2.1 l hl (sF E cc wa ly ca l + i) (by omega) (by omega)
    exact ⟨pt, a1, a2, by rw [a3]; congr 1; omega⟩
  have hsur : ∀ pt, PT E fl wa ly l pt → ∃ i, i < zL E cc wa ly ca l ∧ gA t 4 (sF E cc wa ly ca l + i) = nI pt := fun pt hpt => by
    obtain ⟨i, a1, a2, a3⟩ := hP.2.2.2.2 l hl pt hpt
    exact ⟨i - sF E cc wa ly ca l, by omega, by rw [show sF E cc wa ly ca l + (i - sF E cc wa ly ca l) = i by omega]; exact a3⟩
  generalize hsd : sF E cc wa ly ca l = s at *
  generalize hzd : zL E cc wa ly ca l = z at *
  have mid := lp_ind (f := arStep (nI s)) (n := z - 1) (s := w) (fun _ u => EY XAR u t ∧ gi u 2 = gi t 2 ∧ gA u 5 = gA t 5 ∧ PERM z s (gA u 4) (gA t 4))
    ⟨w1.mo (fun k hk => by unfold XAR; rw [hk, Bool.or_true]), w2, w1.2.2.1 5 rfl, by rw [w1.2.2.1 4 rfl]; exact PERM.rf _ _ _⟩ (fun j u hj hu => by
      obtain ⟨a1, a2, r, a3, a4⟩ := arStep_eq (s := s) (j := j) (pi := u) (by omega)
      exact ⟨(a1.mo (fun k hk => by unfold XAR X45; unfold X4 at hk; rw [hk]; rfl)).tr hu.1, by rw [a2]; exact hu.2.1, by rw [a1.2.2.1 5 rfl]; exact hu.2.2.1, hu.2.2.2.rot a3 (by omega) a4⟩)
  generalize lp (arStep (nI s)) (z - 1) w = u at mid
  obtain ⟨u1, u2, u3, σ, p1, p2, p3, p4⟩ := mid
  have hT : ∃ T : Nat → Nat, ∀ i, i < z → gA t 4 (s + i) = nI (T i) ∧ PT E fl wa ly l (T i) ∧ gA t 5 (T i) = nI i := by
    refine ⟨fun i => if hi : i < z then (hseg i hi).choose else 0, fun i hi => ?_⟩
    simp only [dif_pos hi]
    exact (hseg i hi).choose_spec
  obtain ⟨T, hT⟩ := hT
  have hTinj : ∀ i j, i < z → j < z → T i = T j → i = j := fun i j hi hj e => by
    have a := (hT i hi).2.2
    have b := (hT j hj).2.2
    rw [e] at a
    exact nI_inj (by omega) (by omega) (a.symm.trans b)
  have hTlt : ∀ i, i < z → T i < 1600 := fun i hi => PT_lt hF h hP.1 (hT i hi).2.1
  have hg : ∀ i, i < z → gA u 4 (s + i) = nI (T (σ i)) := fun i hi => by rw [p3 i hi]; exact (hT _ (p1 i hi)).1
  have hσ : ∀ i j, i < z → j < z → σ i = σ j → i = j := fun i j hi hj e => by
    rcases Nat.lt_trichotomy i j with q | q | q
    · exact absurd e (p2 i j q hj)
    · exact q
    · exact absurd e.symm (p2 j i q hi)
  have st1 : gA u 1 l = nI s := by rw [u1.2.2.1 1 rfl, ← hsd]; exact hP.2.2.1 l (by omega)
  have fin := lp_ind (f := arPut (nI l) (nI s)) (n := z) (s := u) (fun i v => EY XAR v t ∧ gi v 2 = gi t 2 ∧ gA v 4 = gA u 4 ∧ (∀ i', i' < i → gA v 5 (T (σ i')) = nI i') ∧ (∀ p, (∀ i', i' < i → T (σ i') ≠ p) → gA v 5 p = gA u 5 p))
    ⟨u1, u2, rfl, fun i' hi => absurd hi (Nat.not_lt_zero i'), fun _ _ => rfl⟩ (fun i v hi hv => by
      obtain ⟨v1, v2, v3, v4, v5⟩ := hv
      have e1 : gA v 1 l = nI s := by rw [v1.2.2.1 1 rfl, ← u1.2.2.1 1 rfl]; exact st1
      obtain ⟨g1, g2, g3⟩ := put_eq (t := v) (l := l) (i := s + i) (p := T (σ i)) (s0 := s) (by omega) e1 (by omega) (hTlt _ (p1 i hi)) (by omega)
      have e2 : arPut (nI l) (nI s) i v = putPoint v (nI l) (nI (s + i)) (nI (T (σ i))) := by
        unfold arPut
        rw [nI_add, rd_nI (by omega) (by decide), v3, hg i hi]
      rw [e2]
      refine ⟨?_, by rw [g3.1]; exact v2, ?_, fun i' hi' => ?_, fun p hp => ?_⟩
      · unfold putPoint
        exact (v1.sA 4 _ rfl).sA 5 _ rfl
      · rw [g1, v3, ← hg i hi, upd_self]
      · rw [g2]
        by_cases q : i' = i
        · subst q; rw [upd_s]; congr 1; omega
        · rw [upd_n _ _ (fun e => q (hσ _ _ (by omega) hi (hTinj _ _ (p1 _ (by omega)) (p1 _ hi) e)))]
          exact v4 i' (by omega)
      · rw [g2, upd_n _ _ (fun e => hp i (by omega) e.symm)]
        exact v5 p (fun i' hi' => hp i' (by omega)))
  generalize lp (arPut (nI l) (nI s)) z u = v at fin
  obtain ⟨v1, v2, v3, v4, v5⟩ := fin
  have o1 : ∀ j, (j < s ∨ s + z ≤ j) → gA v 4 j = gA t 4 j := fun j hj => by rw [v3]; exact p4 j hj
  have o2 : ∀ p, ¬ PT E fl wa ly l p → gA v 5 p = gA t 5 p := fun p hp => by
    rw [v5 p (fun i hi e => hp (by rw [← e]; exact (hT _ (p1 i hi)).2.1)), u3]
  obtain ⟨⟨l1, l2, l3, l4, l5, l6⟩, ⟨b1, b2⟩, s1, ⟨q1, q2⟩⟩ := hP
  refine ⟨⟨⟨by rw [v1.1 0 (by decide)]; exact l1, by rw [v1.1 1 (by decide)]; exact l2, l3, fun b hb => by rw [v1.2.2.1 0 rfl]; exact l4 b hb, l5, l6⟩, ⟨fun e he => by rw [v1.2.2.1 2 rfl]; exact b1 e he, fun e he k hk => by rw [v1.2.2.1 3 rfl]; exact b2 e he k hk⟩, fun l' hl' => by rw [v1.2.2.1 1 rfl]; exact s1 l' hl', ⟨fun l' hl' i hi1 hi2 => ?_, fun l' hl' pt hpt => ?_⟩⟩, v1, v2, o1, o2⟩
  · by_cases q : l' = l
    · subst q
      rw [hsd] at hi1 ⊢
      rw [hss] at hi2
      have hi : i - s < z := by omega
      refine ⟨T (σ (i - s)), ?_, (hT _ (p1 _ hi)).2.1, v4 _ hi⟩
      rw [v3, show i = s + (i - s) by omega]
      have := hg (i - s) hi
      rw [this, show s + (i - s) - s = i - s by omega]
    · obtain ⟨pt, a1, a2, a3⟩ := q1 l' hl' i hi1 hi2
      refine ⟨pt, ?_, a2, by rw [o2 pt (fun e => q (PT_one hF a2 e))]; exact a3⟩
      rw [o1 i ?_]
      · exact a1
      · rcases Nat.lt_or_ge l' l with y | y
        · left
          have := sF_mono (E := E) (cc := cc) (wa := wa) (ly := ly) (ca := ca) y
          omega
        · right
          have := sF_mono (E := E) (cc := cc) (wa := wa) (ly := ly) (ca := ca) (show l < l' by omega)
          omega
  · by_cases q : l' = l
    · subst q
      obtain ⟨i, i1, i2⟩ := hsur pt hpt
      have e1 : T i = pt := by
        have := (hT i i1).1
        rw [i2] at this
        exact (nI_inj (by have := PT_lt hF h (pi := t) ⟨l1, l2, l3, l4, l5, l6⟩ hpt; omega) (by have := hTlt i i1; omega) this).symm
      obtain ⟨x, x1, x2⟩ := fb_onto p1 p2 i1
      refine ⟨s + x, by omega, by omega, ?_⟩
      rw [v3, hg x x1, x2, e1]
    · obtain ⟨i, a1, a2, a3⟩ := q2 l' hl' pt hpt
      refine ⟨i, a1, a2, ?_⟩
      rw [o1 i ?_]
      · exact a3
      · rcases Nat.lt_or_ge l' l with y | y
        · left
          have := sF_mono (E := E) (cc := cc) (wa := wa) (ly := ly) (ca := ca) y
          omega
        · right
          have := sF_mono (E := E) (cc := cc) (wa := wa) (ly := ly) (ca := ca) (show l < l' by omega)
          omega
end SORTS
end
section
/-! ===== what lies in the rows of work doesn't matter ===== -/
def REL (a b : Ob) : Prop := EY XSC a b ∧ gi a 2 = gi b 2
theorem REL.rf (a : Ob) : REL a a := ⟨EY.rf _ _, rfl⟩
theorem REL.sy {a b : Ob} (h : REL a b) : REL b a := ⟨h.1.sy, h.2.symm⟩
theorem REL.tr {a b d : Ob} (h : REL a b) (h2 : REL b d) : REL a d := ⟨h.1.tr h2.1, h.2.trans h2.2⟩
theorem REL.gi {a b : Ob} (h : REL a b) (k : Nat) : gi a k = gi b k := by
  by_cases q : k = 2
  · subst q; exact h.2
  · exact h.1.1 k q
theorem REL.row {a b : Ob} (h : REL a b) {k : Nat} (hk : k < 6) : gA a k = gA b k := h.1.2.2.1 k (decide_eq_false (by omega))
theorem REL.put {a b : Ob} (h : REL a b) (k : Nat) (v w : Nat → Int32) (hk : 6 ≤ k) : REL (sA a k v) (sA b k w) :=
  ⟨(h.1.sA k v (decide_eq_true hk)).tr ((EY.rf XSC b).sA k w (decide_eq_true hk)).sy, h.2⟩
theorem REL.put2 {a b : Ob} (h : REL a b) (k : Nat) {v w : Nat → Int32} (e : v = w) : REL (sA a k v) (sA b k w) := by
  subst e
  refine ⟨⟨fun j hj => h.1.1 j hj, fun j => h.1.2.1 j, fun j hj => ?_, fun j => h.1.2.2.2 j⟩, h.2⟩
  by_cases q : j = k
  · subst q; rw [gA_sA_s, gA_sA_s]
  · rw [sA_ne _ _ _ _ q, sA_ne _ _ _ _ q]; exact h.1.2.2.1 j hj
theorem REL.si2 {a b : Ob} (h : REL a b) {v w : Int32} (e : v = w) : REL (si a 2 v) (si b 2 w) := by
  subst e
  refine ⟨⟨fun j hj => ?_, fun j => h.1.2.1 j, fun j hj => h.1.2.2.1 j hj, fun j => h.1.2.2.2 j⟩, ?_⟩
  · rw [gi_si_n _ _ _ _ (by simp [hj]), gi_si_n _ _ _ _ (by simp [hj])]; exact h.1.1 j hj
  · rw [gi_si_s, gi_si_s]
theorem topE_c {wa a b : Ob} (h : gA a 0 = gA b 0) (e : Int32) : topE wa a e = topE wa b e := by unfold topE; rw [h]
theorem botE_c {wa a b : Ob} (h : gA a 0 = gA b 0) (e : Int32) : botE wa a e = botE wa b e := by unfold botE; rw [h]
theorem leaves_c {wa a b : Ob} (h : gA a 0 = gA b 0) (e l : Int32) : leaves wa a e l = leaves wa b e l := by unfold leaves; rw [topE_c h, botE_c h]
theorem pointOn_c {wa a b : Ob} (h : gA a 0 = gA b 0) (h2 : gA a 2 = gA b 2) (e l : Int32) : pointOn wa a e l = pointOn wa b e l := by unfold pointOn; rw [topE_c h, botE_c h, h2]
theorem weSpot_c {wa a b : Ob} (h : REL a b) (l : Int32) (e : Nat) : weSpot wa a l e = weSpot wa b l e := by
  unfold weSpot
  rw [pointOn_c (h.row (by decide)) (h.row (by decide)), h.row (k := 5) (by decide)]
def R7 (z : Nat) (a b : Ob) : Prop := REL a b ∧ (∀ j, j < z → gA a 7 j = gA b 7 j) ∧ (∀ j, j < z → gA a 8 j = gA b 8 j)
theorem wr_c {f g : Nat → Int32} {z : Nat} (hz : z ≤ 120) (h : ∀ j, j < z → f j = g j) (x y : Int32) : ∀ j, j < z → wr f 120 x (rd f 120 x + y) j = wr g 120 x (rd g 120 x + y) j := fun j hj => by
  rcases ix_case x with hx | ⟨q, hq, rfl⟩
  · rw [wr_neg hx, wr_neg hx]; exact h j hj
  · rcases Nat.lt_or_ge q 120 with q1 | q1
    · rw [wr_nI q1 (by decide), wr_nI q1 (by decide), rd_nI q1 (by decide), rd_nI q1 (by decide)]
      by_cases e : j = q
      · subst e; rw [upd_s, upd_s, h j hj]
      · rw [upd_n _ _ e, upd_n _ _ e]; exact h j hj
    · rw [wr_out q1 hq, wr_out q1 hq]; exact h j hj
theorem upd_c {f g : Nat → Int32} {z i : Nat} {v w : Int32} (h : ∀ j, j < z → f j = g j) (e : v = w) : ∀ j, j < z → upd f i v j = upd g i w j := fun j hj => by
  by_cases q : j = i
  · subst q; rw [upd_s, upd_s, e]
  · rw [upd_n _ _ q, upd_n _ _ q]; exact h j hj
theorem weigh_c {wa a b : Ob} {z : Nat} (hz : z ≤ 120) (h : REL a b) (l o : Int32) : R7 z (weigh wa a l o (nI z)) (weigh wa b l o (nI z)) := by
  unfold weigh
  rw [nN_nI (by omega), h.gi 0]
  refine lp_rel (fun _ x y => R7 z x y) ?_ (fun i x y hi hxy => ?_)
  · refine lp_rel (fun _ x y => R7 z x y) ?_ (fun i x y hi hxy => ?_)
    · have := lp_rel (f := weA) (g := weA) (n := z) (s := a) (t := b) (fun i x y => REL x y ∧ (∀ j, j < i → gA x 7 j = gA y 7 j) ∧ (∀ j, j < i → gA x 8 j = gA y 8 j)) ⟨h, fun j hj => absurd hj (Nat.not_lt_zero j), fun j hj => absurd hj (Nat.not_lt_zero j)⟩ (fun i x y hi hxy => by
        obtain ⟨h1, h2, h3⟩ := hxy
        unfold weA
        refine ⟨(h1.put 7 _ _ (by decide)).put 8 _ _ (by decide), fun j hj => ?_, fun j hj => ?_⟩ <;> simp only [gi_sl, gi_sA, gi_sB, gi_si_s, gi_si_n, gl_si, gl_sA, gl_sB, gl_sl_s, gl_sl_n, gA_si, gA_sl, gA_sB, gA_sA_s, gA_sA_n, gB_si, gB_sl, gB_sA, gB_sB_s, gB_sB_n, Nat.reduceBEq] <;> rw [wr_nI (by omega) (by decide), wr_nI (by omega) (by decide)]
        · by_cases q : j = i
          · subst q; rw [upd_s, upd_s]
          · rw [upd_n _ _ q, upd_n _ _ q]; exact h2 j (by omega)
        · by_cases q : j = i
          · subst q; rw [upd_s, upd_s]
          · rw [upd_n _ _ q, upd_n _ _ q]; exact h3 j (by omega))
      exact this
    · obtain ⟨h1, h2, h3⟩ := hxy
      unfold weB
      rw [leaves_c (h1.row (by decide)), weSpot_c h1, weSpot_c h1]
      split
      · refine ⟨(h1.put 7 _ _ (by decide)).put 8 _ _ (by decide), ?_, ?_⟩ <;> simp only [gi_sl, gi_sA, gi_sB, gi_si_s, gi_si_n, gl_si, gl_sA, gl_sB, gl_sl_s, gl_sl_n, gA_si, gA_sl, gA_sB, gA_sA_s, gA_sA_n, gB_si, gB_sl, gB_sA, gB_sB_s, gB_sB_n, Nat.reduceBEq]
        · exact wr_c hz h2 _ _
        · exact wr_c hz h3 _ _
      · exact ⟨h1, h2, h3⟩
  · obtain ⟨h1, h2, h3⟩ := hxy
    unfold weC
    rw [rd_nI (by omega) (by decide), rd_nI (by omega) (by decide), h3 i hi]
    split
    · refine ⟨(h1.put 7 _ _ (by decide)).put 8 _ _ (by decide), ?_, ?_⟩ <;> simp only [gi_sl, gi_sA, gi_sB, gi_si_s, gi_si_n, gl_si, gl_sA, gl_sB, gl_sl_s, gl_sl_n, gA_si, gA_sl, gA_sB, gA_sA_s, gA_sA_n, gB_si, gB_sl, gB_sA, gB_sB_s, gB_sB_n, Nat.reduceBEq] <;> rw [wr_nI (by omega) (by decide), wr_nI (by omega) (by decide)]
      · exact upd_c h2 rfl
      · exact upd_c h3 rfl
    · exact ⟨h1, h2, h3⟩
def okp (z : Nat) (a : Ob) (x : Int32) : Prop := ∃ p q, x = nI p ∧ p < 1600 ∧ gA a 5 p = nI q ∧ q < z
theorem isAhead_c {a b : Ob} {z : Nat} {x y : Int32} (hz : z ≤ 120) (h : R7 z a b) (hx : okp z a x) (hy : okp z a y) : isAhead a x y = isAhead b x y := by
  obtain ⟨p, q, rfl, p1, p2, p3⟩ := hx
  obtain ⟨p', q', rfl, p1', p2', p3'⟩ := hy
  obtain ⟨h1, h2, h3⟩ := h
  unfold isAhead
  rw [← h1.row (k := 5) (by decide), rd_nI p1 (by decide), rd_nI p1' (by decide), p2, p2', rd_nI (by omega) (by decide), rd_nI (by omega) (by decide), rd_nI (by omega) (by decide), rd_nI (by omega) (by decide), rd_nI (by omega) (by decide), rd_nI (by omega) (by decide), rd_nI (by omega) (by decide), rd_nI (by omega) (by decide), h2 q p3, h2 q' p3', h3 q p3, h3 q' p3']
theorem slide_c {z s : Nat} {pt : Int32} (hz : z ≤ 120) : ∀ (k : Nat) (a b : Ob), s + k < 1600 → R7 z a b → okp z a pt → (∀ j, j ≤ k → okp z a (gA a 4 (s + j))) → (slide (nI s) pt k a).2 = (slide (nI s) pt k b).2 ∧ R7 z (slide (nI s) pt k a).1 (slide (nI s) pt k b).1 := by
  intro k
  induction k with
  | zero => intro a b _ h _ _; exact ⟨rfl, h⟩
  | succ k ih =>
    intro a b hk h hp hs
    have e4 : gA a 4 = gA b 4 := h.1.row (by decide)
    rw [slide_s, slide_s, nI_add, show nI (s + (k + 1)) - 1 = nI (s + k) from nI_pred (s + k), rd_nI (by omega) (by decide), rd_nI (by omega) (by decide), ← e4, isAhead_c hz h hp (hs k (by omega))]
    split
    · rw [slidePut_eq hk, slidePut_eq hk]
      refine ih _ _ (by omega) ⟨h.1.put2 4 (by rw [e4]), ?_, ?_⟩ ?_ (fun j hj => ?_)
      · simp only [gi_sl, gi_sA, gi_sB, gi_si_s, gi_si_n, gl_si, gl_sA, gl_sB, gl_sl_s, gl_sl_n, gA_si, gA_sl, gA_sB, gA_sA_s, gA_sA_n, gB_si, gB_sl, gB_sA, gB_sB_s, gB_sB_n, Nat.reduceBEq]; exact h.2.1
      · simp only [gi_sl, gi_sA, gi_sB, gi_si_s, gi_si_n, gl_si, gl_sA, gl_sB, gl_sl_s, gl_sl_n, gA_si, gA_sl, gA_sB, gA_sA_s, gA_sA_n, gB_si, gB_sl, gB_sA, gB_sB_s, gB_sB_n, Nat.reduceBEq]; exact h.2.2
      · unfold okp; simp only [gi_sl, gi_sA, gi_sB, gi_si_s, gi_si_n, gl_si, gl_sA, gl_sB, gl_sl_s, gl_sl_n, gA_si, gA_sl, gA_sB, gA_sA_s, gA_sA_n, gB_si, gB_sl, gB_sA, gB_sB_s, gB_sB_n, Nat.reduceBEq]; exact hp
      · unfold okp; simp only [gi_sl, gi_sA, gi_sB, gi_si_s, gi_si_n, gl_si, gl_sA, gl_sB, gl_sl_s, gl_sl_n, gA_si, gA_sl, gA_sB, gA_sA_s, gA_sA_n, gB_si, gB_sl, gB_sA, gB_sB_s, gB_sB_n, Nat.reduceBEq]
        by_cases q : s + j = s + (k + 1)
        · rw [q, upd_s]; exact hs k (by omega)
        · rw [upd_n _ _ q]; exact hs j (by omega)
    · exact ⟨rfl, h⟩
theorem arStep_c {z s j : Nat} {a b : Ob} (hz : z ≤ 120) (hj : j + 1 < z) (hs : s + z ≤ 1600) (h : R7 z a b) (hk : ∀ x, x < z → okp z a (gA a 4 (s + x))) : R7 z (arStep (nI s) j a) (arStep (nI s) j b) ∧ ∀ x, x < z → okp z (arStep (nI s) j a) (gA (arStep (nI s) j a) 4 (s + x)) := by
  have e4 : gA a 4 = gA b 4 := h.1.row (by decide)
  constructor
  · unfold arStep arPoint
    rw [nI_add, rd_nI (by omega) (by decide), rd_nI (by omega) (by decide), ← e4]
    obtain ⟨h1, h2, h3, h4⟩ := slide_c (s := s) (pt := gA a 4 (s + (j + 1))) hz (j + 1) a b (by omega) h (hk _ hj) (fun x hx => hk x (by omega))
    rw [← h1]
    refine ⟨h2.put2 4 (by rw [h2.row (k := 4) (by decide)]), ?_, ?_⟩ <;> simp only [gi_sl, gi_sA, gi_sB, gi_si_s, gi_si_n, gl_si, gl_sA, gl_sB, gl_sl_s, gl_sl_n, gA_si, gA_sl, gA_sB, gA_sA_s, gA_sA_n, gB_si, gB_sl, gB_sA, gB_sB_s, gB_sB_n, Nat.reduceBEq]
    · exact h3
    · exact h4
  · obtain ⟨a1, a2, r, a3, a4⟩ := arStep_eq (s := s) (j := j) (pi := a) (by omega)
    intro x hx
    unfold okp
    rw [a4, a1.2.2.1 5 rfl]
    split
    · exact hk _ hj
    · split
      · rw [show s + x - 1 = s + (x - 1) by omega]; exact hk _ (by omega)
      · exact hk x hx
section CONGS
variable {n c E : Nat} {hm fs fr eg fe : Nat → Nat} {fl wa : Ob} {cc L : Nat} {ca ht ly : Nat → Nat}
theorem arrange_c (hF : FL n c E hm fs fr eg fe fl) (h : WK c E fr eg fl wa cc ca ht) {a b : Ob} (hP : PIC E cc L fl wa ly ca a) (hR : REL a b) {l : Nat} (hl : l < L) (o : Int32) : REL (arrange wa a (nI l) o) (arrange wa b (nI l) o) := by
  have hE := hF.e57
  have hc := hF.c19
  have hL := hP.1.2.2.1
  have hcc := h.2.1.2.1
  obtain ⟨z1, z2⟩ := size_eq hP hl
  have hPb : PIC E cc L fl wa ly ca b := hP.cong (hR.gi 0).symm (hR.gi 1).symm (fun k hk => (hR.row hk).symm)
  obtain ⟨z3, z4⟩ := size_eq hPb hl
  have hz := zL_le (wa := wa) (ly := ly) (ca := ca) hE (show cc ≤ 19 by omega) l
  have hs := sF_le (wa := wa) (ly := ly) (ca := ca) hE (show cc ≤ 19 by omega) (show l ≤ 19 by omega)
  have hss := sF_s (E := E) (cc := cc) (wa := wa) (ly := ly) (ca := ca) l
  unfold arrange
  rw [z1, z2, z3, z4, nN_nI (by omega)]
  have hseg : ∀ i, i < zL E cc wa ly ca l → okp (zL E cc wa ly ca l) a (gA a 4 (sF E cc wa ly ca l + i)) := fun i hi => by
    obtain ⟨pt, a1, a2, a3⟩ := hP.2.2.2.1 l hl (sF E cc wa ly ca l + i) (by omega) (by omega)
    exact ⟨pt, i, a1, PT_lt hF h hP.1 a2, by rw [a3]; congr 1; omega, hi⟩
  generalize sF E cc wa ly ca l = s at *
  generalize zL E cc wa ly ca l = z at *
  have w := weigh_c (wa := wa) (z := z) (by omega) hR (nI l) o
  obtain ⟨wa1, -⟩ := weigh_ey wa a (nI l) o (nI z)
  have hseg2 : ∀ i, i < z → okp z (weigh wa a (nI l) o (nI z)) (gA (weigh wa a (nI l) o (nI z)) 4 (s + i)) := fun i hi => by
    unfold okp
    rw [wa1.2.2.1 4 rfl, wa1.2.2.1 5 rfl]
    exact hseg i hi
  have mid := lp_rel (f := arStep (nI s)) (g := arStep (nI s)) (n := z - 1) (s := weigh wa a (nI l) o (nI z)) (t := weigh wa b (nI l) o (nI z)) (fun _ x y => R7 z x y ∧ ∀ i, i < z → okp z x (gA x 4 (s + i))) ⟨w, hseg2⟩ (fun j x y hj hxy => arStep_c (by omega) (by omega) (by omega) hxy.1 hxy.2)
  refine lp_rel (fun _ x y => REL x y) mid.1.1 (fun i x y hi hxy => ?_)
  unfold arPut putPoint
  rw [← hxy.row (k := 4) (by decide), ← hxy.row (k := 5) (by decide), ← hxy.row (k := 1) (by decide)]
  exact (hxy.put2 4 rfl).put2 5 rfl
theorem soK_ok (hF : FL n c E hm fs fr eg fe fl) (h : WK c E fr eg fl wa cc ca ht) {a : Ob} (hP : PIC E cc L fl wa ly ca a) (down : Bool) {j : Nat} (hj : j < L - 1) :
    PIC E cc L fl wa ly ca (soK wa down j a) ∧ EY XAR (soK wa down j a) a ∧ gi (soK wa down j a) 2 = gi a 2 ∧ (∀ x, sF E cc wa ly ca L ≤ x → gA (soK wa down j a) 4 x = gA a 4 x) ∧ (∀ p, (∀ l, l < L → ¬ PT E fl wa ly l p) → gA (soK wa down j a) 5 p = gA a 5 p) ∧ ∀ b, REL a b → REL (soK wa down j a) (soK wa down j b) := by
  have hL := hP.1.2.2.1
  have key : ∀ l o, l < L → PIC E cc L fl wa ly ca (arrange wa a (nI l) o) ∧ EY XAR (arrange wa a (nI l) o) a ∧ gi (arrange wa a (nI l) o) 2 = gi a 2 ∧ (∀ x, sF E cc wa ly ca L ≤ x → gA (arrange wa a (nI l) o) 4 x = gA a 4 x) ∧ (∀ p, (∀ l, l < L → ¬ PT E fl wa ly l p) → gA (arrange wa a (nI l) o) 5 p = gA a 5 p) ∧ ∀ b, REL a b → REL (arrange wa a (nI l) o) (arrange wa b (nI l) o) := fun l o hl => by
    obtain ⟨k1, k2, k3, k4, k5⟩ := arrange_ok hF h hP hl o
    have hm := sF_mono (E := E) (cc := cc) (wa := wa) (ly := ly) (ca := ca) hl
    exact ⟨k1, k2, k3, fun x hx => k4 x (Or.inr (by omega)), fun p hp => k5 p (hp l hl), fun b hb => arrange_c hF h hP hb hl o⟩
  unfold soK
  cases down
  · rw [if_neg (by decide), hP.1.2.1, show (1 : Int32) = nI 1 from rfl, pk_sub (by omega), pk_sub (by omega), pk_sub (by omega)]
    obtain ⟨k1, k2, k3, k4, k5, k6⟩ := key (L - 1 - (j + 1)) (nI (L - (j + 1))) (by omega)
    refine ⟨k1, k2, k3, k4, k5, fun b hb => ?_⟩
    rw [if_neg (by decide), ← hb.gi 1, hP.1.2.1, pk_sub (by omega), pk_sub (by omega), pk_sub (by omega)]
    exact k6 b hb
  · rw [if_pos rfl]
    obtain ⟨k1, k2, k3, k4, k5, k6⟩ := key (j + 1) (nI (j + 1) - 1) (by omega)
    refine ⟨k1, k2, k3, k4, k5, fun b hb => ?_⟩
    rw [if_pos rfl]
    exact k6 b hb
theorem sweep_ok (hF : FL n c E hm fs fr eg fe fl) (h : WK c E fr eg fl wa cc ca ht) {a : Ob} (hP : PIC E cc L fl wa ly ca a) (many : Int32) :
    PIC E cc L fl wa ly ca (sweepOften wa a many) ∧ EY XAR (sweepOften wa a many) a ∧ gi (sweepOften wa a many) 2 = gi a 2 + nI (nN many) ∧ (∀ x, sF E cc wa ly ca L ≤ x → gA (sweepOften wa a many) 4 x = gA a 4 x) ∧ (∀ p, (∀ l, l < L → ¬ PT E fl wa ly l p) → gA (sweepOften wa a many) 5 p = gA a 5 p) := by
  have hL := hP.1.2.2.1
  unfold sweepOften
  refine lp_ind (fun i t => PIC E cc L fl wa ly ca t ∧ EY XAR t a ∧ gi t 2 = gi a 2 + nI i ∧ (∀ x, sF E cc wa ly ca L ≤ x → gA t 4 x = gA a 4 x) ∧ (∀ p, (∀ l, l < L → ¬ PT E fl wa ly l p) → gA t 5 p = gA a 5 p))
    ⟨hP, EY.rf _ _, by rw [nI_0, Int32.add_zero], fun _ _ => rfl, fun _ _ => rfl⟩ (fun i t hi ht => ?_)
  obtain ⟨t1, t2, t3, t4, t5⟩ := ht
  have inn : PIC E cc L fl wa ly ca (soAll wa t) ∧ EY XAR (soAll wa t) t ∧ gi (soAll wa t) 2 = gi t 2 ∧ (∀ x, sF E cc wa ly ca L ≤ x → gA (soAll wa t) 4 x = gA t 4 x) ∧ (∀ p, (∀ l, l < L → ¬ PT E fl wa ly l p) → gA (soAll wa t) 5 p = gA t 5 p) := by
    unfold soAll
    rw [t1.1.2.1, nN_nI (by omega)]
    refine lp_ind (fun _ u => PIC E cc L fl wa ly ca u ∧ EY XAR u t ∧ gi u 2 = gi t 2 ∧ (∀ x, sF E cc wa ly ca L ≤ x → gA u 4 x = gA t 4 x) ∧ (∀ p, (∀ l, l < L → ¬ PT E fl wa ly l p) → gA u 5 p = gA t 5 p)) ⟨t1, EY.rf _ _, rfl, fun _ _ => rfl, fun _ _ => rfl⟩ (fun j u hj hu => ?_)
    obtain ⟨k1, k2, k3, k4, k5, -⟩ := soK_ok hF h hu.1 (soDown t) hj
    exact ⟨k1, k2.tr hu.2.1, k3.trans hu.2.2.1, fun x hx => (k4 x hx).trans (hu.2.2.2.1 x hx), fun p hp => (k5 p hp).trans (hu.2.2.2.2 p hp)⟩
  unfold soStep
  obtain ⟨k1, k2, k3, k4, k5⟩ := inn
  refine ⟨k1.cong (by simp only [gi_sl, gi_sA, gi_sB, gi_si_s, gi_si_n, gl_si, gl_sA, gl_sB, gl_sl_s, gl_sl_n, gA_si, gA_sl, gA_sB, gA_sA_s, gA_sA_n, gB_si, gB_sl, gB_sA, gB_sB_s, gB_sB_n, Nat.reduceBEq]) (by simp only [gi_sl, gi_sA, gi_sB, gi_si_s, gi_si_n, gl_si, gl_sA, gl_sB, gl_sl_s, gl_sl_n, gA_si, gA_sl, gA_sB, gA_sA_s, gA_sA_n, gB_si, gB_sl, gB_sA, gB_sB_s, gB_sB_n, Nat.reduceBEq]) (fun k _ => by simp only [gi_sl, gi_sA, gi_sB, gi_si_s, gi_si_n, gl_si, gl_sA, gl_sB, gl_sl_s, gl_sl_n, gA_si, gA_sl, gA_sB, gA_sA_s, gA_sA_n, gB_si, gB_sl, gB_sA, gB_sB_s, gB_sB_n, Nat.reduceBEq]), ?_, ?_, fun x hx => ?_, fun p hp => ?_⟩
  · have k6 := k2.tr t2
    exact ⟨fun k hk => by rw [gi_si_n _ _ _ _ (by simp [hk])]; exact k6.1 k hk, fun k => k6.2.1 k, fun k hk => k6.2.2.1 k hk, fun k => k6.2.2.2 k⟩
  · rw [gi_si_s, k3, t3, add_nI1]
  · show gA (soAll wa t) 4 x = _
    rw [k4 x hx]; exact t4 x hx
  · show gA (soAll wa t) 5 p = _
    rw [k5 p hp]; exact t5 p hp
theorem sweep_c (hF : FL n c E hm fs fr eg fe fl) (h : WK c E fr eg fl wa cc ca ht) {a b : Ob} (hP : PIC E cc L fl wa ly ca a) (hR : REL a b) (many : Int32) : REL (sweepOften wa a many) (sweepOften wa b many) := by
  have hL := hP.1.2.2.1
  unfold sweepOften
  have key := lp_rel (f := soStep wa) (g := soStep wa) (n := nN many) (s := a) (t := b) (fun _ x y => PIC E cc L fl wa ly ca x ∧ REL x y) ⟨hP, hR⟩ (fun i x y hi hxy => by
    obtain ⟨h1, h2⟩ := hxy
    have inn : PIC E cc L fl wa ly ca (soAll wa x) ∧ REL (soAll wa x) (soAll wa y) := by
      unfold soAll
      rw [show soDown y = soDown x from by unfold soDown; rw [h2.2], ← h2.gi 1, h1.1.2.1, nN_nI (by omega)]
      refine lp_rel (fun _ u v => PIC E cc L fl wa ly ca u ∧ REL u v) ⟨h1, h2⟩ (fun j u v hj huv => ?_)
      obtain ⟨k1, -, -, -, -, k6⟩ := soK_ok hF h huv.1 (soDown x) hj
      exact ⟨k1, k6 v huv.2⟩
    unfold soStep
    exact ⟨inn.1.cong (by simp only [gi_sl, gi_sA, gi_sB, gi_si_s, gi_si_n, gl_si, gl_sA, gl_sB, gl_sl_s, gl_sl_n, gA_si, gA_sl, gA_sB, gA_sA_s, gA_sA_n, gB_si, gB_sl, gB_sA, gB_sB_s, gB_sB_n, Nat.reduceBEq]) (by simp only [gi_sl, gi_sA, gi_sB, gi_si_s, gi_si_n, gl_si, gl_sA, gl_sB, gl_sl_s, gl_sl_n, gA_si, gA_sl, gA_sB, gA_sA_s, gA_sA_n, gB_si, gB_sl, gB_sA, gB_sB_s, gB_sB_n, Nat.reduceBEq]) (fun k _ => by simp only [gi_sl, gi_sA, gi_sB, gi_si_s, gi_si_n, gl_si, gl_sA, gl_sB, gl_sl_s, gl_sl_n, gA_si, gA_sl, gA_sB, gA_sA_s, gA_sA_n, gB_si, gB_sl, gB_sA, gB_sB_s, gB_sB_n, Nat.reduceBEq]), inn.2.si2 (by rw [inn.2.gi 2])⟩)
  exact key.2
/-! ===== crossings ===== -/
def R9 (k : Nat) (p q : Ob × Int32) : Prop := REL p.1 q.1 ∧ p.2 = q.2 ∧ p.2 = nI k ∧ (∀ j, j < k → gA p.1 9 j = gA q.1 9 j ∧ gA p.1 10 j = gA q.1 10 j)
theorem cuP_c {wa a b : Ob} {E : Nat} (hE : E ≤ 57) (he : gi a 0 = nI E) (h : REL a b) (l : Int32) : ∃ k, k ≤ E ∧ R9 k (cuP wa a l) (cuP wa b l) := by
  unfold cuP
  rw [← h.gi 0, he, nN_nI (by omega)]
  refine lp_rel (fun i p q => ∃ k, k ≤ i ∧ R9 k p q) ⟨0, Nat.le_refl 0, h, rfl, rfl, fun j hj => absurd hj (Nat.not_lt_zero j)⟩ (fun i p q hi hpq => ?_)
  obtain ⟨k, hk, h1, h2, h3, h4⟩ := hpq
  have e5 : gA p.1 5 = gA q.1 5 := h1.row (by decide)
  unfold cuA
  rw [leaves_c (h1.row (by decide)), pointOn_c (h1.row (by decide)) (h1.row (by decide)), pointOn_c (h1.row (by decide)) (h1.row (by decide)), ← e5, ← h2, h3]
  split
  · refine ⟨k + 1, by omega, (h1.put 9 _ _ (by decide)).put 10 _ _ (by decide), rfl, nI_1 k, fun j hj => ?_⟩
    simp only [gi_sl, gi_sA, gi_sB, gi_si_s, gi_si_n, gl_si, gl_sA, gl_sB, gl_sl_s, gl_sl_n, gA_si, gA_sl, gA_sB, gA_sA_s, gA_sA_n, gB_si, gB_sl, gB_sA, gB_sB_s, gB_sB_n, Nat.reduceBEq]
    rw [wr_nI (by omega) (by decide), wr_nI (by omega) (by decide), wr_nI (by omega) (by decide), wr_nI (by omega) (by decide)]
    by_cases z : j = k
    · subst z; rw [upd_s, upd_s, upd_s, upd_s]; exact ⟨rfl, rfl⟩
    · rw [upd_n _ _ z, upd_n _ _ z, upd_n _ _ z, upd_n _ _ z]; exact h4 j (by omega)
  · exact ⟨k, by omega, h1, h2, h3, h4⟩
theorem crossN_c {wa a b : Ob} {E : Nat} (hE : E ≤ 57) (he : gi a 0 = nI E) (h : REL a b) (l : Int32) : crossN wa a l = crossN wa b l ∧ REL (cuP wa a l).1 (cuP wa b l).1 ∧ ∃ m, m ≤ 3249 ∧ crossN wa a l = nI m := by
  obtain ⟨k, hk, h1, h2, h3, h4⟩ := cuP_c (wa := wa) hE he h l
  unfold crossN
  rw [← h2, h3, nN_nI (by omega)]
  generalize (cuP wa a l).1 = x at *
  generalize (cuP wa b l).1 = y at *
  have hin : ∀ i, i < k → ∀ m, ∃ d, d ≤ i ∧ lp (cuB x i) i (nI m) = nI (m + d) := fun i hi m => by
    refine lp_ind (fun j t => ∃ d, d ≤ j ∧ t = nI (m + d)) ⟨0, Nat.le_refl 0, rfl⟩ (fun j t hj ht => ?_)
    obtain ⟨d, d1, d2⟩ := ht
    unfold cuB
    split
    · exact ⟨d + 1, by omega, by rw [d2, nI_1]; rfl⟩
    · exact ⟨d, by omega, d2⟩
  refine ⟨?_, h1, ?_⟩
  · refine lp_rel (fun _ s t => s = t) rfl (fun i s t hi hst => ?_)
    subst hst
    unfold cuC
    refine lp_rel (fun _ s t => s = t) rfl (fun j s t hj hst => ?_)
    subst hst
    unfold cuB
    rw [rd_nI (by omega) (by decide), rd_nI (by omega) (by decide), rd_nI (by omega) (by decide), rd_nI (by omega) (by decide), rd_nI (by omega) (by decide), rd_nI (by omega) (by decide), rd_nI (by omega) (by decide), rd_nI (by omega) (by decide), (h4 i hi).1, (h4 i hi).2, (h4 j (by omega)).1, (h4 j (by omega)).2]
  · have key := lp_ind (f := cuC x) (n := k) (s := (0 : Int32)) (fun i t => ∃ m, m ≤ i * 57 ∧ t = nI m) ⟨0, by omega, rfl⟩ (fun i t hi ht => by
      obtain ⟨m, m1, rfl⟩ := ht
      obtain ⟨d, d1, d2⟩ := hin i hi m
      exact ⟨m + d, by omega, d2⟩)
    obtain ⟨m, m1, m2⟩ := key
    exact ⟨m, by omega, m2⟩
theorem cuP_rel (wa a : Ob) (l : Int32) : REL (cuP wa a l).1 a := by
  unfold cuP
  refine lp_ind (fun _ (p : Ob × Int32) => REL p.1 a) (REL.rf a) (fun i p hi hp => ?_)
  unfold cuA
  split
  · have e : REL (sA p.1 9 (wr (gA p.1 9) 80 p.2 (rd (gA p.1 5) 1600 (pointOn wa p.1 (nI i) l)))) p.1 := ⟨(EY.rf XSC p.1).sA 9 _ rfl, rfl⟩
    have e2 : REL (sA (sA p.1 9 (wr (gA p.1 9) 80 p.2 (rd (gA p.1 5) 1600 (pointOn wa p.1 (nI i) l)))) 10 (wr (gA p.1 10) 80 p.2 (rd (gA p.1 5) 1600 (pointOn wa p.1 (nI i) (l + 1))))) (sA p.1 9 (wr (gA p.1 9) 80 p.2 (rd (gA p.1 5) 1600 (pointOn wa p.1 (nI i) l)))) := ⟨(EY.rf XSC _).sA 10 _ rfl, rfl⟩
    exact (e2.tr e).tr hp
  · exact hp
theorem cross_c {wa a b : Ob} {E L : Nat} (hE : E ≤ 57) (hL : L ≤ 19) (he : gi a 0 = nI E) (hl : gi a 1 = nI L) (h : REL a b) : (countCross wa a).2 = (countCross wa b).2 ∧ (∃ m, m ≤ 61731 ∧ (countCross wa a).2 = nI m) ∧ REL (countCross wa a).1 a ∧ REL (countCross wa b).1 b := by
  unfold countCross
  rw [← h.gi 1, hl]
  have hN : nN (nI L - 1) ≤ 19 := by
    rcases Nat.eq_zero_or_pos L with q | q
    · subst q; decide
    · rw [show (1 : Int32) = nI 1 from rfl, pk_sub (by omega), nN_nI (by omega)]; omega
  have key := lp_rel (f := ccStep wa) (g := ccStep wa) (n := nN (nI L - 1)) (s := (a, (0 : Int32))) (t := (b, (0 : Int32))) (fun i p q => p.2 = q.2 ∧ (∃ m, m ≤ i * 3249 ∧ p.2 = nI m) ∧ REL p.1 a ∧ REL q.1 b) ⟨rfl, ⟨0, by omega, rfl⟩, REL.rf a, REL.rf b⟩ (fun i p q hi hpq => by
    obtain ⟨h1, ⟨m, m1, m2⟩, h2, h3⟩ := hpq
    have hpq2 : REL p.1 q.1 := (h2.tr h).tr h3.sy
    obtain ⟨c1, c2, m', m3, m4⟩ := crossN_c (wa := wa) hE (by rw [h2.gi 0]; exact he) hpq2 (nI i)
    unfold ccStep
    refine ⟨by rw [h1, c1], ⟨m + m', by omega, by rw [m2, m4, nI_add]⟩, (cuP_rel wa p.1 (nI i)).tr h2, (cuP_rel wa q.1 (nI i)).tr h3⟩)
  obtain ⟨k1, ⟨m, m1, m2⟩, k3, k4⟩ := key
  have := Nat.mul_le_mul_right 3249 hN
  exact ⟨k1, ⟨m, by omega, m2⟩, k3, k4⟩
/-! ===== trying out ===== -/
theorem toAll_ok {a : Ob} {m : Nat} (hm : rd (gA a 1) 41 (gi a 1) = nI m) (hm2 : m ≤ 1600) : REL (toAll a) a ∧ ∀ i, i < m → gA (toAll a) 6 i = gA a 4 i := by
  unfold toAll
  rw [hm, nN_nI (by omega)]
  refine lp_ind (fun i t => REL t a ∧ ∀ j, j < i → gA t 6 j = gA a 4 j) ⟨REL.rf a, fun j hj => absurd hj (Nat.not_lt_zero j)⟩ (fun i t hi ht => ?_)
  unfold toKeep
  have e : REL (sA t 6 (wr (gA t 6) 1600 (nI i) (rd (gA t 4) 1600 (nI i)))) t := ⟨(EY.rf XSC t).sA 6 _ rfl, rfl⟩
  refine ⟨e.tr ht.1, fun j hj => ?_⟩
  simp only [gi_sl, gi_sA, gi_sB, gi_si_s, gi_si_n, gl_si, gl_sA, gl_sB, gl_sl_s, gl_sl_n, gA_si, gA_sl, gA_sB, gA_sA_s, gA_sA_n, gB_si, gB_sl, gB_sA, gB_sB_s, gB_sB_n, Nat.reduceBEq]
  rw [wr_nI (by omega) (by decide), rd_nI (by omega) (by decide), ht.1.row (k := 4) (by decide)]
  by_cases q : j = i
  · subst q; rw [upd_s]
  · rw [upd_n _ _ q]; exact ht.2 j (by omega)
/-- trying out tells what sweeping would, and changes nothing -/
theorem try_ok (hF : FL n c E hm fs fr eg fe fl) (h : WK c E fr eg fl wa cc ca ht) {a : Ob} (hP : PIC E cc L fl wa ly ca a) (many : Int32) :
    REL (tryOut wa a many) a ∧ (toQ wa a many).2 = (countCross wa (sweepOften wa a many)).2 := by
  have hE := hF.e57
  have hc := hF.c19
  have hL := hP.1.2.2.1
  have hcc := h.2.1.2.1
  have hsL := sF_le (wa := wa) (ly := ly) (ca := ca) hE (show cc ≤ 19 by omega) hL
  obtain ⟨k1, k2⟩ := toAll_ok (a := a) (m := sF E cc wa ly ca L) (by rw [hP.1.2.1, rd_nI (by omega) (by decide)]; exact hP.2.2.1 L (Nat.le_refl L)) (by omega)
  have hPk : PIC E cc L fl wa ly ca (toAll a) := hP.cong (k1.gi 0) (k1.gi 1) (fun k hk => k1.row hk)
  obtain ⟨w1, w2, w3, w4, w5⟩ := sweep_ok hF h hPk many
  have hsw := sweep_c hF h hP k1.sy many
  have hQ : (toQ wa a many).2 = (countCross wa (sweepOften wa a many)).2 := by
    unfold toQ
    have := (cross_c (wa := wa) (a := sweepOften wa a many) (b := sweepOften wa (toAll a) many) hE hL (by rw [(sweep_ok hF h hP many).1.1.1]) (by rw [(sweep_ok hF h hP many).1.1.2.1]) hsw).1
    exact this.symm
  refine ⟨?_, hQ⟩
  obtain ⟨-, -, hx, -⟩ := cross_c (wa := wa) (a := sweepOften wa (toAll a) many) (b := sweepOften wa (toAll a) many) hE hL (by rw [w1.1.1]) (by rw [w1.1.2.1]) (REL.rf _)
  have hx6 : gA (countCross wa (sweepOften wa (toAll a) many)).1 6 = gA (toAll a) 6 := by
    have e1 : ∀ (x : Ob) (l : Int32), gA (cuP wa x l).1 6 = gA x 6 := fun x l => by
      unfold cuP
      refine lp_ind (fun _ (p : Ob × Int32) => gA p.1 6 = gA x 6) rfl (fun i p hi hp => ?_)
      unfold cuA
      split
      · simp only [gi_sl, gi_sA, gi_sB, gi_si_s, gi_si_n, gl_si, gl_sA, gl_sB, gl_sl_s, gl_sl_n, gA_si, gA_sl, gA_sB, gA_sA_s, gA_sA_n, gB_si, gB_sl, gB_sA, gB_sB_s, gB_sB_n, Nat.reduceBEq]; exact hp
      · exact hp
    have e2 : gA (countCross wa (sweepOften wa (toAll a) many)).1 6 = gA (sweepOften wa (toAll a) many) 6 := by
      unfold countCross
      refine lp_ind (fun _ (p : Ob × Int32) => gA p.1 6 = gA (sweepOften wa (toAll a) many) 6) rfl (fun i p hi hp => ?_)
      unfold ccStep
      rw [e1]; exact hp
    rw [e2, w2.2.2.1 6 rfl]
  have e0 : toQ wa a many = countCross wa (sweepOften wa (toAll a) many) := rfl
  unfold tryOut
  rw [e0]
  generalize (countCross wa (sweepOften wa (toAll a) many)).1 = q at hx hx6
  have qA : ∀ k, k < 6 → k ≠ 4 → k ≠ 5 → gA q k = gA a k := fun k hk h4 h5 => by
    rw [hx.row hk, w2.2.2.1 k (by unfold XAR X45 X78; simp; omega), k1.row hk]
  have q1 : gi q 1 = nI L := by rw [hx.gi 1, w1.1.2.1]
  have q4 : ∀ x, sF E cc wa ly ca L ≤ x → gA q 4 x = gA a 4 x := fun x hx9 => by
    rw [hx.row (k := 4) (by decide), w4 x hx9, k1.row (k := 4) (by decide)]
  have q5 : ∀ p, (∀ l, l < L → ¬ PT E fl wa ly l p) → gA q 5 p = gA a 5 p := fun p hp => by
    rw [hx.row (k := 5) (by decide), w5 p hp, k1.row (k := 5) (by decide)]
  have qk : ∀ i, i < sF E cc wa ly ca L → gA q 6 i = gA a 4 i := fun i hi => by rw [hx6]; exact k2 i hi
  have qg : ∀ k, k ≠ 2 → gi q k = gi a k := fun k hk => by rw [hx.gi k, w2.1 k hk, k1.gi k]
  have ql : ∀ k, gl q k = gl a k := fun k => by rw [hx.1.2.1 k, w2.2.1 k, k1.1.2.1 k]
  have qB : ∀ k, gB q k = gB a k := fun k => by rw [hx.1.2.2.2 k, w2.2.2.2 k, k1.1.2.2.2 k]
  rw [q1, nN_nI (by omega)]
  have key := lp_ind (f := toL) (n := L) (s := q) (fun l t => SM45 t q ∧ (∀ k, gl t k = gl q k) ∧ (∀ k, gB t k = gB q k) ∧ (∀ x, sF E cc wa ly ca L ≤ x → gA t 4 x = gA a 4 x) ∧ (∀ x, x < sF E cc wa ly ca l → gA t 4 x = gA a 4 x) ∧ (∀ p, (∀ l', l' < L → ¬ PT E fl wa ly l' p) → gA t 5 p = gA a 5 p) ∧ (∀ l', l' < l → ∀ p, PT E fl wa ly l' p → gA t 5 p = gA a 5 p))
    ⟨SM45.rf q, fun _ => rfl, fun _ => rfl, q4, fun x hx9 => absurd hx9 (Nat.not_lt_zero x), q5, fun l' hl => absurd hl (Nat.not_lt_zero l')⟩ (fun l t hl ht => by
      obtain ⟨t1, t1b, t1c, t2, t3, t4, t5⟩ := ht
      have s1 := hP.2.2.1 l (by omega)
      have s2 := hP.2.2.1 (l + 1) hl
      have e1 : gA t 1 = gA a 1 := by rw [t1.2 1 (by decide) (by decide)]; exact qA 1 (by decide) (by decide) (by decide)
      have hss := sF_s (E := E) (cc := cc) (wa := wa) (ly := ly) (ca := ca) l
      have hm := sF_mono (E := E) (cc := cc) (wa := wa) (ly := ly) (ca := ca) hl
      unfold toL
      rw [nI_1, e1, rd_nI (by omega) (by decide), rd_nI (by omega) (by decide), s1, s2, nI_toInt (by omega), nI_toInt (by omega), show ((sF E cc wa ly ca (l + 1) : Nat) : Int) - ((sF E cc wa ly ca l : Nat) : Int) = ((zL E cc wa ly ca l : Nat) : Int) by omega, Int.toNat_natCast]
      have seg := hP.2.2.2.1 l hl
      have inn := lp_ind (f := toB (nI l) (nI (sF E cc wa ly ca l))) (n := zL E cc wa ly ca l) (s := t) (fun j u => SM45 u t ∧ (∀ k, gl u k = gl q k) ∧ (∀ k, gB u k = gB q k) ∧ (∀ x, (x < sF E cc wa ly ca l ∨ sF E cc wa ly ca (l + 1) ≤ x) → gA u 4 x = gA t 4 x) ∧ (∀ j', j' < j → gA u 4 (sF E cc wa ly ca l + j') = gA a 4 (sF E cc wa ly ca l + j')) ∧ (∀ p, ¬ PT E fl wa ly l p → gA u 5 p = gA t 5 p) ∧ (∀ j', j' < j → ∀ p, gA a 4 (sF E cc wa ly ca l + j') = nI p → p < 1600 → gA u 5 p = gA a 5 p))
        ⟨SM45.rf t, t1b, t1c, fun _ _ => rfl, fun j hj => absurd hj (Nat.not_lt_zero j), fun _ _ => rfl, fun j hj => absurd hj (Nat.not_lt_zero j)⟩ (fun j u hj hu => by
          obtain ⟨u1, u1b, u1c, u2, u3, u4, u5⟩ := hu
          obtain ⟨pt, p1, p2, p3⟩ := seg (sF E cc wa ly ca l + j) (by omega) (by omega)
          have hpt := PT_lt hF h hP.1 p2
          have e6 : gA u 6 = gA q 6 := by rw [u1.2 6 (by decide) (by decide), t1.2 6 (by decide) (by decide)]
          have e7 : toB (nI l) (nI (sF E cc wa ly ca l)) j u = putPoint u (nI l) (nI (sF E cc wa ly ca l + j)) (nI pt) := by
            unfold toB
            rw [nI_add, e6, rd_nI (by omega) (by decide), qk _ (by omega), p1]
          obtain ⟨g1, g2, g3⟩ := put_eq (t := u) (l := l) (i := sF E cc wa ly ca l + j) (p := pt) (s0 := sF E cc wa ly ca l) (by omega) (by rw [u1.2 1 (by decide) (by decide), e1]; exact s1) (by omega) hpt (by omega)
          rw [e7]
          refine ⟨g3.tr u1, fun k => by unfold putPoint; simp only [gi_sl, gi_sA, gi_sB, gi_si_s, gi_si_n, gl_si, gl_sA, gl_sB, gl_sl_s, gl_sl_n, gA_si, gA_sl, gA_sB, gA_sA_s, gA_sA_n, gB_si, gB_sl, gB_sA, gB_sB_s, gB_sB_n, Nat.reduceBEq]; exact u1b k, fun k => by unfold putPoint; simp only [gi_sl, gi_sA, gi_sB, gi_si_s, gi_si_n, gl_si, gl_sA, gl_sB, gl_sl_s, gl_sl_n, gA_si, gA_sl, gA_sB, gA_sA_s, gA_sA_n, gB_si, gB_sl, gB_sA, gB_sB_s, gB_sB_n, Nat.reduceBEq]; exact u1c k, fun x hx9 => ?_, fun j' hj' => ?_, fun p hp => ?_, fun j' hj' p hp1 hp2 => ?_⟩
          · rw [g1, upd_n _ _ (by omega)]; exact u2 x hx9
          · rw [g1]
            by_cases z : j' = j
            · subst z; rw [upd_s, p1]
            · rw [upd_n _ _ (by omega)]; exact u3 j' (by omega)
          · rw [g2, upd_n _ _ (fun z => hp (by rw [z]; exact p2))]; exact u4 p hp
          · rw [g2]
            by_cases z : p = pt
            · subst z; rw [upd_s, p3]
            · rw [upd_n _ _ z]
              have : j' ≠ j := fun z2 => by
                subst z2
                rw [p1] at hp1
                exact z (nI_inj (by omega) (by omega) hp1).symm
              exact u5 j' (by omega) p hp1 hp2)
      generalize lp (toB (nI l) (nI (sF E cc wa ly ca l))) (zL E cc wa ly ca l) t = u at inn
      obtain ⟨u1, u1b, u1c, u2, u3, u4, u5⟩ := inn
      refine ⟨u1.tr t1, u1b, u1c, fun x hx9 => by rw [u2 x (Or.inr (by omega))]; exact t2 x hx9, fun x hx9 => ?_, fun p hp => by rw [u4 p (hp l hl)]; exact t4 p hp, fun l' hl' p hp => ?_⟩
      · rcases Nat.lt_or_ge x (sF E cc wa ly ca l) with z | z
        · rw [u2 x (Or.inl z)]; exact t3 x z
        · have := u3 (x - sF E cc wa ly ca l) (by omega)
          rwa [show sF E cc wa ly ca l + (x - sF E cc wa ly ca l) = x by omega] at this
      · by_cases z : l' = l
        · subst z
          obtain ⟨i, i1, i2, i3⟩ := hP.2.2.2.2 l' hl p hp
          have := u5 (i - sF E cc wa ly ca l') (by omega) p (by rw [show sF E cc wa ly ca l' + (i - sF E cc wa ly ca l') = i by omega]; exact i3) (PT_lt hF h hP.1 hp)
          exact this
        · rw [u4 p (fun y => z (PT_one hF hp y))]
          exact t5 l' (by omega) p hp)
  generalize lp toL L q = t at key
  obtain ⟨t1, t1b, t1c, t2, t3, t4, t5⟩ := key
  refine ⟨⟨fun k hk => ?_, fun k => ?_, fun k hk => ?_, fun k => ?_⟩, by rw [gi_si_s]⟩
  · rw [gi_si_n _ _ _ _ (by simp [hk]), t1.1, qg k hk]
  · show gl t k = _
    rw [t1b, ql]
  · show gA t k = _
    have hk6 : k < 6 := by
      have := of_decide_eq_false hk
      omega
    by_cases z4 : k = 4
    · subst z4
      funext x
      rcases Nat.lt_or_ge x (sF E cc wa ly ca L) with z | z
      · exact t3 x z
      · exact t2 x z
    · by_cases z5 : k = 5
      · subst z5
        funext p
        by_cases z : ∃ l, l < L ∧ PT E fl wa ly l p
        · obtain ⟨l, hl, hp⟩ := z
          exact t5 l hl p hp
        · exact t4 p (fun l hl hp => z ⟨l, hl, hp⟩)
      · rw [t1.2 k z4 z5]; exact qA k hk6 z4 z5
  · show gB t k = _
    rw [t1c, qB]
end CONGS
end
section
/-! ===== what the loops leave as it is ===== -/
theorem lp_inv {σ τ : Type} (g : σ → τ) {f : Nat → σ → σ} (h : ∀ i s, g (f i s) = g s) (n : Nat) (s : σ) : g (lp f n s) = g s := by
  induction n with
  | zero => rfl
  | succ n ih => exact (h n _).trans ih
theorem lp_invW {σ τ : Type} (g : σ → τ) {c : σ → Bool} {f : σ → σ} (h : ∀ s, g (f s) = g s) (n : Nat) (s : σ) : g (lpW c f n s) = g s := by
  refine lpW_ind (fun _ t => g t = g s) rfl (fun i t _ ht _ => (h t).trans ht) (fun i t _ ht _ => ht)
theorem k_pd (wa : Ob) (e : Nat) (p : Ob × Bool) (k : Nat) : gi (pdStep wa e p).1 k = gi p.1 k := by
  unfold pdStep pdPut
  split
  · split
    · rfl
    · simp only [gi_sl, gi_sA, gi_sB, gi_si_s, gi_si_n, gl_si, gl_sA, gl_sB, gl_sl_s, gl_sl_n, gA_si, gA_sl, gA_sB, gA_sA_s, gA_sA_n, gB_si, gB_sl, gB_sA, gB_sB_s, gB_sB_n, Nat.reduceBEq]
  · rfl
theorem k_pdL (wa : Ob) (i : Nat) (p : Ob × Bool) (k : Nat) : gi (lp (pdStep wa) i p).1 k = gi p.1 k := lp_inv (fun q : Ob × Bool => gi q.1 k) (fun i s => k_pd wa i s k) i p
theorem k_nbI (e i : Nat) (p : Ob × Int32) (k : Nat) : gi (lp (nbIn e) i p).1 k = gi p.1 k := lp_inv (fun q : Ob × Int32 => gi q.1 k) (fun i s => by unfold nbIn; simp only [gi_sl, gi_sA, gi_sB, gi_si_s, gi_si_n, gl_si, gl_sA, gl_sB, gl_sl_s, gl_sl_n, gA_si, gA_sl, gA_sB, gA_sA_s, gA_sA_n, gB_si, gB_sl, gB_sA, gB_sB_s, gB_sB_n, Nat.reduceBEq]) i p
theorem k_nb (wa : Ob) (e : Nat) (p : Ob × Int32) (k : Nat) : gi (nbStep wa e p).1 k = gi p.1 k := by
  unfold nbStep
  rw [k_nbI]
  unfold nbPut
  simp only [gi_sl, gi_sA, gi_sB, gi_si_s, gi_si_n, gl_si, gl_sA, gl_sB, gl_sl_s, gl_sl_n, gA_si, gA_sl, gA_sB, gA_sA_s, gA_sA_n, gB_si, gB_sl, gB_sA, gB_sB_s, gB_sB_n, Nat.reduceBEq]
theorem k_nbL (wa : Ob) (i : Nat) (p : Ob × Int32) (k : Nat) : gi (lp (nbStep wa) i p).1 k = gi p.1 k := lp_inv (fun q : Ob × Int32 => gi q.1 k) (fun i s => k_nb wa i s k) i p
theorem k_put (pi : Ob) (l i p : Int32) (k : Nat) : gi (putPoint pi l i p) k = gi pi k := by unfold putPoint; simp only [gi_sl, gi_sA, gi_sB, gi_si_s, gi_si_n, gl_si, gl_sA, gl_sB, gl_sl_s, gl_sl_n, gA_si, gA_sl, gA_sB, gA_sA_s, gA_sA_n, gB_si, gB_sl, gB_sA, gB_sB_s, gB_sB_n, Nat.reduceBEq]
theorem k_fiA (wa : Ob) (l : Int32) (i : Nat) (p : Ob × Int32) (k : Nat) : gi (fiA wa l i p).1 k = gi p.1 k := by
  unfold fiA
  split
  · exact k_put _ _ _ _ k
  · rfl
theorem k_fiAL (wa : Ob) (l : Int32) (i : Nat) (p : Ob × Int32) (k : Nat) : gi (lp (fiA wa l) i p).1 k = gi p.1 k := lp_inv (fun q : Ob × Int32 => gi q.1 k) (fun i s => k_fiA wa l i s k) i p
theorem k_fiB (wa : Ob) (l : Int32) (i : Nat) (p : Ob × Int32) (k : Nat) : gi (fiB wa l i p).1 k = gi p.1 k := by
  unfold fiB
  split
  · split
    · split
      · exact k_put _ _ _ _ k
      · rfl
    · rfl
  · rfl
theorem k_fiBL (wa : Ob) (l : Int32) (i : Nat) (p : Ob × Int32) (k : Nat) : gi (lp (fiB wa l) i p).1 k = gi p.1 k := lp_inv (fun q : Ob × Int32 => gi q.1 k) (fun i s => k_fiB wa l i s k) i p
theorem k_fill (wa pi : Ob) (l f : Int32) (k : Nat) : gi (fill wa pi l f).1 k = gi pi k := by
  unfold fill
  rw [k_fiBL, k_fiAL]
theorem k_dr (wa : Ob) (l : Nat) (p : Ob × Int32) (k : Nat) : gi (drStep wa l p).1 k = gi p.1 k := by
  unfold drStep
  rw [k_fill]
  simp only [gi_sl, gi_sA, gi_sB, gi_si_s, gi_si_n, gl_si, gl_sA, gl_sB, gl_sl_s, gl_sl_n, gA_si, gA_sl, gA_sB, gA_sA_s, gA_sA_n, gB_si, gB_sl, gB_sA, gB_sB_s, gB_sB_n, Nat.reduceBEq]
theorem k_drL (wa : Ob) (i : Nat) (p : Ob × Int32) (k : Nat) : gi (lp (drStep wa) i p).1 k = gi p.1 k := lp_inv (fun q : Ob × Int32 => gi q.1 k) (fun i s => k_dr wa i s k) i p
theorem k_cuA (wa : Ob) (l : Int32) (i : Nat) (p : Ob × Int32) (k : Nat) : gi (cuA wa l i p).1 k = gi p.1 k := by
  unfold cuA
  split
  · simp only [gi_sl, gi_sA, gi_sB, gi_si_s, gi_si_n, gl_si, gl_sA, gl_sB, gl_sl_s, gl_sl_n, gA_si, gA_sl, gA_sB, gA_sA_s, gA_sA_n, gB_si, gB_sl, gB_sA, gB_sB_s, gB_sB_n, Nat.reduceBEq]
  · rfl
theorem k_cuAL (wa : Ob) (l : Int32) (i : Nat) (p : Ob × Int32) (k : Nat) : gi (lp (cuA wa l) i p).1 k = gi p.1 k := lp_inv (fun q : Ob × Int32 => gi q.1 k) (fun i s => k_cuA wa l i s k) i p
theorem k_cc (wa : Ob) (l : Nat) (p : Ob × Int32) (k : Nat) : gi (ccStep wa l p).1 k = gi p.1 k := by
  unfold ccStep cuP
  exact k_cuAL _ _ _ _ k
theorem k_ccL (wa : Ob) (i : Nat) (p : Ob × Int32) (k : Nat) : gi (lp (ccStep wa) i p).1 k = gi p.1 k := lp_inv (fun q : Ob × Int32 => gi q.1 k) (fun i s => k_cc wa i s k) i p
theorem k_weAL (i : Nat) (p : Ob) (k : Nat) : gi (lp weA i p) k = gi p k := lp_inv (fun q : Ob => gi q k) (fun i s => by unfold weA; simp only [gi_sl, gi_sA, gi_sB, gi_si_s, gi_si_n, gl_si, gl_sA, gl_sB, gl_sl_s, gl_sl_n, gA_si, gA_sl, gA_sB, gA_sA_s, gA_sA_n, gB_si, gB_sl, gB_sA, gB_sB_s, gB_sB_n, Nat.reduceBEq]) i p
theorem k_weBL (wa : Ob) (l o v : Int32) (i : Nat) (p : Ob) (k : Nat) : gi (lp (weB wa l o v) i p) k = gi p k := lp_inv (fun q : Ob => gi q k) (fun i s => by
  unfold weB
  split
  · simp only [gi_sl, gi_sA, gi_sB, gi_si_s, gi_si_n, gl_si, gl_sA, gl_sB, gl_sl_s, gl_sl_n, gA_si, gA_sl, gA_sB, gA_sA_s, gA_sA_n, gB_si, gB_sl, gB_sA, gB_sB_s, gB_sB_n, Nat.reduceBEq]
  · rfl) i p
theorem k_weCL (i : Nat) (p : Ob) (k : Nat) : gi (lp weC i p) k = gi p k := lp_inv (fun q : Ob => gi q k) (fun i s => by
  unfold weC
  split
  · simp only [gi_sl, gi_sA, gi_sB, gi_si_s, gi_si_n, gl_si, gl_sA, gl_sB, gl_sl_s, gl_sl_n, gA_si, gA_sl, gA_sB, gA_sA_s, gA_sA_n, gB_si, gB_sl, gB_sA, gB_sB_s, gB_sB_n, Nat.reduceBEq]
  · rfl) i p
theorem k_we (wa pi : Ob) (l o z : Int32) (k : Nat) : gi (weigh wa pi l o z) k = gi pi k := by
  unfold weigh
  rw [k_weCL, k_weBL, k_weAL]
/-- the sliding, as a loop with a test -/
def slC (base pt : Int32) (p : Ob × Nat) : Bool := decide (0 < p.2) && isAhead p.1 pt (rd (gA p.1 4) 1600 (base + nI p.2 - 1))
def slF (base : Int32) (p : Ob × Nat) : Ob × Nat := (slidePut base (p.2 - 1) p.1, p.2 - 1)
theorem lpW_front {σ : Type} (c : σ → Bool) (f : σ → σ) (n : Nat) (s : σ) (h : c s = true) : lpW c f (n + 1) s = lpW c f n (f s) := by
  induction n with
  | zero => show (if c s = true then f s else s) = f s; rw [if_pos h]
  | succ n ih =>
    show (if c (lpW c f (n + 1) s) = true then f (lpW c f (n + 1) s) else lpW c f (n + 1) s) = (if c (lpW c f n (f s)) = true then f (lpW c f n (f s)) else lpW c f n (f s))
    rw [ih]
theorem slide_w (base pt : Int32) : ∀ (k : Nat) (pi : Ob), slide base pt k pi = lpW (slC base pt) (slF base) k (pi, k) := by
  intro k
  induction k with
  | zero => intro pi; rfl
  | succ k ih =>
    intro pi
    rw [show slide base pt (k + 1) pi = if isAhead pi pt (rd (gA pi 4) 1600 (base + nI (k + 1) - 1)) = true then slide base pt k (slidePut base k pi) else (pi, k + 1) from rfl]
    have e : slC base pt (pi, k + 1) = isAhead pi pt (rd (gA pi 4) 1600 (base + nI (k + 1) - 1)) := by
      unfold slC
      rw [decide_eq_true (show 0 < k + 1 by omega), Bool.true_and]
    by_cases h : isAhead pi pt (rd (gA pi 4) 1600 (base + nI (k + 1) - 1)) = true
    · rw [if_pos h, lpW_front _ _ _ _ (e.trans h)]
      exact ih _
    · rw [if_neg h, lpW_same (by rw [e]; exact bf_of h)]
theorem slW_k (base pt : Int32) (n : Nat) (p : Ob × Nat) (k : Nat) : gi (lpW (slC base pt) (slF base) n p).1 k = gi p.1 k := lp_invW (fun q : Ob × Nat => gi q.1 k) (fun s => by unfold slF slidePut; simp only [gi_sl, gi_sA, gi_sB, gi_si_s, gi_si_n, gl_si, gl_sA, gl_sB, gl_sl_s, gl_sl_n, gA_si, gA_sl, gA_sB, gA_sA_s, gA_sA_n, gB_si, gB_sl, gB_sA, gB_sB_s, gB_sB_n, Nat.reduceBEq]) n p
theorem slW_2 (base pt : Int32) (n : Nat) (p : Ob × Nat) : (lpW (slC base pt) (slF base) n p).2 ≤ p.2 := lpW_ind (fun _ (q : Ob × Nat) => q.2 ≤ p.2) (Nat.le_refl _) (fun i q _ h _ => by unfold slF; show q.2 - 1 ≤ p.2; omega) (fun i q _ h _ => h)
theorem k_arS (base : Int32) (j : Nat) (pi : Ob) (k : Nat) : gi (arStep base j pi) k = gi pi k := by
  unfold arStep
  rw [slide_w]
  simp only [gi_sl, gi_sA, gi_sB, gi_si_s, gi_si_n, gl_si, gl_sA, gl_sB, gl_sl_s, gl_sl_n, gA_si, gA_sl, gA_sB, gA_sA_s, gA_sA_n, gB_si, gB_sl, gB_sA, gB_sB_s, gB_sB_n, Nat.reduceBEq]
  exact slW_k _ _ _ _ k
theorem k_arSL (base : Int32) (i : Nat) (p : Ob) (k : Nat) : gi (lp (arStep base) i p) k = gi p k := lp_inv (fun q : Ob => gi q k) (fun i s => k_arS base i s k) i p
theorem k_arPL (l base : Int32) (i : Nat) (p : Ob) (k : Nat) : gi (lp (arPut l base) i p) k = gi p k := lp_inv (fun q : Ob => gi q k) (fun i s => by unfold arPut; exact k_put _ _ _ _ k) i p
theorem k_ar (wa pi : Ob) (l o : Int32) (k : Nat) : gi (arrange wa pi l o) k = gi pi k := by
  unfold arrange
  rw [k_arPL, k_arSL, k_we]
theorem k_so (wa : Ob) (d : Bool) (j : Nat) (pi : Ob) (k : Nat) : gi (soK wa d j pi) k = gi pi k := by
  unfold soK
  split
  · exact k_ar _ _ _ _ k
  · exact k_ar _ _ _ _ k
theorem k_soL (wa : Ob) (d : Bool) (i : Nat) (p : Ob) (k : Nat) : gi (lp (soK wa d) i p) k = gi p k := lp_inv (fun q : Ob => gi q k) (fun i s => k_so wa d i s k) i p
theorem k_toBL (l a : Int32) (i : Nat) (p : Ob) (k : Nat) : gi (lp (toB l a) i p) k = gi p k := lp_inv (fun q : Ob => gi q k) (fun i s => by unfold toB; exact k_put _ _ _ _ k) i p
theorem a_toBL (l a : Int32) (i : Nat) (p : Ob) : gA (lp (toB l a) i p) 1 = gA p 1 := lp_inv (fun q : Ob => gA q 1) (fun i s => by unfold toB putPoint; simp only [gi_sl, gi_sA, gi_sB, gi_si_s, gi_si_n, gl_si, gl_sA, gl_sB, gl_sl_s, gl_sl_n, gA_si, gA_sl, gA_sB, gA_sA_s, gA_sA_n, gB_si, gB_sl, gB_sA, gB_sB_s, gB_sB_n, Nat.reduceBEq]) i p
theorem k_toLL (i : Nat) (p : Ob) (k : Nat) : gi (lp toL i p) k = gi p k := lp_inv (fun q : Ob => gi q k) (fun i s => by unfold toL; exact k_toBL _ _ _ _ k) i p
/-! ===== tests of loops ===== -/
theorem to_out (x y : Int32) : y ≤ x + nI (y.toInt - x.toInt).toNat := by
  by_cases h : x.toInt ≤ y.toInt
  · have e : x + nI (y.toInt - x.toInt).toNat = y := by
      apply Int32.toInt_inj.mp
      have h1 := fb_rng x
      have h2 := fb_rng y
      rw [Int32.toInt_add]
      have e1 : (nI (y.toInt - x.toInt).toNat).toInt = (y.toInt - x.toInt).bmod (2 ^ 32) := by
        unfold nI
        rw [Int32.toInt_ofNat]
        congr 1
        omega
      rw [e1, Int.add_bmod_bmod, show x.toInt + (y.toInt - x.toInt) = y.toInt by omega]
      exact fb_bmod h2.1 h2.2
    rw [e]; exact Int32.le_refl _
  · rw [show (y.toInt - x.toInt).toNat = 0 by omega, add_nI0, Int32.le_iff_toInt_le]
    omega
theorem to_in {x y : Int32} {j : Nat} (h : j < (y.toInt - x.toInt).toNat) : ¬ y ≤ x + nI j := by
  have h1 := fb_rng x
  have h2 := fb_rng y
  rw [Int32.le_iff_toInt_le, Int32.toInt_add]
  have e1 : (nI j).toInt = (j : Int).bmod (2 ^ 32) := by
    unfold nI
    rw [Int32.toInt_ofNat]
  rw [e1, Int.add_bmod_bmod, fb_bmod (by omega) (by omega)]
  omega
theorem dn_out {x : Int32} (h : ¬ x < 0) : x - 1 - nI (nN x) < 0 := by
  obtain ⟨j, hj, rfl⟩ := nI_of h
  rw [nN_nI hj, Int32.lt_iff_toInt_lt]
  have e : nI j - 1 - nI j = -1 := by
    rw [Int32.sub_eq_add_neg, Int32.sub_eq_add_neg, Int32.add_assoc, Int32.add_comm, Int32.add_assoc, Int32.neg_add_cancel, Int32.add_zero]
  rw [e]; decide
theorem dn_in {x : Int32} {j : Nat} (h : j < nN x) : ¬ x - 1 - nI j < 0 := by
  have h0 : ¬ x < 0 := fun z => by
    rw [Int32.lt_iff_toInt_lt] at z
    have : (0 : Int32).toInt = 0 := rfl
    unfold nN at h
    omega
  obtain ⟨k, hk, rfl⟩ := nI_of h0
  rw [nN_nI hk] at h
  rw [show (1 : Int32) = nI 1 from rfl, pk_sub (by omega), pk_sub (by omega)]
  exact nI_pos (by omega)
def dnN (x y : Int32) : Nat := (x.toInt - y.toInt + 1).toNat
theorem sc_in {x y : Int32} {j : Nat} (hy : ¬ y < 0) (h : j < dnN x y) : ¬ x - nI j < y := by
  have h1 := fb_rng x
  have h2 := fb_rng y
  have h0 : (0 : Int32).toInt = 0 := rfl
  rw [Int32.lt_iff_toInt_lt] at hy
  unfold dnN at h
  have e1 : (nI j).toInt = (j : Int) := nI_toInt (by omega)
  rw [Int32.lt_iff_toInt_lt, fb_subI (by omega) (by omega)]
  omega
theorem sc_out {x y : Int32} (hy : ¬ y < 0) : x - nI (dnN x y) < y := by
  have h1 := fb_rng x
  have h2 := fb_rng y
  have h0 : (0 : Int32).toInt = 0 := rfl
  rw [Int32.lt_iff_toInt_lt] at hy
  by_cases h : x.toInt - y.toInt + 1 ≤ 0
  · have e : dnN x y = 0 := by unfold dnN; omega
    rw [e, sub_nI0, Int32.lt_iff_toInt_lt]
    omega
  · by_cases h3 : x.toInt - y.toInt + 1 < 2147483648
    · have e1 : (nI (dnN x y)).toInt = x.toInt - y.toInt + 1 := by
        rw [nI_toInt (by unfold dnN; omega)]
        unfold dnN
        omega
      rw [Int32.lt_iff_toInt_lt, fb_subI (by omega) (by omega)]
      omega
    · have e1 : x.toInt = 2147483647 := by omega
      have e2 : y.toInt = 0 := by omega
      have e3 : x = 2147483647 := Int32.toInt_inj.mp e1
      have e4 : y = 0 := Int32.toInt_inj.mp e2
      rw [e3, e4]
      decide
theorem feB_z (n k : Nat) (s : Ob) : lp (feB 0 n) k s = s := by
  induction k with
  | zero => rfl
  | succ k ih =>
    show feB 0 n k (lp (feB 0 n) k s) = s
    rw [ih]
    unfold feB
    rw [if_neg]
    unfold hs us
    have e : (((0 : Int64).toUInt64 >>> ((nI k).toInt64.toUInt64 &&& Int64.toUInt64 63)).toInt64 &&& 1) = 0 := by
      have : ((0 : Int64).toUInt64 >>> ((nI k).toInt64.toUInt64 &&& Int64.toUInt64 63)).toInt64 = 0 := by
        apply Int64.toBitVec_inj.mp
        apply BitVec.eq_of_toNat_eq
        show ((0 : Int64).toUInt64 >>> ((nI k).toInt64.toUInt64 &&& Int64.toUInt64 63)).toNat = 0
        rw [UInt64.toNat_shiftRight]
        show 0 >>> _ = 0
        exact Nat.zero_shiftRight _
      rw [this]; decide
    rw [e]
    decide
theorem feB_zz {m : Int64} {n : Nat} (hm : m = 0) (i k : Nat) (s : Ob) : lp (feB m n) i s = lp (feB m n) k s := by
  subst hm
  rw [feB_z, feB_z]
theorem b2i_t {b : Bool} (h : b = true) : ¬ b2i b = 0 := by subst h; decide
theorem b2i_f {b : Bool} (h : ¬ b = true) : b2i b = 0 := by rw [bf_of h]; rfl
theorem n1_out (b : Int32) : b ≤ nI (nN b - 1 + 1) := by
  have h := lp_out b
  rcases Nat.eq_zero_or_pos (nN b) with q | q
  · rw [q] at h ⊢
    exact Int32.le_trans h (by decide)
  · rw [show nN b - 1 + 1 = nN b by omega]; exact h
theorem n1_in {b : Int32} {i : Nat} (h : i < nN b - 1) : ¬ b ≤ nI (i + 1) := lp_in (by omega)
theorem le0 {a n : Nat} (h : a + n = n) : nI a ≤ 0 := by
  have : a = 0 := by omega
  subst this; decide
theorem gt0 {σ : Type} {p q : σ × Nat} {i N : Nat} (h : p = q) (hf : q.2 + i = N) (hi : i < N) : 0 < p.2 := by subst h; omega
theorem gt0' {σ : Type} {p q : σ × Nat} {i N : Nat} (h : p = q) (hf : q.2 + i = N) (hi : i < N) (hN : N < 2 ^ 31) : ¬ nI p.2 ≤ 0 := nI_nle (gt0 h hf hi) (by subst h; omega)
theorem sl_fact {base pt : Int32} {i N : Nat} {s p : Ob × Nat} (h : p = lpW (slC base pt) (slF base) i s) (hc : slC base pt p = true) (hf : (lpW (slC base pt) (slF base) i s).2 + i = N) (hi : i < N) : (lpW (slC base pt) (slF base) (i + 1) s).2 + (i + 1) = N := by
  have e := lpW_go (f := slF base) h hc
  rw [← e, h]
  show (lpW (slC base pt) (slF base) i s).2 - 1 + (i + 1) = N
  omega
def FlowLo (fl : Ob) : Prop := ¬ gi fl 0 < 0 ∧ ∀ b, b < nN (gi fl 0) → ¬ rd (gA fl 1) 40 (nI b) < 0
theorem FlowLo.at {fl : Ob} (h : FlowLo fl) {j : Nat} (hj : j < nN (gi fl 0)) : ¬ rd (gA fl 1) 40 (gi fl 0 - 1 - nI j) < 0 := by
  obtain ⟨k, hk, e⟩ := nI_of h.1
  have h2 := h.2
  rw [e, nN_nI hk] at hj h2
  rw [e, show (1 : Int32) = nI 1 from rfl, pk_sub (by omega), pk_sub (by omega)]
  exact h2 _ (by omega)
theorem FL.lo {n c E : Nat} {hm fs fr eg fe : Nat → Nat} {fl : Ob} (h : FL n c E hm fs fr eg fe fl) : FlowLo fl := by
  have hc := h.c19
  have hn := h.n19
  refine ⟨by rw [h.bc]; exact nI_pos (by omega), fun b hb => ?_⟩
  rw [h.bc, nN_nI (by omega)] at hb
  rw [rd_nI (by omega) (by decide), h.1.2.2.2.2 b hb]
  have := (h.cut.2.2.2.1 b hb).1
  exact nI_pos (by omega)
theorem fnd_s {p : Nat → Bool} {i : Nat} (h : fnd p i = i) (hp : p i = false) : fnd p (i + 1) = i + 1 := by
  show (if fnd p i < i then fnd p i else if p i = true then i else i + 1) = i + 1
  rw [h, if_neg (Nat.lt_irrefl i), if_neg (by rw [hp]; decide)]
theorem fnd_hit {p : Nat → Bool} {i : Nat} (h : fnd p i = i) (hp : p i = true) : ∀ n, i < n → fnd p n = i := by
  intro n
  induction n with
  | zero => intro hn; exact absurd hn (Nat.not_lt_zero i)
  | succ n ih =>
    intro hn
    show (if fnd p n < n then fnd p n else if p n = true then n else n + 1) = i
    by_cases q : i = n
    · subst q
      rw [h, if_neg (Nat.lt_irrefl i), if_pos hp]
    · rw [ih (by omega), if_pos (by omega)]
theorem ts_no {re : Ob} (h : fnd (isFound (findEntries re)) 40 = 40) : takeStep re = (findEntries re, false) := by
  unfold takeStep takeF
  rw [h, if_neg (by decide)]
theorem ts_yes {re : Ob} {i : Nat} (hi : i < 40) (h : fnd (isFound (findEntries re)) i = i) (hy : isFound (findEntries re) i = true) : takeStep re = (apply (tsPut (findEntries re) i) (foundAt (findEntries re) i) (nI i), true) := by
  unfold takeStep takeF
  rw [fnd_hit h hy 40 hi, if_pos hi]
end
