section
-- ===== PART A: goes FIRST, ahead of the names: the tables' words, and 'selects' of the private methods out of them =====
/-- a private method of a class that the tables say can be made, by its rows of tables_1 -/
def lw_okq (q : MethodName × Nat) : Prop := (q.1.cls ≠ "java/lang/invoke/MethodHandle" ∧ q.1.cls ≠ "java/lang/invoke/VarHandle") ∧ Cond.instantiable q.1.cls q.2 ∈ tables_1 ∧ Cond.privateMethod q.1 ∈ tables_1 ∧ Cond.instanceMethod q.1 ∈ tables_1
theorem lw_p0 : lw_okq (⟨"OrielChart", "freshRanks", "()LOrielChart$Ranks;"⟩, 6) := ⟨⟨by decide +kernel, by decide +kernel⟩, List.mem_of_getElem? (i := 18) (by decide +kernel), List.mem_of_getElem? (i := 330) (by decide +kernel), List.mem_of_getElem? (i := 331) (by decide +kernel)⟩
theorem lw_p1 : lw_okq (⟨"OrielChart", "freshFlow", "()LOrielChart$Flow;"⟩, 6) := ⟨⟨by decide +kernel, by decide +kernel⟩, List.mem_of_getElem? (i := 18) (by decide +kernel), List.mem_of_getElem? (i := 334) (by decide +kernel), List.mem_of_getElem? (i := 335) (by decide +kernel)⟩
theorem lw_p2 : lw_okq (⟨"OrielChart$Flow", "cut", "(IJ)V"⟩, 11) := ⟨⟨by decide +kernel, by decide +kernel⟩, List.mem_of_getElem? (i := 59) (by decide +kernel), List.mem_of_getElem? (i := 354) (by decide +kernel), List.mem_of_getElem? (i := 355) (by decide +kernel)⟩
theorem lw_p3 : lw_okq (⟨"OrielChart$Flow", "leave", "(LOrielChart$Code;I)V"⟩, 11) := ⟨⟨by decide +kernel, by decide +kernel⟩, List.mem_of_getElem? (i := 59) (by decide +kernel), List.mem_of_getElem? (i := 367) (by decide +kernel), List.mem_of_getElem? (i := 368) (by decide +kernel)⟩
theorem lw_p4 : lw_okq (⟨"OrielChart$Flow", "join", "(III)V"⟩, 11) := ⟨⟨by decide +kernel, by decide +kernel⟩, List.mem_of_getElem? (i := 59) (by decide +kernel), List.mem_of_getElem? (i := 371) (by decide +kernel), List.mem_of_getElem? (i := 372) (by decide +kernel)⟩
theorem lw_p5 : lw_okq (⟨"OrielChart$Ranks", "sortEdges", "(LOrielChart$Flow;)V"⟩, 7) := ⟨⟨by decide +kernel, by decide +kernel⟩, List.mem_of_getElem? (i := 124) (by decide +kernel), List.mem_of_getElem? (i := 405) (by decide +kernel), List.mem_of_getElem? (i := 406) (by decide +kernel)⟩
theorem lw_p6 : lw_okq (⟨"OrielChart$Ranks", "closeLoop", "(I)V"⟩, 7) := ⟨⟨by decide +kernel, by decide +kernel⟩, List.mem_of_getElem? (i := 124) (by decide +kernel), List.mem_of_getElem? (i := 415) (by decide +kernel), List.mem_of_getElem? (i := 416) (by decide +kernel)⟩
theorem lw_p7 : lw_okq (⟨"OrielChart", "freshLives", "()LOrielChart$Lives;"⟩, 6) := ⟨⟨by decide +kernel, by decide +kernel⟩, List.mem_of_getElem? (i := 18) (by decide +kernel), List.mem_of_getElem? (i := 419) (by decide +kernel), List.mem_of_getElem? (i := 420) (by decide +kernel)⟩
theorem lw_p8 : lw_okq (⟨"OrielChart$Lives", "passUp", "(LOrielChart$Code;LOrielChart$Flow;)Z"⟩, 3) := ⟨⟨by decide +kernel, by decide +kernel⟩, List.mem_of_getElem? (i := 155) (by decide +kernel), List.mem_of_getElem? (i := 428) (by decide +kernel), List.mem_of_getElem? (i := 429) (by decide +kernel)⟩
theorem lw_p9 : lw_okq (⟨"OrielChart$Lives", "behind", "(LOrielChart$Flow;I)I"⟩, 3) := ⟨⟨by decide +kernel, by decide +kernel⟩, List.mem_of_getElem? (i := 155) (by decide +kernel), List.mem_of_getElem? (i := 433) (by decide +kernel), List.mem_of_getElem? (i := 434) (by decide +kernel)⟩
theorem lw_p10 : lw_okq (⟨"OrielChart$Lives", "vainIn", "(LOrielChart$Code;LOrielChart$Flow;I)I"⟩, 3) := ⟨⟨by decide +kernel, by decide +kernel⟩, List.mem_of_getElem? (i := 155) (by decide +kernel), List.mem_of_getElem? (i := 442) (by decide +kernel), List.mem_of_getElem? (i := 443) (by decide +kernel)⟩
theorem lw_p11 : lw_okq (⟨"OrielChart", "freshReduction", "()LOrielChart$Reduction;"⟩, 6) := ⟨⟨by decide +kernel, by decide +kernel⟩, List.mem_of_getElem? (i := 18) (by decide +kernel), List.mem_of_getElem? (i := 446) (by decide +kernel), List.mem_of_getElem? (i := 447) (by decide +kernel)⟩
theorem lw_p12 : lw_okq (⟨"OrielChart$Reduction", "takeStep", "()Z"⟩, 8) := ⟨⟨by decide +kernel, by decide +kernel⟩, List.mem_of_getElem? (i := 173) (by decide +kernel), List.mem_of_getElem? (i := 458) (by decide +kernel), List.mem_of_getElem? (i := 459) (by decide +kernel)⟩
theorem lw_p13 : lw_okq (⟨"OrielChart$Reduction", "findEntries", "()V"⟩, 8) := ⟨⟨by decide +kernel, by decide +kernel⟩, List.mem_of_getElem? (i := 173) (by decide +kernel), List.mem_of_getElem? (i := 462) (by decide +kernel), List.mem_of_getElem? (i := 463) (by decide +kernel)⟩
theorem lw_p14 : lw_okq (⟨"OrielChart$Reduction", "ruleFor", "(I)I"⟩, 8) := ⟨⟨by decide +kernel, by decide +kernel⟩, List.mem_of_getElem? (i := 173) (by decide +kernel), List.mem_of_getElem? (i := 468) (by decide +kernel), List.mem_of_getElem? (i := 469) (by decide +kernel)⟩
theorem lw_p15 : lw_okq (⟨"OrielChart$Reduction", "isSingle", "(III)Z"⟩, 8) := ⟨⟨by decide +kernel, by decide +kernel⟩, List.mem_of_getElem? (i := 173) (by decide +kernel), List.mem_of_getElem? (i := 475) (by decide +kernel), List.mem_of_getElem? (i := 476) (by decide +kernel)⟩
def lw_privs_1 : List (MethodName × Nat) := [(⟨"OrielChart", "freshRanks", "()LOrielChart$Ranks;"⟩, 6), (⟨"OrielChart", "freshFlow", "()LOrielChart$Flow;"⟩, 6), (⟨"OrielChart$Flow", "cut", "(IJ)V"⟩, 11), (⟨"OrielChart$Flow", "leave", "(LOrielChart$Code;I)V"⟩, 11), (⟨"OrielChart$Flow", "join", "(III)V"⟩, 11), (⟨"OrielChart$Ranks", "sortEdges", "(LOrielChart$Flow;)V"⟩, 7), (⟨"OrielChart$Ranks", "closeLoop", "(I)V"⟩, 7), (⟨"OrielChart", "freshLives", "()LOrielChart$Lives;"⟩, 6), (⟨"OrielChart$Lives", "passUp", "(LOrielChart$Code;LOrielChart$Flow;)Z"⟩, 3), (⟨"OrielChart$Lives", "behind", "(LOrielChart$Flow;I)I"⟩, 3), (⟨"OrielChart$Lives", "vainIn", "(LOrielChart$Code;LOrielChart$Flow;I)I"⟩, 3), (⟨"OrielChart", "freshReduction", "()LOrielChart$Reduction;"⟩, 6), (⟨"OrielChart$Reduction", "takeStep", "()Z"⟩, 8), (⟨"OrielChart$Reduction", "findEntries", "()V"⟩, 8), (⟨"OrielChart$Reduction", "ruleFor", "(I)I"⟩, 8), (⟨"OrielChart$Reduction", "isSingle", "(III)Z"⟩, 8)]
theorem lw_r1 : ∀ q ∈ lw_privs_1, lw_okq q := List.forall_mem_cons.mpr ⟨lw_p0, List.forall_mem_cons.mpr ⟨lw_p1, List.forall_mem_cons.mpr ⟨lw_p2, List.forall_mem_cons.mpr ⟨lw_p3, List.forall_mem_cons.mpr ⟨lw_p4, List.forall_mem_cons.mpr ⟨lw_p5, List.forall_mem_cons.mpr ⟨lw_p6, List.forall_mem_cons.mpr ⟨lw_p7, List.forall_mem_cons.mpr ⟨lw_p8, List.forall_mem_cons.mpr ⟨lw_p9, List.forall_mem_cons.mpr ⟨lw_p10, List.forall_mem_cons.mpr ⟨lw_p11, List.forall_mem_cons.mpr ⟨lw_p12, List.forall_mem_cons.mpr ⟨lw_p13, List.forall_mem_cons.mpr ⟨lw_p14, List.forall_mem_cons.mpr ⟨lw_p15, fun _ h => absurd h List.not_mem_nil⟩⟩⟩⟩⟩⟩⟩⟩⟩⟩⟩⟩⟩⟩⟩⟩
theorem lw_p16 : lw_okq (⟨"OrielChart$Reduction", "isDouble", "(III)Z"⟩, 8) := ⟨⟨by decide +kernel, by decide +kernel⟩, List.mem_of_getElem? (i := 173) (by decide +kernel), List.mem_of_getElem? (i := 479) (by decide +kernel), List.mem_of_getElem? (i := 480) (by decide +kernel)⟩
theorem lw_p17 : lw_okq (⟨"OrielChart$Reduction", "apply", "(II)V"⟩, 8) := ⟨⟨by decide +kernel, by decide +kernel⟩, List.mem_of_getElem? (i := 173) (by decide +kernel), List.mem_of_getElem? (i := 483) (by decide +kernel), List.mem_of_getElem? (i := 484) (by decide +kernel)⟩
theorem lw_p18 : lw_okq (⟨"OrielChart$Reduction", "merge", "(JIZ)V"⟩, 8) := ⟨⟨by decide +kernel, by decide +kernel⟩, List.mem_of_getElem? (i := 173) (by decide +kernel), List.mem_of_getElem? (i := 487) (by decide +kernel), List.mem_of_getElem? (i := 488) (by decide +kernel)⟩
theorem lw_p19 : lw_okq (⟨"OrielChart", "freshPicture", "()LOrielChart$Picture;"⟩, 6) := ⟨⟨by decide +kernel, by decide +kernel⟩, List.mem_of_getElem? (i := 18) (by decide +kernel), List.mem_of_getElem? (i := 491) (by decide +kernel), List.mem_of_getElem? (i := 492) (by decide +kernel)⟩
theorem lw_p20 : lw_okq (⟨"OrielChart$Walk", "enter", "(LOrielChart$Flow;I)V"⟩, 9) := ⟨⟨by decide +kernel, by decide +kernel⟩, List.mem_of_getElem? (i := 215) (by decide +kernel), List.mem_of_getElem? (i := 504) (by decide +kernel), List.mem_of_getElem? (i := 505) (by decide +kernel)⟩
theorem lw_p21 : lw_okq (⟨"OrielChart$Walk", "goOn", "(LOrielChart$Flow;I)V"⟩, 9) := ⟨⟨by decide +kernel, by decide +kernel⟩, List.mem_of_getElem? (i := 215) (by decide +kernel), List.mem_of_getElem? (i := 510) (by decide +kernel), List.mem_of_getElem? (i := 511) (by decide +kernel)⟩
theorem lw_p22 : lw_okq (⟨"OrielChart$Picture", "setLayers", "()V"⟩, 16) := ⟨⟨by decide +kernel, by decide +kernel⟩, List.mem_of_getElem? (i := 209) (by decide +kernel), List.mem_of_getElem? (i := 516) (by decide +kernel), List.mem_of_getElem? (i := 517) (by decide +kernel)⟩
theorem lw_p23 : lw_okq (⟨"OrielChart$Picture", "pushDown", "()Z"⟩, 16) := ⟨⟨by decide +kernel, by decide +kernel⟩, List.mem_of_getElem? (i := 209) (by decide +kernel), List.mem_of_getElem? (i := 522) (by decide +kernel), List.mem_of_getElem? (i := 523) (by decide +kernel)⟩
theorem lw_p24 : lw_okq (⟨"OrielChart$Picture", "top", "(I)I"⟩, 16) := ⟨⟨by decide +kernel, by decide +kernel⟩, List.mem_of_getElem? (i := 209) (by decide +kernel), List.mem_of_getElem? (i := 531) (by decide +kernel), List.mem_of_getElem? (i := 532) (by decide +kernel)⟩
theorem lw_p25 : lw_okq (⟨"OrielChart$Picture", "numberBends", "()V"⟩, 16) := ⟨⟨by decide +kernel, by decide +kernel⟩, List.mem_of_getElem? (i := 209) (by decide +kernel), List.mem_of_getElem? (i := 538) (by decide +kernel), List.mem_of_getElem? (i := 539) (by decide +kernel)⟩
theorem lw_p26 : lw_okq (⟨"OrielChart$Picture", "bottom", "(I)I"⟩, 16) := ⟨⟨by decide +kernel, by decide +kernel⟩, List.mem_of_getElem? (i := 209) (by decide +kernel), List.mem_of_getElem? (i := 546) (by decide +kernel), List.mem_of_getElem? (i := 547) (by decide +kernel)⟩
theorem lw_p27 : lw_okq (⟨"OrielChart$Picture", "fill", "(II)I"⟩, 16) := ⟨⟨by decide +kernel, by decide +kernel⟩, List.mem_of_getElem? (i := 209) (by decide +kernel), List.mem_of_getElem? (i := 550) (by decide +kernel), List.mem_of_getElem? (i := 551) (by decide +kernel)⟩
theorem lw_p28 : lw_okq (⟨"OrielChart$Picture", "putPoint", "(III)V"⟩, 16) := ⟨⟨by decide +kernel, by decide +kernel⟩, List.mem_of_getElem? (i := 209) (by decide +kernel), List.mem_of_getElem? (i := 554) (by decide +kernel), List.mem_of_getElem? (i := 555) (by decide +kernel)⟩
theorem lw_p29 : lw_okq (⟨"OrielChart$Picture", "pointOn", "(II)I"⟩, 16) := ⟨⟨by decide +kernel, by decide +kernel⟩, List.mem_of_getElem? (i := 209) (by decide +kernel), List.mem_of_getElem? (i := 558) (by decide +kernel), List.mem_of_getElem? (i := 559) (by decide +kernel)⟩
theorem lw_p30 : lw_okq (⟨"OrielChart", "digestOfCode", "(J)J"⟩, 6) := ⟨⟨by decide +kernel, by decide +kernel⟩, List.mem_of_getElem? (i := 18) (by decide +kernel), List.mem_of_getElem? (i := 563) (by decide +kernel), List.mem_of_getElem? (i := 564) (by decide +kernel)⟩
theorem lw_p31 : lw_okq (⟨"OrielChart", "digestOfBlocks", "(J)J"⟩, 6) := ⟨⟨by decide +kernel, by decide +kernel⟩, List.mem_of_getElem? (i := 18) (by decide +kernel), List.mem_of_getElem? (i := 572) (by decide +kernel), List.mem_of_getElem? (i := 573) (by decide +kernel)⟩
def lw_privs_2 : List (MethodName × Nat) := [(⟨"OrielChart$Reduction", "isDouble", "(III)Z"⟩, 8), (⟨"OrielChart$Reduction", "apply", "(II)V"⟩, 8), (⟨"OrielChart$Reduction", "merge", "(JIZ)V"⟩, 8), (⟨"OrielChart", "freshPicture", "()LOrielChart$Picture;"⟩, 6), (⟨"OrielChart$Walk", "enter", "(LOrielChart$Flow;I)V"⟩, 9), (⟨"OrielChart$Walk", "goOn", "(LOrielChart$Flow;I)V"⟩, 9), (⟨"OrielChart$Picture", "setLayers", "()V"⟩, 16), (⟨"OrielChart$Picture", "pushDown", "()Z"⟩, 16), (⟨"OrielChart$Picture", "top", "(I)I"⟩, 16), (⟨"OrielChart$Picture", "numberBends", "()V"⟩, 16), (⟨"OrielChart$Picture", "bottom", "(I)I"⟩, 16), (⟨"OrielChart$Picture", "fill", "(II)I"⟩, 16), (⟨"OrielChart$Picture", "putPoint", "(III)V"⟩, 16), (⟨"OrielChart$Picture", "pointOn", "(II)I"⟩, 16), (⟨"OrielChart", "digestOfCode", "(J)J"⟩, 6), (⟨"OrielChart", "digestOfBlocks", "(J)J"⟩, 6)]
theorem lw_r2 : ∀ q ∈ lw_privs_2, lw_okq q := List.forall_mem_cons.mpr ⟨lw_p16, List.forall_mem_cons.mpr ⟨lw_p17, List.forall_mem_cons.mpr ⟨lw_p18, List.forall_mem_cons.mpr ⟨lw_p19, List.forall_mem_cons.mpr ⟨lw_p20, List.forall_mem_cons.mpr ⟨lw_p21, List.forall_mem_cons.mpr ⟨lw_p22, List.forall_mem_cons.mpr ⟨lw_p23, List.forall_mem_cons.mpr ⟨lw_p24, List.forall_mem_cons.mpr ⟨lw_p25, List.forall_mem_cons.mpr ⟨lw_p26, List.forall_mem_cons.mpr ⟨lw_p27, List.forall_mem_cons.mpr ⟨lw_p28, List.forall_mem_cons.mpr ⟨lw_p29, List.forall_mem_cons.mpr ⟨lw_p30, List.forall_mem_cons.mpr ⟨lw_p31, fun _ h => absurd h List.not_mem_nil⟩⟩⟩⟩⟩⟩⟩⟩⟩⟩⟩⟩⟩⟩⟩⟩
theorem lw_p32 : lw_okq (⟨"OrielChart", "digestOfEdges", "(J)J"⟩, 6) := ⟨⟨by decide +kernel, by decide +kernel⟩, List.mem_of_getElem? (i := 18) (by decide +kernel), List.mem_of_getElem? (i := 593) (by decide +kernel), List.mem_of_getElem? (i := 594) (by decide +kernel)⟩
theorem lw_p33 : lw_okq (⟨"OrielChart", "digestOfSteps", "(J)J"⟩, 6) := ⟨⟨by decide +kernel, by decide +kernel⟩, List.mem_of_getElem? (i := 18) (by decide +kernel), List.mem_of_getElem? (i := 612) (by decide +kernel), List.mem_of_getElem? (i := 613) (by decide +kernel)⟩
theorem lw_p34 : lw_okq (⟨"OrielChart", "digestOfLayers", "(J)J"⟩, 6) := ⟨⟨by decide +kernel, by decide +kernel⟩, List.mem_of_getElem? (i := 18) (by decide +kernel), List.mem_of_getElem? (i := 616) (by decide +kernel), List.mem_of_getElem? (i := 617) (by decide +kernel)⟩
theorem lw_p35 : lw_okq (⟨"OrielChart$Picture", "crossingsUnder", "(I)I"⟩, 16) := ⟨⟨by decide +kernel, by decide +kernel⟩, List.mem_of_getElem? (i := 209) (by decide +kernel), List.mem_of_getElem? (i := 632) (by decide +kernel), List.mem_of_getElem? (i := 633) (by decide +kernel)⟩
theorem lw_p36 : lw_okq (⟨"OrielChart$Picture", "leaves", "(II)Z"⟩, 16) := ⟨⟨by decide +kernel, by decide +kernel⟩, List.mem_of_getElem? (i := 209) (by decide +kernel), List.mem_of_getElem? (i := 636) (by decide +kernel), List.mem_of_getElem? (i := 637) (by decide +kernel)⟩
theorem lw_p37 : lw_okq (⟨"java/lang/Throwable", "fillInStackTrace", "(I)Ljava/lang/Throwable;"⟩, 6) := ⟨⟨by decide +kernel, by decide +kernel⟩, List.mem_of_getElem? (i := 704) (by decide +kernel), List.mem_of_getElem? (i := 702) (by decide +kernel), List.mem_of_getElem? (i := 703) (by decide +kernel)⟩
theorem lw_p38 : lw_okq (⟨"OrielChart$Code", "shiftTargets", "(II)V"⟩, 5) := ⟨⟨by decide +kernel, by decide +kernel⟩, List.mem_of_getElem? (i := 26) (by decide +kernel), List.mem_of_getElem? (i := 760) (by decide +kernel), List.mem_of_getElem? (i := 761) (by decide +kernel)⟩
theorem lw_p39 : lw_okq (⟨"OrielChart$Code", "copy", "(II)V"⟩, 5) := ⟨⟨by decide +kernel, by decide +kernel⟩, List.mem_of_getElem? (i := 26) (by decide +kernel), List.mem_of_getElem? (i := 769) (by decide +kernel), List.mem_of_getElem? (i := 770) (by decide +kernel)⟩
theorem lw_p40 : lw_okq (⟨"OrielChart", "forget", "()V"⟩, 6) := ⟨⟨by decide +kernel, by decide +kernel⟩, List.mem_of_getElem? (i := 18) (by decide +kernel), List.mem_of_getElem? (i := 773) (by decide +kernel), List.mem_of_getElem? (i := 774) (by decide +kernel)⟩
theorem lw_p41 : lw_okq (⟨"OrielChart", "needInstruction", "(I)V"⟩, 6) := ⟨⟨by decide +kernel, by decide +kernel⟩, List.mem_of_getElem? (i := 18) (by decide +kernel), List.mem_of_getElem? (i := 781) (by decide +kernel), List.mem_of_getElem? (i := 782) (by decide +kernel)⟩
theorem lw_p42 : lw_okq (⟨"OrielChart$Picture", "arrange", "(II)V"⟩, 16) := ⟨⟨by decide +kernel, by decide +kernel⟩, List.mem_of_getElem? (i := 209) (by decide +kernel), List.mem_of_getElem? (i := 837) (by decide +kernel), List.mem_of_getElem? (i := 838) (by decide +kernel)⟩
theorem lw_p43 : lw_okq (⟨"OrielChart$Picture", "weigh", "(III)V"⟩, 16) := ⟨⟨by decide +kernel, by decide +kernel⟩, List.mem_of_getElem? (i := 209) (by decide +kernel), List.mem_of_getElem? (i := 842) (by decide +kernel), List.mem_of_getElem? (i := 843) (by decide +kernel)⟩
theorem lw_p44 : lw_okq (⟨"OrielChart$Picture", "isAhead", "(II)Z"⟩, 16) := ⟨⟨by decide +kernel, by decide +kernel⟩, List.mem_of_getElem? (i := 209) (by decide +kernel), List.mem_of_getElem? (i := 847) (by decide +kernel), List.mem_of_getElem? (i := 848) (by decide +kernel)⟩
theorem lw_p45 : lw_okq (⟨"OrielChart", "needBlock", "(I)V"⟩, 6) := ⟨⟨by decide +kernel, by decide +kernel⟩, List.mem_of_getElem? (i := 18) (by decide +kernel), List.mem_of_getElem? (i := 877) (by decide +kernel), List.mem_of_getElem? (i := 878) (by decide +kernel)⟩
theorem lw_p46 : lw_okq (⟨"OrielChart", "needEdge", "(I)V"⟩, 6) := ⟨⟨by decide +kernel, by decide +kernel⟩, List.mem_of_getElem? (i := 18) (by decide +kernel), List.mem_of_getElem? (i := 931) (by decide +kernel), List.mem_of_getElem? (i := 932) (by decide +kernel)⟩
theorem lw_p47 : lw_okq (⟨"OrielChart", "needLayer", "(I)V"⟩, 6) := ⟨⟨by decide +kernel, by decide +kernel⟩, List.mem_of_getElem? (i := 18) (by decide +kernel), List.mem_of_getElem? (i := 971) (by decide +kernel), List.mem_of_getElem? (i := 972) (by decide +kernel)⟩
def lw_privs_3 : List (MethodName × Nat) := [(⟨"OrielChart", "digestOfEdges", "(J)J"⟩, 6), (⟨"OrielChart", "digestOfSteps", "(J)J"⟩, 6), (⟨"OrielChart", "digestOfLayers", "(J)J"⟩, 6), (⟨"OrielChart$Picture", "crossingsUnder", "(I)I"⟩, 16), (⟨"OrielChart$Picture", "leaves", "(II)Z"⟩, 16), (⟨"java/lang/Throwable", "fillInStackTrace", "(I)Ljava/lang/Throwable;"⟩, 6), (⟨"OrielChart$Code", "shiftTargets", "(II)V"⟩, 5), (⟨"OrielChart$Code", "copy", "(II)V"⟩, 5), (⟨"OrielChart", "forget", "()V"⟩, 6), (⟨"OrielChart", "needInstruction", "(I)V"⟩, 6), (⟨"OrielChart$Picture", "arrange", "(II)V"⟩, 16), (⟨"OrielChart$Picture", "weigh", "(III)V"⟩, 16), (⟨"OrielChart$Picture", "isAhead", "(II)Z"⟩, 16), (⟨"OrielChart", "needBlock", "(I)V"⟩, 6), (⟨"OrielChart", "needEdge", "(I)V"⟩, 6), (⟨"OrielChart", "needLayer", "(I)V"⟩, 6)]
theorem lw_r3 : ∀ q ∈ lw_privs_3, lw_okq q := List.forall_mem_cons.mpr ⟨lw_p32, List.forall_mem_cons.mpr ⟨lw_p33, List.forall_mem_cons.mpr ⟨lw_p34, List.forall_mem_cons.mpr ⟨lw_p35, List.forall_mem_cons.mpr ⟨lw_p36, List.forall_mem_cons.mpr ⟨lw_p37, List.forall_mem_cons.mpr ⟨lw_p38, List.forall_mem_cons.mpr ⟨lw_p39, List.forall_mem_cons.mpr ⟨lw_p40, List.forall_mem_cons.mpr ⟨lw_p41, List.forall_mem_cons.mpr ⟨lw_p42, List.forall_mem_cons.mpr ⟨lw_p43, List.forall_mem_cons.mpr ⟨lw_p44, List.forall_mem_cons.mpr ⟨lw_p45, List.forall_mem_cons.mpr ⟨lw_p46, List.forall_mem_cons.mpr ⟨lw_p47, fun _ h => absurd h List.not_mem_nil⟩⟩⟩⟩⟩⟩⟩⟩⟩⟩⟩⟩⟩⟩⟩⟩
def lw_privs : List (MethodName × Nat) := lw_privs_1 ++ (lw_privs_2 ++ (lw_privs_3))
def lw_tbl : List Cond := k2_sels lw_privs ++ tables_1
theorem lw_privs_ok : ∀ q ∈ lw_privs, lw_okq q := by
  show ∀ q ∈ lw_privs_1 ++ (lw_privs_2 ++ (lw_privs_3)), lw_okq q
  exact List.forall_mem_append.mpr ⟨lw_r1, List.forall_mem_append.mpr ⟨lw_r2, lw_r3⟩⟩
/-- the streams that the claim lets the run draw from -/
abbrev lw_cs : List Choice := [Jvm.Choice.named "NaN.bits"]
theorem lw_bits : nanBits ∈ lw_cs := by first | decide | exact List.mem_cons_self | simp [lw_cs, nanBits]
end
section
/-! ===== BEGIN words of one list among another's, by their places ===== -/
theorem goodIn_r {big : List Cond} (ws : List Cond) (ps : List Nat) (hp : ws = ps.filterMap (fun i => big[i]?)) (h : ws.all goodWord = true) : GoodIn big ws := by
  intro w hw
  have h1 := List.all_eq_true.mp h w hw
  rw [hp] at hw
  obtain ⟨i, -, hi⟩ := List.mem_filterMap.mp hw
  have hm : w ∈ big := by first | exact List.mem_of_getElem? hi | exact List.getElem?_mem hi
  exact ⟨hm, good_of_word h1⟩
theorem goodIn_app {big a b : List Cond} (ha : GoodIn big a) (hb : GoodIn big b) : GoodIn big (a ++ b) := fun w h => (List.mem_append.mp h).elim (ha w) (hb w)
theorem goodIn_ca {big a b : List Cond} {c : Cond} (ha : GoodIn big (c :: a)) (hb : GoodIn big b) : GoodIn big (c :: (a ++ b)) := fun w h => (List.mem_cons.mp h).elim (fun e => ha w (List.mem_cons.mpr (Or.inl e))) (fun h => (List.mem_append.mp h).elim (fun h => ha w (List.mem_cons.mpr (Or.inr h))) (hb w))
theorem goodIn_sub {big ws : List Cond} (hm : ∀ w ∈ ws, w ∈ big) (h : ws.all goodWord = true) : GoodIn big ws := fun w hw => ⟨hm w hw, good_of_word (List.all_eq_true.mp h w hw)⟩
/-! ===== END ===== -/

/-! ===== BEGIN exceptions that leave a method, and their catching by the caller (launches without stack traces) ===== -/
section VXA
/-! The laws vx_back, vx_callV, vx_callS, vx_callSW, vx_throw0, vx_throwS follow proofs of the library, with one case more: JvmDerived/Free/Laws.lean (Back.of_free), Shelf42/LK1.lean (callV, callS), Shelf/KitTraced.lean (throwNew0V, throwNewS). -/
/-- where a method has thrown q: the class by its name, the cell, what was written, the world -/
def vx_T (XC : String → State → State → Prop) (st : State) (q : Addr) (t : State) (mc ms : Nat) (free : Addr → Prop) : Prop :=
  ∃ (E : String) (ce : Cell) (L : List Loc), XC E st t ∧ t.heap[q]? = some ce ∧ ce.vm = .none ∧ st.vm.findClass E = some ce.cls ∧ st.WarmedH t.vm ∧ st.sameButNew ({ t with vm := st.vm } : State) L mc ms ∧ ∀ z ∈ L, free z.base
def vx_Q (Qc : Array Value → State → Outcome → State → Prop) (XC : String → State → State → Prop) (mc ms : Nat) (free : Addr → Prop) : Array Value → State → Outcome → State → Prop := fun a st o t =>
  (Qc a st o t ∧ ∃ L, FrameEnd st o t L mc ms ∧ ∀ q ∈ L, free q.base) ∨ ∃ q, o = .threw q ∧ vx_T XC st q t mc ms free
/-- a callee that returns or throws -/
def vx_Met (l : Launch) (y : MethodName) (ws : List Cond) (rm : Room) (Pc : Array Value → State → Prop) (Qc : Array Value → State → Outcome → State → Prop) (XC : String → State → State → Prop) (mc ms : Nat) (free : Addr → Prop) : Prop :=
  MetFree l y (headSpec ws rm) Pc (fun _ _ _ _ _ => True) (vx_Q Qc XC mc ms free)
def vx_Post (XC : String → State → State → Prop) (mc ms : Nat) (free : Addr → Prop) : Pt → Array Value → Addr → Pt → Prop := fun A a q B =>
  ∃ (g : JFrame) (mk : MethodId) (t : State) (L : List Loc) (E : String) (ce : Cell), B.U.heap = t.heap ∧ B.U.vm = t.vm ∧ XC E (A.U.calling g mk a) t ∧ t.heap[q]? = some ce ∧ ce.vm = .none ∧ A.U.vm.findClass E = some ce.cls ∧ B.locs = A.locs ++ L ∧ (∀ z ∈ L, free z.base) ∧ B.cells = A.cells + mc ∧ B.slots = A.slots + ms
def vx_Back (l : Launch) (R : Room) (p : Program) (e : Env) (below : List Frame) (s : State) (sargs : Array Value) (y : MethodName) (len W9 : Nat)
    (Pre : Pt → Array Value → Prop) (Post : Pt → Array Value → Option Value → Pt → Prop) (PostX : Pt → Array Value → Addr → Pt → Prop) : Prop :=
  ∀ (m : MethodId) (meth : Method) (c : Code) (A : Pt) (g : JFrame) (ig : Instr) (mk : MethodId) (a : Array Value),
    Stand p l e R s m sargs below meth c A.U A.locs A.cells A.slots → g.method = m → g.locals.size = c.maxLocals → decode c.code g.pc = .ok (ig, len) →
    2 * g.monitorRoom + (g.stack.map fun v => v.category).sum ≤ W9 → A.U.methodNamed? y = some mk → Pre A a →
    (∃ (v : Option Value) (B : Pt), Stand p l e R s m sargs below meth c B.U B.locs B.cells B.slots ∧ Post A a v B ∧
      Steps p.tables e below (doInvoke e (A.U.setTop g) [] mk a).1 (B.U.setTop { g with pc := g.pc + len, stack := v.toList ++ g.stack })) ∨
    (∃ (q : Addr) (B : Pt), Stand p l e R s m sargs below meth c B.U B.locs B.cells B.slots ∧ PostX A a q B ∧
      Steps p.tables e below (doInvoke e (A.U.setTop g) [] mk a).1 ((B.U.setTop g).pushFrame (.throwing q)))
section Payer
variable {l : Launch} {R : Room} {p : Program} {e : Env} {below : List Frame} {s : State} {sargs : Array Value} {y : MethodName} {len W9 : Nat}
theorem vx_back {ws : List Cond} {rm : Room} {Pc : Array Value → State → Prop} {Qc : Array Value → State → Outcome → State → Prop} {XC : String → State → State → Prop} {mc ms : Nat} {free : Addr → Prop} {bytes : ByteArray} {maxL : Nat} {ret : Option FieldType}
    (hM : vx_Met l y ws rm Pc Qc XC mc ms free) (hblind : FrameBlind Pc) (hrc : rm.cells = mc) (hrs : rm.slots = ms)
    (hframes : rm.frames + 1 ≤ R.frames) (hlocals : W9 + (maxL + 11) + rm.locals ≤ R.locals)
    (hws : ∀ w ∈ ws, ∀ a' U, s.WarmedH U.vm → w.before a' U = true) (hcode : Cond.code y bytes maxL ret ∈ ws) (hinit : ∀ a' U, s.WarmedH U.vm → (Cond.initialized y.cls).before a' U = true) :
    vx_Back l R p e below s sargs y len W9 (PreOf R mc ms Pc) (PostOf Qc mc ms free) (vx_Post XC mc ms free) := by
  intro m meth c A g ig mk a X hg hsize hdg hW hn hp
  have h1 : (headSpec ws rm).pre.before a A.U = true := atoms_intro fun w hw => hws w hw _ _ X.warmed
  have h2 : (Cond.code y bytes maxL ret).before a A.U = true := hws _ hcode _ _ X.warmed
  have h3 : (Cond.initialized y.cls).before a A.U = true := hinit _ _ X.warmed
  have h4 : A.cells + (headSpec ws rm).room.cells ≤ R.cells := by rw [show (headSpec ws rm).room.cells = mc from hrc]; exact hp.1
  have h5 : A.slots + (headSpec ws rm).room.slots ≤ R.slots := by rw [show (headSpec ws rm).room.slots = ms from hrs]; exact hp.2.1
  have hPc : Pc a (A.U.calling g mk a) := hblind _ _ _ _ hp.2.2
  obtain ⟨U, Ls, c0, s0⟩ := A
  dsimp only [Pt.U, Pt.locs, Pt.cells, Pt.slots] at h1 h2 h3 h4 h5 X hn hPc ⊢
  obtain ⟨methY, cY, hmY, hcY, -, hlY, -, -, -, -⟩ := Cond.code_spec hn h2
  obtain ⟨kY, hkY, -⟩ := className_of_methodNamed hn
  have hinitY : kY.init = .initialized := Cond.initialized_spec (findClass_of_methodNamed hn) hkY h3
  have h : At U g.method c below := by rw [hg]; exact X.here
  have hlocals9 : W9 + (maxL + 11) + (headSpec ws rm).room.locals ≤ R.locals := hlocals
  have happ : (headSpec ws rm).appliesLoose y e.platform (U.calling g mk a) = true :=
    Spec.appliesLoose_calling (g := g) h hdg hn hkY hinitY
      (X.room_calling (g := g) (R' := (headSpec ws rm).room) hsize hmY hcY hframes (by rw [hlY]; omega) h4 h5) h1
  obtain ⟨mid, hmid⟩ := h.above
  have hfr : (U.setTop g).frames = (.java g :: mid) ++ below := by rw [State.frames_setTop' g h.top, hmid]; rfl
  obtain ⟨o, s₂, hsteps, -, hend, hq⟩ := Steps.callFree hM p X.admits X.cas X.clock (acts := []) hfr happ hPc trivial
  have hq' : vx_Q Qc XC mc ms free a (U.calling g mk a) o s₂ := hq
  rw [State.frames_setTop' g h.top] at hend
  obtain ⟨g₀, hg0⟩ := Option.isSome_iff_exists.mp h.top
  obtain ⟨r, hr⟩ := State.topJava?_eq_some.mp hg0
  have hr' : (({ U with heap := s₂.heap, slotsUsed := s₂.slotsUsed } : State).setVm s₂.vm).frames = .java g₀ :: r := hr
  rcases hq' with ⟨hqc, L, hfe, hL⟩ | ⟨q, rfl, E, ce, L, hx, hce, hcv, hcl, hW₂, hsm, hL⟩
  · obtain ⟨⟨v, rfl⟩, hW₂, e2, q2, q3, q4, q5, q6⟩ := id hfe
    have e3 : s₂ = ({ (U.calling g mk a).setFrames s₂.frames with heap := s₂.heap, slotsUsed := s₂.slotsUsed } : State).setVm s₂.vm := by
      have : s₂ = ({ s₂ with vm := (U.calling g mk a).vm } : State).setVm s₂.vm := rfl
      rw [e2] at this
      exact this
    obtain ⟨c₂, i₂, len₂, hc₂, hd₂, hf₂⟩ := hend
    have hW' : U.WarmedH s₂.vm := hW₂
    have hcc : c₂ = c := by
      have h1 : s₂.code? g.method = U.code? g.method := by
        rw [State.code?_eq, State.code?_eq, hW'.alike.method?]
      exact Option.some.inj (hc₂.symm.trans (h1.trans h.code))
    subst hcc
    have hlen : len₂ = len := by rw [hdg] at hd₂; cases hd₂; rfl
    subst hlen
    have hs₂ : s₂ = (({ U with heap := s₂.heap, slotsUsed := s₂.slotsUsed } : State).setVm s₂.vm).setTop { g with pc := g.pc + len₂, stack := v.toList ++ g.stack } := by
      refine e3.trans ?_
      rw [hf₂, State.calling_eq h.top, State.setFrames_setFrames, State.setTop_of_frames _ hr', hr]
      rfl
    have hsame : U.sameButNew ({ U with heap := s₂.heap, slotsUsed := s₂.slotsUsed } : State) L mc ms := by
      refine ⟨?_, q2, q3, q4, q5, q6⟩
      obtain ⟨t, ht, -⟩ := State.frames_cons hr
      show ({ U with heap := s₂.heap, slotsUsed := s₂.slotsUsed } : State) = { U.setFrames U.frames with heap := s₂.heap, slotsUsed := s₂.slotsUsed }
      rw [State.setFrames_self ht]
    subst hg
    refine Or.inl ⟨v, ⟨(({ U with heap := s₂.heap, slotsUsed := s₂.slotsUsed } : State).setVm s₂.vm), Ls ++ L, c0 + mc, s0 + ms⟩,
      ⟨X.admits, X.cas, X.clock, X.frames, X.room, X.hears, X.method, X.code, (X.here.setHeapUsed s₂.heap s₂.slotsUsed).setVm hW'.alike, X.tail, State.WarmedH.trans X.warmed hW', X.limits, X.bytes, X.same.trans (hsame.setVm s.vm)⟩,
      ⟨g, mk, s₂, L, rfl, rfl, hqc, rfl, hL, rfl, rfl⟩, ?_⟩
    show Steps p.tables e below _ ((({ U with heap := s₂.heap, slotsUsed := s₂.slotsUsed } : State).setVm s₂.vm).setTop { g with pc := g.pc + len₂, stack := v.toList ++ g.stack })
    rw [← hs₂]
    exact hsteps
  · obtain ⟨e2, q2, q3, q4, q5, q6⟩ := id hsm
    have e3 : s₂ = ({ (U.calling g mk a).setFrames s₂.frames with heap := s₂.heap, slotsUsed := s₂.slotsUsed } : State).setVm s₂.vm := by
      have : s₂ = ({ s₂ with vm := (U.calling g mk a).vm } : State).setVm s₂.vm := rfl
      rw [e2] at this
      exact this
    have hf₂ : s₂.frames = .throwing q :: .java g :: U.frames.tail := hend
    have hW' : U.WarmedH s₂.vm := hW₂
    have hs₂ : s₂ = ((({ U with heap := s₂.heap, slotsUsed := s₂.slotsUsed } : State).setVm s₂.vm).setTop g).pushFrame (.throwing q) := by
      refine e3.trans ?_
      rw [hf₂, State.calling_eq h.top, State.setFrames_setFrames, State.pushFrame, State.frames_setTop _ hr', State.setTop_of_frames _ hr', State.setFrames_setFrames, hr]
      rfl
    have hsame : U.sameButNew ({ U with heap := s₂.heap, slotsUsed := s₂.slotsUsed } : State) L mc ms := by
      refine ⟨?_, q2, q3, q4, q5, q6⟩
      obtain ⟨t, ht, -⟩ := State.frames_cons hr
      show ({ U with heap := s₂.heap, slotsUsed := s₂.slotsUsed } : State) = { U.setFrames U.frames with heap := s₂.heap, slotsUsed := s₂.slotsUsed }
      rw [State.setFrames_self ht]
    subst hg
    refine Or.inr ⟨q, ⟨(({ U with heap := s₂.heap, slotsUsed := s₂.slotsUsed } : State).setVm s₂.vm), Ls ++ L, c0 + mc, s0 + ms⟩,
      ⟨X.admits, X.cas, X.clock, X.frames, X.room, X.hears, X.method, X.code, (X.here.setHeapUsed s₂.heap s₂.slotsUsed).setVm hW'.alike, X.tail, State.WarmedH.trans X.warmed hW', X.limits, X.bytes, X.same.trans (hsame.setVm s.vm)⟩,
      ⟨g, mk, s₂, L, E, ce, rfl, rfl, hx, hce, hcv, hcl, rfl, hL, rfl, rfl⟩, ?_⟩
    show Steps p.tables e below _ (((({ U with heap := s₂.heap, slotsUsed := s₂.slotsUsed } : State).setVm s₂.vm).setTop g).pushFrame (.throwing q))
    rw [← hs₂]
    exact hsteps
end Payer
section Calls
variable {p : Program} {l : Launch} {e : Env} {R : Room} {s : State} {m : MethodId} {args : Array Value} {below : List Frame} {meth : Method} {c : Code} {T : State} {locs : List Loc} {cells slots : Nat}
theorem vx_callV (X : Stand p l e R s m args below meth c T locs cells slots) (hexec : p.tables.exec = Jvm.exec) {own C : String} {index : Nat} {y : MethodName} {bytes : ByteArray} {maxL : Nat} {ret : Option FieldType}
    (hown : s.vm.findClass own = some m.cls) (hlink : (Cond.methodLink own index y).before args s = true) (hinst : (Cond.instanceMethod y).before args s = true) (hsel : (Cond.selects C y y).before args s = true)
    (hcode : (Cond.code y bytes maxL ret).before args s = true) (hy : y.cls ≠ "java/lang/invoke/MethodHandle" ∧ y.cls ≠ "java/lang/invoke/VarHandle")
    {W9 : Nat} {Pre : Pt → Array Value → Prop} {Post : Pt → Array Value → Option Value → Pt → Prop} {PostX : Pt → Array Value → Addr → Pt → Prop} (hK : vx_Back l R p e below s args y 3 W9 Pre Post PostX)
    {b : Addr} {cellB : Cell} (hcell : T.heap[b]? = some cellB) (hobj : cellB.vm.isStatics = false) (hcls : s.vm.findClass C = some cellB.cls)
    {g : JFrame} (hg : g.method = m) (hsize : g.locals.size = c.maxLocals) {argsL rest : List Value} (hlen : ∀ sig, parseMethodDescriptor y.desc = some sig → argsL.length = sig.parameters.length)
    (hstack : g.stack = argsL.reverse ++ .ref b :: rest) (hW : 2 * g.monitorRoom + (rest.map fun v => v.category).sum ≤ W9) (hdg : decode c.code g.pc = .ok (.invokevirtual index, 3))
    (hpre : ∀ vm₁, s.WarmedH vm₁ → Pre ⟨T.setVm vm₁, locs, cells, slots⟩ (Value.ref b :: argsL).toArray) :
    (∃ (v : Option Value) (vm₁ : Vm) (B : Pt), s.WarmedH vm₁ ∧ Stand p l e R s m args below meth c B.U B.locs B.cells B.slots ∧ Post ⟨T.setVm vm₁, locs, cells, slots⟩ (Value.ref b :: argsL).toArray v B ∧
      ∀ target, Steps p.tables e below (B.U.setTop { g with pc := g.pc + 3, stack := v.toList ++ rest }) target → Steps p.tables e below (T.setTop g) target) ∨
    (∃ (q : Addr) (vm₁ : Vm) (B : Pt), s.WarmedH vm₁ ∧ Stand p l e R s m args below meth c B.U B.locs B.cells B.slots ∧ PostX ⟨T.setVm vm₁, locs, cells, slots⟩ (Value.ref b :: argsL).toArray q B ∧
      Steps p.tables e below (T.setTop g) ((B.U.setTop { g with stack := rest }).pushFrame (.throwing q))) := by
  obtain ⟨mk, methM, hnamed, hmethM, hstM, habM⟩ := Cond.instanceMethod_spec hinst
  obtain ⟨methM', cM, hmethM', -, -, -, -, -, -, hsigM⟩ := Cond.code_spec hnamed hcode
  cases hmethM.symm.trans hmethM'
  obtain ⟨c2, r2, m2, q1, q2, q3, q4, kP, hkP, hkPi⟩ := Cond.selects_spec hsel
  cases hcls.symm.trans q1
  cases (State.methodFound?_of_named hnamed hy).symm.trans q2
  cases hnamed.symm.trans q3
  have hselP : selectMethod e.platform s.vm cellB.cls mk = .method mk := by rw [Launch.admits_selectMethod X.admits]; exact q4
  obtain ⟨vm₁, X₁, hstep₁⟩ := X.invokevirtual hexec hown hlink hnamed hmethM hstM hkP hkPi hy (a := b) (cell := cellB) hcell
    (fun z h => by rw [h] at hobj; cases hobj) hselP hmethM habM hkP hkPi (g := g) hg (argsL := argsL) (rest := rest) (hlen _ hsigM) hstack hdg
  rcases hK m meth c ⟨T.setVm vm₁, locs, cells, slots⟩ { g with stack := rest } (.invokevirtual index) mk (Value.ref b :: argsL).toArray X₁ hg hsize hdg hW (X₁.named hnamed) (hpre vm₁ X₁.warmed) with ⟨v, B, X', hpost, hsteps⟩ | ⟨q, B, X', hpost, hsteps⟩
  · exact Or.inl ⟨v, vm₁, B, X₁.warmed, X', hpost, fun target h => hstep₁ _ fun acts => by rw [doInvoke_state]; exact hsteps.trans h⟩
  · exact Or.inr ⟨q, vm₁, B, X₁.warmed, X', hpost, hstep₁ _ fun acts => by rw [doInvoke_state]; exact hsteps⟩
theorem vx_callS (X : Stand p l e R s m args below meth c T locs cells slots) (hexec : p.tables.exec = Jvm.exec) {own : String} {index : Nat} {y : MethodName} {bytes : ByteArray} {maxL : Nat} {ret : Option FieldType}
    (hown : s.vm.findClass own = some m.cls) (hlink : (Cond.methodLink own index y).before args s = true) (hstat : (Cond.static y).before args s = true) (hinit : (Cond.initialized y.cls).before args s = true)
    (hcode : (Cond.code y bytes maxL ret).before args s = true) (hy : y.cls ≠ "java/lang/invoke/MethodHandle" ∧ y.cls ≠ "java/lang/invoke/VarHandle")
    {W9 : Nat} {Pre : Pt → Array Value → Prop} {Post : Pt → Array Value → Option Value → Pt → Prop} {PostX : Pt → Array Value → Addr → Pt → Prop} (hK : vx_Back l R p e below s args y 3 W9 Pre Post PostX)
    {g : JFrame} (hg : g.method = m) (hsize : g.locals.size = c.maxLocals) {argsL rest : List Value} (hlen : ∀ sig, parseMethodDescriptor y.desc = some sig → argsL.length = sig.parameters.length)
    (hstack : g.stack = argsL.reverse ++ rest) (hW : 2 * g.monitorRoom + (rest.map fun v => v.category).sum ≤ W9) (hdg : decode c.code g.pc = .ok (.invokestatic index, 3))
    (hpre : ∀ vm₁, s.WarmedH vm₁ → Pre ⟨T.setVm vm₁, locs, cells, slots⟩ argsL.toArray) :
    (∃ (v : Option Value) (vm₁ : Vm) (B : Pt), s.WarmedH vm₁ ∧ Stand p l e R s m args below meth c B.U B.locs B.cells B.slots ∧ Post ⟨T.setVm vm₁, locs, cells, slots⟩ argsL.toArray v B ∧
      ∀ target, Steps p.tables e below (B.U.setTop { g with pc := g.pc + 3, stack := v.toList ++ rest }) target → Steps p.tables e below (T.setTop g) target) ∨
    (∃ (q : Addr) (vm₁ : Vm) (B : Pt), s.WarmedH vm₁ ∧ Stand p l e R s m args below meth c B.U B.locs B.cells B.slots ∧ PostX ⟨T.setVm vm₁, locs, cells, slots⟩ argsL.toArray q B ∧
      Steps p.tables e below (T.setTop g) ((B.U.setTop { g with stack := rest }).pushFrame (.throwing q))) := by
  obtain ⟨mk, hnamed⟩ := Cond.code_named hcode
  obtain ⟨methM, cM, hmethM, -, -, -, -, -, -, hsigM⟩ := Cond.code_spec hnamed hcode
  have hstatic : methM.isStatic = true := Cond.static_spec hnamed hmethM hstat
  obtain ⟨kP, hkP, -⟩ := className_of_methodNamed hnamed
  have hinitP : kP.init = .initialized := Cond.initialized_spec (findClass_of_methodNamed hnamed) hkP hinit
  obtain ⟨vm₁, X₁, hstep₁⟩ := X.invokestatic hexec hown hlink hnamed hmethM hstatic hkP hinitP hy (g := g) hg (argsL := argsL) (rest := rest) (hlen _ hsigM) hstack hdg
  rcases hK m meth c ⟨T.setVm vm₁, locs, cells, slots⟩ { g with stack := rest } (.invokestatic index) mk argsL.toArray X₁ hg hsize hdg hW (X₁.named hnamed) (hpre vm₁ X₁.warmed) with ⟨v, B, X', hpost, hsteps⟩ | ⟨q, B, X', hpost, hsteps⟩
  · exact Or.inl ⟨v, vm₁, B, X₁.warmed, X', hpost, fun target h => hstep₁ _ fun acts => by rw [doInvoke_state]; exact hsteps.trans h⟩
  · exact Or.inr ⟨q, vm₁, B, X₁.warmed, X', hpost, hstep₁ _ fun acts => by rw [doInvoke_state]; exact hsteps⟩
end Calls
theorem vx_cls {s : State} {T : State} {vm₁ : Vm} {E : String} {k : ClassId} (hW : s.WarmedH vm₁) (h : (T.setVm vm₁).vm.findClass E = some k) : s.vm.findClass E = some k := by
  have h1 : vm₁.findClass E = some k := h
  rw [hW.alike.findClass] at h1
  exact h1
/-- the method's frame g, with q thrown over it -/
def vx_W (p : Program) (l : Launch) (e : Env) (R : Room) (s : State) (m : MethodId) (args : Array Value) (below : List Frame) (meth : Method) (c : Code) (H : Heap) (locs : List Loc) (cells slots : Nat) (Q : State → Prop) (g : JFrame) (q : Addr) : Prop :=
  ∀ T : State, T.heap = H → Stand p l e R s m args below meth c T locs cells slots → ∃ t, Steps p.tables e below ((T.setTop g).pushFrame (.throwing q)) t ∧ Q t
def vx_Run (p : Program) (l : Launch) (e : Env) (R : Room) (s : State) (m : MethodId) (args : Array Value) (below : List Frame) (meth : Method) (c : Code) (H : Heap) (locs : List Loc) (cells slots mc ms : Nat) (g : JFrame) (rest : List Value) (Qa : State → Outcome → State → Prop) (XC : String → State → State → Prop) (free : Addr → Prop) : Prop :=
  ∀ T : State, T.heap = H → Stand p l e R s m args below meth c T locs cells slots →
    (∃ (v : Option Value) (st₀ t T' : State) (L : List Loc), st₀.heap = H ∧ Stand p l e R s m args below meth c T' (locs ++ L) (cells + mc) (slots + ms) ∧ (∀ q ∈ L, free q.base) ∧ T'.heap = t.heap ∧ T'.vm = t.vm ∧ Qa st₀ (.returned v) t ∧
      Goes p e below T g T' { g with pc := g.pc + 3, stack := v.toList ++ rest }) ∨
    (∃ (q : Addr) (st₀ t T' : State) (L : List Loc) (E : String) (ce : Cell), st₀.heap = H ∧ Stand p l e R s m args below meth c T' (locs ++ L) (cells + mc) (slots + ms) ∧ (∀ z ∈ L, free z.base) ∧ T'.heap = t.heap ∧ T'.vm = t.vm ∧ XC E st₀ t ∧ t.heap[q]? = some ce ∧ ce.vm = .none ∧ s.vm.findClass E = some ce.cls ∧
      Steps p.tables e below (T.setTop g) ((T'.setTop { g with stack := rest }).pushFrame (.throwing q)))
def vx_X {S : Type} (px : S → Prop) (B : String → S → State → Prop) (A : Nat → Prop) : String → State → State → Prop := fun E st t => ∃ u : S, px u ∧ B E u t ∧ va_F A st t
section Runs
variable {p : Program} {l : Launch} {e : Env} {R : Room} {s : State} {m : MethodId} {args : Array Value} {below : List Frame} {meth : Method} {c : Code} {H : Heap} {locs : List Loc} {cells slots : Nat}
variable {y : MethodName} {bytes cc : ByteArray} {maxL nL mc ms n index : Nat} {ret : Option FieldType} {ws : List Cond} {rm : Room} {Pc : Array Value → State → Prop} {Qc : Array Value → State → Outcome → State → Prop} {XC : String → State → State → Prop} {free : Addr → Prop} {Ts : List Cond} {own C : String} {b : Addr} {As rest : List Value} {g : JFrame}
theorem vx_callBack (cb : CallB R s args own index y bytes maxL ret ws rm mc ms n) (hM : vx_Met l y ws rm Pc Qc XC mc ms free) (hbl : FrameBlind Pc) : vx_Back l R p e below s args y 3 8 (PreOf R mc ms Pc) (PostOf Qc mc ms free) (vx_Post XC mc ms free) := by
  obtain ⟨hrc, hrs, hfr, hlo, hws, hcw, -, hini, -⟩ := cb
  exact vx_back (bytes := bytes) (maxL := maxL) (ret := ret) hM hbl hrc hrs hfr hlo hws hcw (fun a' U hW => word_at hW (Or.inl (by first | rfl | simp [Cond.onTables, Cond.keeps, Cond.steady])) hini)
theorem vx_runV (S : CallFix p m c cc nL s args Ts own) (hM : vx_Met l y ws rm Pc Qc XC mc ms free) (cw : CallW R s args own C index y bytes maxL ret ws rm mc ms n) (hp : PreV s H C b Pc As)
    (hg : g.method = m) (hn : As.length = n) (hsize : g.locals.size = nL) (hstack : g.stack = As.reverse ++ .ref b :: rest) (hW : 2 * g.monitorRoom + (rest.map fun v => v.category).sum ≤ 8) (hdg : decode cc g.pc = .ok (.invokevirtual index, 3)) (hf : cells + mc ≤ R.cells ∧ slots + ms ≤ R.slots) :
    vx_Run p l e R s m args below meth c H locs cells slots mc ms g rest (Qc (Value.ref b :: As).toArray) XC free := by
  have hK : vx_Back l R p e below s args y 3 8 (PreOf R mc ms Pc) (PostOf Qc mc ms free) (vx_Post XC mc ms free) := vx_callBack cw.1 hM hp.1
  obtain ⟨⟨-, -, -, -, -, -, hcode, -, hy, hlen, hl⟩, hin, hse⟩ := cw
  obtain ⟨hx, hb, hml, ho, -⟩ := S
  obtain ⟨-, ⟨cellB, hcB, hoB, hclB⟩, hPc⟩ := hp
  intro T hT X
  rcases vx_callV X hx (C := C) (bytes := bytes) (maxL := maxL) (ret := ret) ho hl hin hse hcode hy hK (by rw [hT]; exact hcB) hoB hclB hg (hsize.trans hml.symm) (argsL := As) (rest := rest) (fun sig h => hn.trans (hlen sig h)) hstack hW (by rw [hb]; exact hdg)
    (fun vm₁ hW₁ => ⟨hf.1, hf.2, hPc (T.setVm vm₁) hT hW₁⟩) with ⟨v, vm₁, ⟨U', l2, c2, s2⟩, hW₁, X', ⟨g', mk, t, L, e1, e2, hq, h1, hL, h2, h3⟩, st⟩ | ⟨q, vm₁, ⟨U', l2, c2, s2⟩, hW₁, X', ⟨g', mk, t, L, E, ce, e1, e2, hq, hce, hcv, hcl, h1, hL, h2, h3⟩, st⟩
  · dsimp only [Pt.U, Pt.locs, Pt.cells, Pt.slots] at X' e1 e2 h1 h2 h3 st
    subst h1; subst h2; subst h3
    exact Or.inl ⟨v, (T.setVm vm₁).calling g' mk (Value.ref b :: As).toArray, t, U', L, hT, X', hL, e1, e2, hq, st⟩
  · dsimp only [Pt.U, Pt.locs, Pt.cells, Pt.slots] at X' e1 e2 h1 h2 h3 st hcl
    subst h1; subst h2; subst h3
    exact Or.inr ⟨q, (T.setVm vm₁).calling g' mk (Value.ref b :: As).toArray, t, U', L, E, ce, hT, X', hL, e1, e2, hq, hce, hcv, vx_cls hW₁ hcl, st⟩
theorem vx_runS (S : CallFix p m c cc nL s args Ts own) (hM : vx_Met l y ws rm Pc Qc XC mc ms free) (cw : CallB R s args own index y bytes maxL ret ws rm mc ms n ∧ (Cond.static y).before args s = true) (hp : PreS s H Pc As)
    (hg : g.method = m) (hn : As.length = n) (hsize : g.locals.size = nL) (hstack : g.stack = As.reverse ++ rest) (hW : 2 * g.monitorRoom + (rest.map fun v => v.category).sum ≤ 8) (hdg : decode cc g.pc = .ok (.invokestatic index, 3)) (hf : cells + mc ≤ R.cells ∧ slots + ms ≤ R.slots) :
    vx_Run p l e R s m args below meth c H locs cells slots mc ms g rest (Qc As.toArray) XC free := by
  have hK : vx_Back l R p e below s args y 3 8 (PreOf R mc ms Pc) (PostOf Qc mc ms free) (vx_Post XC mc ms free) := vx_callBack cw.1 hM hp.1
  obtain ⟨⟨-, -, -, -, -, -, hcode, hini, hy, hlen, hl⟩, hstt⟩ := cw
  obtain ⟨hx, hb, hml, ho, -⟩ := S
  intro T hT X
  rcases vx_callS X hx (bytes := bytes) (maxL := maxL) (ret := ret) ho hl hstt hini hcode hy hK hg (hsize.trans hml.symm) (argsL := As) (rest := rest) (fun sig h => hn.trans (hlen sig h)) hstack hW (by rw [hb]; exact hdg)
    (fun vm₁ hW₁ => ⟨hf.1, hf.2, hp.2 (T.setVm vm₁) hT hW₁⟩) with ⟨v, vm₁, ⟨U', l2, c2, s2⟩, hW₁, X', ⟨g', mk, t, L, e1, e2, hq, h1, hL, h2, h3⟩, st⟩ | ⟨q, vm₁, ⟨U', l2, c2, s2⟩, hW₁, X', ⟨g', mk, t, L, E, ce, e1, e2, hq, hce, hcv, hcl, h1, hL, h2, h3⟩, st⟩
  · dsimp only [Pt.U, Pt.locs, Pt.cells, Pt.slots] at X' e1 e2 h1 h2 h3 st
    subst h1; subst h2; subst h3
    exact Or.inl ⟨v, (T.setVm vm₁).calling g' mk As.toArray, t, U', L, hT, X', hL, e1, e2, hq, st⟩
  · dsimp only [Pt.U, Pt.locs, Pt.cells, Pt.slots] at X' e1 e2 h1 h2 h3 st hcl
    subst h1; subst h2; subst h3
    exact Or.inr ⟨q, (T.setVm vm₁).calling g' mk As.toArray, t, U', L, E, ce, hT, X', hL, e1, e2, hq, hce, hcv, vx_cls hW₁ hcl, st⟩
end Runs
section Rows
variable {p : Program} {l : Launch} {e : Env} {R : Room} {s : State} {m : MethodId} {args : Array Value} {below : List Frame} {meth : Method} {c : Code} {H : Heap} {locs : List Loc} {cells slots : Nat} {Q : State → Prop}
variable {mc ms : Nat} {free : Addr → Prop} {A0 A1 : Nat → Prop} {H0 : Heap} {a : Array Value} {pc : Nat} {ls : Array Slot} {st0 rest : List Value}
theorem vx_keep {st₀ t T' : State} {L : List Loc} (h0 : st₀.heap = H) (e1 : T'.heap = t.heap) (hS : va_S A0 H0 H locs) (hA : ∀ q, q < H.size → A1 q → A0 q) (hf : ∀ q, free q → A0 q) (hL : ∀ q ∈ L, free q.base) (hF : va_F A1 st₀ t) :
    H.size ≤ T'.heap.size ∧ (∀ q : Nat, q < H.size → ¬ A1 q → T'.heap[q]? = H[q]?) ∧ va_S A0 H0 T'.heap (locs ++ L) := by
  obtain ⟨hz, hk⟩ := hF
  rw [h0] at hz hk
  exact ⟨by rw [e1]; exact hz, fun q h1 h2 => by rw [e1]; exact hk q h1 h2,
    ⟨Nat.le_trans hS.1 (by rw [e1]; exact hz), fun q h1 h2 => by rw [e1, hk q (Nat.lt_of_lt_of_le h1 hS.1) (fun z => h2 (hA q (Nat.lt_of_lt_of_le h1 hS.1) z))]; exact hS.2.1 q h1 h2, fun q hq => by
      rcases List.mem_append.mp hq with h | h
      · exact hS.2.2 q h
      · exact hf _ (hL q h)⟩⟩
theorem vx_calli {S SX : Type} {post : Int32 → S → Prop} {px : SX → Prop} {B : S → State → Prop} {BX : String → SX → State → Prop} {AX : Nat → Prop} (hr : vx_Run p l e R s m args below meth c H locs cells slots mc ms (F0 m pc ls st0) rest (va_Qi post B A1 a) (vx_X px BX AX) free) (hS : va_S A0 H0 H locs) (hA : ∀ q, q < H.size → A1 q → A0 q) (hf : ∀ q, free q → A0 q) (hAX : ∀ q, q < H.size → AX q → A0 q)
    (kx : ∀ (E : String) (ce : Cell) (q9 : Addr) (u : SX) (t : State) (H1 : Heap) (locs1 : List Loc), t.heap = H1 → s.vm.Alike t.vm → px u → BX E u t → H.size ≤ H1.size → (∀ q : Nat, q < H.size → ¬ AX q → H1[q]? = H[q]?) → va_S A0 H0 H1 locs1 → H1[q9]? = some ce → ce.vm = .none → s.vm.findClass E = some ce.cls → vx_W p l e R s m args below meth c H1 locs1 (cells + mc) (slots + ms) Q (F0 m pc ls rest) q9)
    (kk : ∀ (r : Int32) (u : S) (t : State) (H1 : Heap) (locs1 : List Loc), t.heap = H1 → s.vm.Alike t.vm → post r u → B u t → H.size ≤ H1.size → (∀ q : Nat, q < H.size → ¬ A1 q → H1[q]? = H[q]?) → va_S A0 H0 H1 locs1 → W p l e R s m args below meth c H1 locs1 (cells + mc) (slots + ms) Q (F0 m (pc + 3) ls (.int r :: rest))) : W p l e R s m args below meth c H locs cells slots Q (F0 m pc ls st0) := by
  intro T hT X
  rcases hr T hT X with ⟨v, st₀, t, T', L, h0, X', hL, e1, e2, ⟨⟨r, u, hv, hp, hb⟩, hF⟩, st⟩ | ⟨q, st₀, t, T', L, E, ce, h0, X', hL, e1, e2, ⟨u, hp, hb, hF⟩, hce, hcv, hcl, st⟩
  · cases hv
    obtain ⟨k1, k2, k3⟩ := vx_keep h0 e1 hS hA hf hL hF
    obtain ⟨t2, a1, b1⟩ := kk r u t T'.heap (locs ++ L) e1.symm (by rw [← e2]; exact X'.warmed.alike) hp hb k1 k2 k3 T' rfl X'
    exact ⟨t2, st t2 a1, b1⟩
  · obtain ⟨k1, k2, k3⟩ := vx_keep h0 e1 hS hAX hf hL hF
    obtain ⟨t2, a1, b1⟩ := kx E ce q u t T'.heap (locs ++ L) e1.symm (by rw [← e2]; exact X'.warmed.alike) hp hb k1 k2 k3 (by rw [e1]; exact hce) hcv hcl T' rfl X'
    exact ⟨t2, st.trans a1, b1⟩
theorem vx_calll {S SX : Type} {post : Int64 → S → Prop} {px : SX → Prop} {B : S → State → Prop} {BX : String → SX → State → Prop} {AX : Nat → Prop} (hr : vx_Run p l e R s m args below meth c H locs cells slots mc ms (F0 m pc ls st0) rest (va_Ql post B A1 a) (vx_X px BX AX) free) (hS : va_S A0 H0 H locs) (hA : ∀ q, q < H.size → A1 q → A0 q) (hf : ∀ q, free q → A0 q) (hAX : ∀ q, q < H.size → AX q → A0 q)
    (kx : ∀ (E : String) (ce : Cell) (q9 : Addr) (u : SX) (t : State) (H1 : Heap) (locs1 : List Loc), t.heap = H1 → s.vm.Alike t.vm → px u → BX E u t → H.size ≤ H1.size → (∀ q : Nat, q < H.size → ¬ AX q → H1[q]? = H[q]?) → va_S A0 H0 H1 locs1 → H1[q9]? = some ce → ce.vm = .none → s.vm.findClass E = some ce.cls → vx_W p l e R s m args below meth c H1 locs1 (cells + mc) (slots + ms) Q (F0 m pc ls rest) q9)
    (kk : ∀ (r : Int64) (u : S) (t : State) (H1 : Heap) (locs1 : List Loc), t.heap = H1 → s.vm.Alike t.vm → post r u → B u t → H.size ≤ H1.size → (∀ q : Nat, q < H.size → ¬ A1 q → H1[q]? = H[q]?) → va_S A0 H0 H1 locs1 → W p l e R s m args below meth c H1 locs1 (cells + mc) (slots + ms) Q (F0 m (pc + 3) ls (.long r :: rest))) : W p l e R s m args below meth c H locs cells slots Q (F0 m pc ls st0) := by
  intro T hT X
  rcases hr T hT X with ⟨v, st₀, t, T', L, h0, X', hL, e1, e2, ⟨⟨r, u, hv, hp, hb⟩, hF⟩, st⟩ | ⟨q, st₀, t, T', L, E, ce, h0, X', hL, e1, e2, ⟨u, hp, hb, hF⟩, hce, hcv, hcl, st⟩
  · cases hv
    obtain ⟨k1, k2, k3⟩ := vx_keep h0 e1 hS hA hf hL hF
    obtain ⟨t2, a1, b1⟩ := kk r u t T'.heap (locs ++ L) e1.symm (by rw [← e2]; exact X'.warmed.alike) hp hb k1 k2 k3 T' rfl X'
    exact ⟨t2, st t2 a1, b1⟩
  · obtain ⟨k1, k2, k3⟩ := vx_keep h0 e1 hS hAX hf hL hF
    obtain ⟨t2, a1, b1⟩ := kx E ce q u t T'.heap (locs ++ L) e1.symm (by rw [← e2]; exact X'.warmed.alike) hp hb k1 k2 k3 (by rw [e1]; exact hce) hcv hcl T' rfl X'
    exact ⟨t2, st.trans a1, b1⟩
theorem vx_callf {S SX : Type} {post : UInt32 → S → Prop} {px : SX → Prop} {B : S → State → Prop} {BX : String → SX → State → Prop} {AX : Nat → Prop} (hr : vx_Run p l e R s m args below meth c H locs cells slots mc ms (F0 m pc ls st0) rest (va_Qf post B A1 a) (vx_X px BX AX) free) (hS : va_S A0 H0 H locs) (hA : ∀ q, q < H.size → A1 q → A0 q) (hf : ∀ q, free q → A0 q) (hAX : ∀ q, q < H.size → AX q → A0 q)
    (kx : ∀ (E : String) (ce : Cell) (q9 : Addr) (u : SX) (t : State) (H1 : Heap) (locs1 : List Loc), t.heap = H1 → s.vm.Alike t.vm → px u → BX E u t → H.size ≤ H1.size → (∀ q : Nat, q < H.size → ¬ AX q → H1[q]? = H[q]?) → va_S A0 H0 H1 locs1 → H1[q9]? = some ce → ce.vm = .none → s.vm.findClass E = some ce.cls → vx_W p l e R s m args below meth c H1 locs1 (cells + mc) (slots + ms) Q (F0 m pc ls rest) q9)
    (kk : ∀ (r : UInt32) (u : S) (t : State) (H1 : Heap) (locs1 : List Loc), t.heap = H1 → s.vm.Alike t.vm → post r u → B u t → H.size ≤ H1.size → (∀ q : Nat, q < H.size → ¬ A1 q → H1[q]? = H[q]?) → va_S A0 H0 H1 locs1 → W p l e R s m args below meth c H1 locs1 (cells + mc) (slots + ms) Q (F0 m (pc + 3) ls (.float r :: rest))) : W p l e R s m args below meth c H locs cells slots Q (F0 m pc ls st0) := by
  intro T hT X
  rcases hr T hT X with ⟨v, st₀, t, T', L, h0, X', hL, e1, e2, ⟨⟨r, u, hv, hp, hb⟩, hF⟩, st⟩ | ⟨q, st₀, t, T', L, E, ce, h0, X', hL, e1, e2, ⟨u, hp, hb, hF⟩, hce, hcv, hcl, st⟩
  · cases hv
    obtain ⟨k1, k2, k3⟩ := vx_keep h0 e1 hS hA hf hL hF
    obtain ⟨t2, a1, b1⟩ := kk r u t T'.heap (locs ++ L) e1.symm (by rw [← e2]; exact X'.warmed.alike) hp hb k1 k2 k3 T' rfl X'
    exact ⟨t2, st t2 a1, b1⟩
  · obtain ⟨k1, k2, k3⟩ := vx_keep h0 e1 hS hAX hf hL hF
    obtain ⟨t2, a1, b1⟩ := kx E ce q u t T'.heap (locs ++ L) e1.symm (by rw [← e2]; exact X'.warmed.alike) hp hb k1 k2 k3 (by rw [e1]; exact hce) hcv hcl T' rfl X'
    exact ⟨t2, st.trans a1, b1⟩
theorem vx_calld {S SX : Type} {post : UInt64 → S → Prop} {px : SX → Prop} {B : S → State → Prop} {BX : String → SX → State → Prop} {AX : Nat → Prop} (hr : vx_Run p l e R s m args below meth c H locs cells slots mc ms (F0 m pc ls st0) rest (va_Qd post B A1 a) (vx_X px BX AX) free) (hS : va_S A0 H0 H locs) (hA : ∀ q, q < H.size → A1 q → A0 q) (hf : ∀ q, free q → A0 q) (hAX : ∀ q, q < H.size → AX q → A0 q)
    (kx : ∀ (E : String) (ce : Cell) (q9 : Addr) (u : SX) (t : State) (H1 : Heap) (locs1 : List Loc), t.heap = H1 → s.vm.Alike t.vm → px u → BX E u t → H.size ≤ H1.size → (∀ q : Nat, q < H.size → ¬ AX q → H1[q]? = H[q]?) → va_S A0 H0 H1 locs1 → H1[q9]? = some ce → ce.vm = .none → s.vm.findClass E = some ce.cls → vx_W p l e R s m args below meth c H1 locs1 (cells + mc) (slots + ms) Q (F0 m pc ls rest) q9)
    (kk : ∀ (r : UInt64) (u : S) (t : State) (H1 : Heap) (locs1 : List Loc), t.heap = H1 → s.vm.Alike t.vm → post r u → B u t → H.size ≤ H1.size → (∀ q : Nat, q < H.size → ¬ A1 q → H1[q]? = H[q]?) → va_S A0 H0 H1 locs1 → W p l e R s m args below meth c H1 locs1 (cells + mc) (slots + ms) Q (F0 m (pc + 3) ls (.double r :: rest))) : W p l e R s m args below meth c H locs cells slots Q (F0 m pc ls st0) := by
  intro T hT X
  rcases hr T hT X with ⟨v, st₀, t, T', L, h0, X', hL, e1, e2, ⟨⟨r, u, hv, hp, hb⟩, hF⟩, st⟩ | ⟨q, st₀, t, T', L, E, ce, h0, X', hL, e1, e2, ⟨u, hp, hb, hF⟩, hce, hcv, hcl, st⟩
  · cases hv
    obtain ⟨k1, k2, k3⟩ := vx_keep h0 e1 hS hA hf hL hF
    obtain ⟨t2, a1, b1⟩ := kk r u t T'.heap (locs ++ L) e1.symm (by rw [← e2]; exact X'.warmed.alike) hp hb k1 k2 k3 T' rfl X'
    exact ⟨t2, st t2 a1, b1⟩
  · obtain ⟨k1, k2, k3⟩ := vx_keep h0 e1 hS hAX hf hL hF
    obtain ⟨t2, a1, b1⟩ := kx E ce q u t T'.heap (locs ++ L) e1.symm (by rw [← e2]; exact X'.warmed.alike) hp hb k1 k2 k3 (by rw [e1]; exact hce) hcv hcl T' rfl X'
    exact ⟨t2, st.trans a1, b1⟩
theorem vx_callv {S SX : Type} {post : S → Prop} {px : SX → Prop} {B : S → State → Prop} {BX : String → SX → State → Prop} {AX : Nat → Prop} (hr : vx_Run p l e R s m args below meth c H locs cells slots mc ms (F0 m pc ls st0) rest (va_Qv post B A1 a) (vx_X px BX AX) free) (hS : va_S A0 H0 H locs) (hA : ∀ q, q < H.size → A1 q → A0 q) (hf : ∀ q, free q → A0 q) (hAX : ∀ q, q < H.size → AX q → A0 q)
    (kx : ∀ (E : String) (ce : Cell) (q9 : Addr) (u : SX) (t : State) (H1 : Heap) (locs1 : List Loc), t.heap = H1 → s.vm.Alike t.vm → px u → BX E u t → H.size ≤ H1.size → (∀ q : Nat, q < H.size → ¬ AX q → H1[q]? = H[q]?) → va_S A0 H0 H1 locs1 → H1[q9]? = some ce → ce.vm = .none → s.vm.findClass E = some ce.cls → vx_W p l e R s m args below meth c H1 locs1 (cells + mc) (slots + ms) Q (F0 m pc ls rest) q9)
    (kk : ∀ (u : S) (t : State) (H1 : Heap) (locs1 : List Loc), t.heap = H1 → s.vm.Alike t.vm → post u → B u t → H.size ≤ H1.size → (∀ q : Nat, q < H.size → ¬ A1 q → H1[q]? = H[q]?) → va_S A0 H0 H1 locs1 → W p l e R s m args below meth c H1 locs1 (cells + mc) (slots + ms) Q (F0 m (pc + 3) ls (rest))) : W p l e R s m args below meth c H locs cells slots Q (F0 m pc ls st0) := by
  intro T hT X
  rcases hr T hT X with ⟨v, st₀, t, T', L, h0, X', hL, e1, e2, ⟨⟨u, hv, hp, hb⟩, hF⟩, st⟩ | ⟨q, st₀, t, T', L, E, ce, h0, X', hL, e1, e2, ⟨u, hp, hb, hF⟩, hce, hcv, hcl, st⟩
  · cases hv
    obtain ⟨k1, k2, k3⟩ := vx_keep h0 e1 hS hA hf hL hF
    obtain ⟨t2, a1, b1⟩ := kk u t T'.heap (locs ++ L) e1.symm (by rw [← e2]; exact X'.warmed.alike) hp hb k1 k2 k3 T' rfl X'
    exact ⟨t2, st t2 a1, b1⟩
  · obtain ⟨k1, k2, k3⟩ := vx_keep h0 e1 hS hAX hf hL hF
    obtain ⟨t2, a1, b1⟩ := kx E ce q u t T'.heap (locs ++ L) e1.symm (by rw [← e2]; exact X'.warmed.alike) hp hb k1 k2 k3 (by rw [e1]; exact hce) hcv hcl T' rfl X'
    exact ⟨t2, st.trans a1, b1⟩
/-- caught by the row x of this method's table; the rows ahead don't take it -/
theorem vx_catch {own name : String} {E : String} {ce : Cell} {q : Addr} (hown : s.vm.findClass own = some m.cls) (pre : List ExceptionTableEntry) (x : ExceptionTableEntry) (suf : List ExceptionTableEntry) (hsplit : c.exceptionTable.toList = pre ++ x :: suf)
    (hpass : ∀ z ∈ pre, covers z pc = false ∨ (z.catchType ≠ 0 ∧ ∃ nm : String, (Cond.classLink own z.catchType nm).before args s = true ∧ va_Nc E nm s)) (hx : covers x pc = true) (h0 : x.catchType ≠ 0)
    (hlink : (Cond.classLink own x.catchType name).before args s = true) (hcast : (Cond.castable E name).before args s = true) (hcell : H[q]? = some ce) (hv : ce.vm = .none) (hcl : s.vm.findClass E = some ce.cls)
    (kk : W p l e R s m args below meth c H locs cells slots Q (F0 m x.handlerPc ls [.ref q])) : vx_W p l e R s m args below meth c H locs cells slots Q (F0 m pc ls rest) q := by
  intro T hT X
  have hpl : e.platform.magicAccessors = ({} : Platform).magicAccessors := by rw [X.admits.platform]
  obtain ⟨c3, c4, hc3, hc4, hasg⟩ := Cond.castable_spec hcast
  cases Option.some.inj (hc3.symm.trans hcl)
  obtain ⟨c5, hc5, hcl5⟩ := Cond.classLink_spec hown hlink e.platform hpl
  cases Option.some.inj (hc4.symm.trans hc5)
  obtain ⟨vm', X', st⟩ := X.thenCaughtThrough q (g := F0 m pc ls rest) rfl (Steps.refl _) (by rw [hT]; exact hcell) (by rw [hv]; rfl) (by obtain ⟨k9, h9, -⟩ := Vm.findClass_spec hcl; exact ⟨k9, h9⟩) pre x suf hsplit
    (fun z hz => by
      rcases hpass z hz with h | ⟨hz0, nm, hl1, hn1⟩
      · exact Or.inl h
      · obtain ⟨c6, hc6, hcl6⟩ := Cond.classLink_spec hown hl1 e.platform hpl
        obtain ⟨a8, b8, h1, h2, h3⟩ := hn1
        cases Option.some.inj (h1.symm.trans hcl)
        cases Option.some.inj (h2.symm.trans hc6)
        exact Or.inr ⟨hz0, _, hcl6, h3⟩) hx (Or.inr ⟨h0, c4, hcl5, hasg⟩)
  obtain ⟨t, a1, b1⟩ := kk (T.setVm vm') hT X'
  exact ⟨t, st.trans a1, b1⟩
end Rows
section Ends
variable {p : Program} {l : Launch} {e : Env} {R : Room} {s : State} {m : MethodId} {args : Array Value} {below : List Frame} {meth : Method} {c : Code} {H : Heap} {locs : List Loc} {cells slots : Nat} {Q : State → Prop}
variable {mc ms : Nat} {free : Addr → Prop} {A0 A1 : Nat → Prop} {H0 : Heap} {a : Array Value} {ls : Array Slot} {st0 rest : List Value}
variable {Qc : Array Value → State → Outcome → State → Prop} {XC : String → State → State → Prop}
/-- what a body that may throw owes at its end -/
def vx_MQ (below : List Frame) (Qc : Array Value → State → Outcome → State → Prop) (XC : String → State → State → Prop) (a : Array Value) (s : State) (mc ms : Nat) (free : Addr → Prop) : State → Prop := fun t =>
  ∃ o, t.status = .running ∧ Ended t below o ∧ vx_Q Qc XC mc ms free a s o t
theorem vx_ret {g : JFrame} {mc ms : Nat} (k : W p l e R s m args below meth c H locs cells slots (MQ below Qc args s mc ms free) g) : W p l e R s m args below meth c H locs cells slots (vx_MQ below Qc XC args s mc ms free) g := by
  intro T hT X
  obtain ⟨t, a1, o, b1, b2, b3, b4⟩ := k T hT X
  exact ⟨t, a1, o, b1, b2, Or.inl ⟨b3, b4⟩⟩
/-- not caught here: it goes on to the caller -/
theorem vx_widen {g : JFrame} {q : Addr} {k n : Nat} (h1 : cells ≤ k) (h2 : slots ≤ n) (kk : vx_W p l e R s m args below meth c H locs k n Q g q) : vx_W p l e R s m args below meth c H locs cells slots Q g q := fun T hT X => kk T hT (stand_widen X h1 h2)
theorem vx_out {pc : Nat} {E : String} {ce : Cell} {q : Addr} {mc ms : Nat} (hout : ∀ x ∈ c.exceptionTable.toList, covers x pc = false) (hlocks : meth.locks = false) (hcell : H[q]? = some ce) (hv : ce.vm = .none) (hcl : s.vm.findClass E = some ce.cls)
    (hx : ∀ t : State, t.heap = H → s.vm.Alike t.vm → XC E s t) (hf : ∀ z ∈ locs, free z.base) (hc : cells ≤ mc) (hs : slots ≤ ms) :
    vx_W p l e R s m args below meth c H locs cells slots (vx_MQ below Qc XC args s mc ms free) (F0 m pc ls rest) q := by
  intro T hT X
  obtain ⟨st1, hrun, hend, hW, hsm⟩ := X.leaveThrown q (g := F0 m pc ls rest) rfl rfl rfl hout hlocks
  have hcell9 : (T.setFrames (.throwing q :: below)).heap[q]? = some ce := by
    show T.heap[q]? = some ce
    rw [hT]; exact hcell
  exact ⟨_, st1, .threw q, hrun, hend, Or.inr ⟨q, rfl, E, ce, locs, hx _ hT hW.alike, hcell9, hv, hcl, hW, hsm.mono hc hs, hf⟩⟩
theorem vx_frame {U : State} {k n : Nat} (h : s.sameButNew ({ U with vm := s.vm } : State) locs k n) : s.heap.size ≤ U.heap.size ∧ ∀ q : Nat, q < s.heap.size → (∀ z ∈ locs, z.base ≠ q) → U.heap[q]? = s.heap[q]? := by
  obtain ⟨-, h2, -, -, -, h6⟩ := h
  refine ⟨h2, fun q hq hz => ?_⟩
  obtain ⟨c9, e1, e2, e3, e4⟩ := h6 q _ (Array.getElem?_eq_getElem hq)
  have hs : c9.slots = (s.heap[q]).slots := Array.ext_getElem? fun i => e4 i fun hm => hz _ hm rfl
  have h9 : c9 = s.heap[q] := by
    rw [hs] at e2
    exact e2
  have e5 : U.heap[q]? = some c9 := e1
  rw [e5, h9, Array.getElem?_eq_getElem hq]
/-- the words of a throw but the four that speak of the heap -/
def vx_no (w : Cond) : Bool := decide (w ≠ .isRef (.static Bundle.tN "UNASSIGNED_STACK" Bundle.steD)) && decide (w ≠ .isRef (.static Bundle.tN "SUPPRESSED_SENTINEL" Bundle.listD)) && decide (w ≠ .laysStatic Bundle.tN "UNASSIGNED_STACK" Bundle.steD) && decide (w ≠ .laysStatic Bundle.tN "SUPPRESSED_SENTINEL" Bundle.listD)
def vx_at0 (own : String) (ic : Nat) (X : String) (names : List String) : List Cond := (Bundle.ownAtoms0 own ic X names).filter vx_no
def vx_atS (own : String) (ic : Nat) (X : String) (names : List String) : List Cond := (Bundle.ownAtoms own ic X names).filter vx_no
/-- a word that the tables alone decide, or a good one -/
def vx_ot (w : Cond) : Bool := w.onTables || goodWord w
theorem vx_ot_at {args a' : Array Value} {s U : State} {w : Cond} (hW : s.WarmedH U.vm) (hvm : s.vm = U.vm) (hg : vx_ot w = true) (h : w.before args s = true) : w.before a' U = true := by
  simp only [vx_ot, Bool.or_eq_true] at hg
  rcases hg with hg | hg
  · exact va_tabs hg hvm h
  · exact word_at hW (good_of_word hg) h
/-- a list's words: the good ones out of the method's own list, the others by premises of their own -/
theorem vx_hat {args : Array Value} {s : State} {L B : List Cond} (h1 : ∀ w ∈ L.filter goodWord, w.before args s = true) (h2 : ∀ w ∈ L.filter (fun w => !goodWord w), w ∈ B) (h3 : ∀ w ∈ B, w.before args s = true) : ∀ w ∈ L, w.before args s = true := by
  intro w hw
  by_cases g : goodWord w = true
  · exact h1 w (List.mem_filter.mpr ⟨hw, g⟩)
  · refine h3 w (h2 w (List.mem_filter.mpr ⟨hw, ?_⟩))
    show (!goodWord w) = true
    cases hgw : goodWord w
    · rfl
    · exact absurd hgw g
theorem vx_c {args : Array Value} {s : State} {w : Cond} {B : List Cond} (h : w.before args s = true) (t : ∀ w ∈ B, w.before args s = true) : ∀ w' ∈ w :: B, w'.before args s = true := fun w' h' => (List.mem_cons.mp h').elim (fun e => by rw [e]; exact h) (t w')
theorem vx_n {args : Array Value} {s : State} : ∀ w ∈ ([] : List Cond), w.before args s = true := fun _ h => nomatch h
theorem vx_own {args : Array Value} {s : State} {L : List Cond} (h1 : ∀ w ∈ L.filter vx_no, w.before args s = true)
    (hU : (Cond.isRef (.static Bundle.tN "UNASSIGNED_STACK" Bundle.steD)).before args s = true) (hN : (Cond.isRef (.static Bundle.tN "SUPPRESSED_SENTINEL" Bundle.listD)).before args s = true)
    (lU : (Cond.laysStatic Bundle.tN "UNASSIGNED_STACK" Bundle.steD).before args s = true) (lN : (Cond.laysStatic Bundle.tN "SUPPRESSED_SENTINEL" Bundle.listD).before args s = true) : ∀ w ∈ L, w.before args s = true := by
  intro w hw
  by_cases e1 : w = .isRef (.static Bundle.tN "UNASSIGNED_STACK" Bundle.steD)
  · rw [e1]; exact hU
  · by_cases e2 : w = .isRef (.static Bundle.tN "SUPPRESSED_SENTINEL" Bundle.listD)
    · rw [e2]; exact hN
    · by_cases e3 : w = .laysStatic Bundle.tN "UNASSIGNED_STACK" Bundle.steD
      · rw [e3]; exact lU
      · by_cases e4 : w = .laysStatic Bundle.tN "SUPPRESSED_SENTINEL" Bundle.listD
        · rw [e4]; exact lN
        · exact h1 w (List.mem_filter.mpr ⟨hw, by unfold vx_no; rw [decide_eq_true e1, decide_eq_true e2, decide_eq_true e3, decide_eq_true e4]; rfl⟩)
/-- where a static field lies, its class's statics cell in H -/
def vx_L (C n d : String) (A : Nat → Prop) (U : State) (H : Heap) : Prop := ∃ (c : ClassId) (k : Class) (i : Nat) (f : Field) (a : Nat) (cell : Cell), U.vm.findClass C = some c ∧ U.fieldFound? C n d = some (c, k, i, f) ∧ f.isStatic = true ∧ k.statics = some a ∧ H[a]? = some cell ∧ cell.vm.isStatics = true ∧ cell.cls = c ∧ f.slot < cell.slots.size ∧ k.staticTypes[f.slot]? = some f.type ∧ ¬ A a
theorem vx_L.moved {C n d : String} {A : Nat → Prop} {u U : State} {H : Heap} (hvm : u.vm.Alike U.vm) (h : vx_L C n d A u H) : vx_L C n d A U H := by
  obtain ⟨c, k, i, f, a, cell, h1, h2, h3, h4, h5, h6, h7, h8, h9, h10⟩ := h
  obtain ⟨k', hi', he⟩ := State.fieldFound?_setVm hvm h2
  exact ⟨c, k', i, f, a, cell, by rw [hvm.findClass]; exact h1, hi', h3, by rw [he]; exact h4, h5, h6, h7, h8, by rw [he]; exact h9, h10⟩
theorem vx_L.kept {C n d : String} {A : Nat → Prop} {U : State} {H H1 : Heap} (h : vx_L C n d A U H) (hq : ∀ a : Nat, a < H.size → ¬ A a → H1[a]? = H[a]?) : vx_L C n d A U H1 := by
  obtain ⟨c, k, i, f, a, cell, h1, h2, h3, h4, h5, h6, h7, h8, h9, h10⟩ := h
  exact ⟨c, k, i, f, a, cell, h1, h2, h3, h4, by rw [hq a (Array.getElem?_eq_some_iff.mp h5).1 h10]; exact h5, h6, h7, h8, h9, h10⟩
theorem vx_L.narrow {C n d : String} {A B : Nat → Prop} {U : State} {H : Heap} (h : vx_L C n d A U H) (hAB : ∀ q, B q → A q) : vx_L C n d B U H := by
  obtain ⟨c, k, i, f, a, cell, h1, h2, h3, h4, h5, h6, h7, h8, h9, h10⟩ := h
  exact ⟨c, k, i, f, a, cell, h1, h2, h3, h4, h5, h6, h7, h8, h9, fun z => h10 (hAB _ z)⟩
theorem vx_L.word {C n d : String} {A : Nat → Prop} {s : State} {args : Array Value} (h : vx_L C n d A s s.heap) : (Cond.laysStatic C n d).before args s = true := by
  obtain ⟨c, k, i, f, a, cell, h1, h2, h3, h4, h5, h6, h7, h8, h9, -⟩ := h
  show (Cond.laysStatic C n d).holds args s none s [] = true
  exact Cond.laysStatic_of h1 h2 h3 h4 h5 h6 h7 h8 h9
/-- .. and what it holds: null or some reference -/
def vx_Zq (C n d : String) (A : Nat → Prop) (U : State) (H : Heap) : Prop := va_Zq C n d A U H ∧ vx_L C n d A U H
theorem vx_Zq.moved {C n d : String} {A : Nat → Prop} {u U : State} {H : Heap} (hvm : u.vm.Alike U.vm) (h : vx_Zq C n d A u H) : vx_Zq C n d A U H := ⟨va_Zq.moved hvm h.1, vx_L.moved hvm h.2⟩
theorem vx_Zq.kept {C n d : String} {A : Nat → Prop} {U : State} {H H1 : Heap} (h : vx_Zq C n d A U H) (hq : ∀ a : Nat, a < H.size → ¬ A a → H1[a]? = H[a]?) : vx_Zq C n d A U H1 := ⟨va_Zq.kept h.1 hq, vx_L.kept h.2 hq⟩
theorem vx_Zq.narrow {C n d : String} {A B : Nat → Prop} {U : State} {H : Heap} (h : vx_Zq C n d A U H) (hAB : ∀ q, B q → A q) : vx_Zq C n d B U H := ⟨va_Zq.narrow h.1 hAB, vx_L.narrow h.2 hAB⟩
theorem vx_Zqof {args : Array Value} {s : State} {C n d : String} {A : Nat → Prop} (hl : (Cond.laysStatic C n d).before args s = true) (hini : (Cond.initialized C).before args s = true) (h : (Cond.isRef (.static C n d)).before args s = true) (hA : ∀ a : Nat, a < s.heap.size → ¬ A a) : vx_Zq C n d A s s.heap := by
  refine ⟨va_Zqof hl hini h hA, ?_⟩
  obtain ⟨c, k, i, f, a, cell, h1, h2, h3, h4, h5, h6, h7, h8, h9⟩ := Cond.laysStatic_spec hl
  exact ⟨c, k, i, f, a, cell, h1, h2, h3, h4, h5, h6, h7, h8, h9, hA a (Array.getElem?_eq_some_iff.mp h5).1⟩
theorem vx_isRef {C n d : String} {v : Value} {A : Nat → Prop} {s : State} {args : Array Value} (h : va_Z C n d v A s s.heap) (hv : v.isRef = true) : (Cond.isRef (.static C n d)).before args s = true := by
  obtain ⟨cf, kf, fi, f, a, cell, h1, h2, h3, h4, h5, h6, h7, -⟩ := h
  have he : (Term.static C n d).eval args s none [] s = some v := by
    simp [Term.eval, State.fieldNamed?, h1, h2, h4, h5, h6, h7]
  simp only [Cond.before, Cond.holds, Cond.value, he]
  cases v <;> simp_all [Value.isRef]
theorem vx_isRefq {C n d : String} {A : Nat → Prop} {s : State} {args : Array Value} (h : va_Zq C n d A s s.heap) : (Cond.isRef (.static C n d)).before args s = true := by
  rcases h with h | ⟨t, h⟩
  · exact vx_isRef h rfl
  · exact vx_isRef h rfl
/-- the same frame, seen from here: as if the method were called anew in this heap -/
theorem vx_rebase {T : State} (X : Stand p l e R s m args below meth c T locs cells slots) {R' : Room} (hf : R'.frames ≤ R.frames) (hl : R'.locals ≤ R.locals) (hc : cells + R'.cells ≤ R.cells) (hs : slots + R'.slots ≤ R.slots) :
    Stand p l e R' ((T.setVm s.vm).setFrames (.invoking m args :: below)) m args below meth c T [] 0 0 := by
  have htop : (T.setVm s.vm).topJava?.isSome := X.here.top
  have hF : ((T.setVm s.vm).setFrames (.invoking m args :: below)).frames = .invoking m args :: below := State.frames_setFrames _ (State.cur_lt_of_top htop)
  obtain ⟨g₀, hg0⟩ := Option.isSome_iff_exists.mp htop
  obtain ⟨r, hr⟩ := State.topJava?_eq_some.mp hg0
  have hl9 : e.platform.stackLimits (T.setVm s.vm).me = e.platform.stackLimits s.me := X.limits
  have hb9 : (T.setVm s.vm).me.stackBytes = s.me.stackBytes := X.bytes
  refine ⟨X.admits, X.cas, X.clock, hF, ?_, X.hears, X.method, X.code, X.here, X.tail, X.warmed, ?_, ?_, ?_⟩
  · have h := X.room
    have hU : ((T.setVm s.vm).setFrames (.invoking m args :: below)).localsInUse = s.localsInUse := by
      rw [State.localsInUse_invoking hF (meth := meth) (c := c) X.method X.code, State.localsInUse_invoking X.frames X.method X.code]
    simp only [State.hasRoom, Bool.and_eq_true, decide_eq_true_eq] at h ⊢
    obtain ⟨⟨⟨⟨h1, h2, h3, h4, h5, h6⟩, h7⟩, h8⟩, h9⟩ := h
    rw [X.frames, List.length_cons] at h2 h3
    have q1 := X.heapSize
    have q2 := X.used
    simp only [hF, hU, List.length_cons, State.stackLimits_setFrames, State.stackBytes_setFrames, hl9, hb9]
    refine ⟨⟨⟨⟨by omega, by omega, by omega, by omega, by omega, h6⟩, ?_⟩, ?_⟩, X.book⟩
    · show T.heap.size + R'.cells ≤ e.platform.maxCells
      omega
    · show T.slotsUsed + R'.slots ≤ e.platform.maxSlots
      omega
  · rw [State.stackLimits_setFrames]; rfl
  · rw [State.stackBytes_setFrames]; rfl
  · refine ⟨?_, Nat.le_refl _, Nat.le_refl _, ?_, ?_, fun a c9 h9 => ⟨c9, h9, rfl, rfl, fun _ _ => rfl⟩⟩
    · obtain ⟨t, ht, -⟩ := State.frames_cons hr
      show T.setVm s.vm = { ((T.setVm s.vm).setFrames (.invoking m args :: below)).setFrames (T.setVm s.vm).frames with heap := T.heap, slotsUsed := T.slotsUsed }
      rw [State.setFrames_setFrames, State.setFrames_self ht]
      rfl
    · show T.slotsUsed = T.slotsUsed + ((T.heap.toList.drop T.heap.size).map (·.slots.size)).sum
      rw [List.drop_eq_nil_of_le (Nat.le_of_eq Array.length_toList)]
      rfl
    · show ((T.heap.toList.drop T.heap.size).map (·.slots.size)).sum ≤ 0
      rw [List.drop_eq_nil_of_le (Nat.le_of_eq Array.length_toList)]
      exact Nat.le_refl _
/-- 'throw new E()': new; dup; invokespecial; athrow -/
theorem vx_throw0 {cc : ByteArray} {pc : Nat} (hexec : p.tables.exec = Jvm.exec) (hb : c.code = cc) (hl : l.stackTraces = false) {own cls : String} {names : List String} {ik ic mc ms : Nat} {A : Nat → Prop}
    (hown : s.vm.findClass own = some m.cls) (hcls : Bundle.fit cls = true) (hnames : ∀ n ∈ names, Bundle.fit n = true)
    (hk : (Cond.classLink own ik cls).before args s = true) (hini : (Cond.initialized cls).before args s = true) (hat : ∀ w ∈ vx_at0 own ic cls names, w.before args s = true)
    (hgood : ∀ w ∈ Cond.classLink own ik cls :: Cond.initialized cls :: vx_at0 own ic cls names, vx_ot w = true)
    (hU : vx_Zq Bundle.tN "UNASSIGNED_STACK" Bundle.steD A s s.heap) (hN : vx_Zq Bundle.tN "SUPPRESSED_SENTINEL" Bundle.listD A s s.heap) (hS : va_S A s.heap H locs) (hsize : ls.size = c.maxLocals)
    (d0 : decode cc pc = .ok (.new ik, 3)) (d3 : decode cc (pc + 3) = .ok (.dup, 1)) (d4 : decode cc (pc + 4) = .ok (.invokespecial ic, 3)) (d7 : decode cc (pc + 7) = .ok (.athrow, 1))
    (hout : ∀ x ∈ c.exceptionTable.toList, covers x (pc + 7) = false)
    (hRframes : names.length + 3 < R.frames) (hRlocals : (rest.map fun v => v.category).sum + (13 * (names.length + 1) + 42) ≤ R.locals) (hRcells : cells + 1 ≤ R.cells) (hRslots : slots + 6 ≤ R.slots) (hlocks : meth.locks = false)
    (hx : ∀ t : State, s.vm.Alike t.vm → H.size ≤ t.heap.size → (∀ q : Nat, q < H.size → t.heap[q]? = H[q]?) → XC cls s t)
    (hf : ∀ z ∈ locs, free z.base) (hc : cells + 1 ≤ mc) (hs : slots + 6 ≤ ms) :
    W p l e R s m args below meth c H locs cells slots (vx_MQ below Qc XC args s mc ms free) (F0 m pc ls rest) := by
  intro T hT X
  have htr : e.platform.stackTraces = false := (show e.platform.stackTraces = l.stackTraces by rw [X.admits.platform]).trans hl
  have Y := vx_rebase X (R' := { frames := R.frames, locals := R.locals, cells := 1, slots := 6 }) (Nat.le_refl _) (Nat.le_refl _) hRcells hRslots
  obtain ⟨s', hA⟩ : ∃ z, z = (T.setVm s.vm).setFrames (.invoking m args :: below) := ⟨_, rfl⟩
  rw [← hA] at Y
  have hvm : s'.vm = s.vm := by rw [hA]; rfl
  have hhp : s'.heap = H := by rw [hA]; exact hT
  have hW0 : s.WarmedH s'.vm := by rw [hvm]; exact State.WarmedH.refl s
  have hat' : ∀ w ∈ vx_at0 own ic cls names, w.before args s' = true := fun w hw => vx_ot_at hW0 hvm.symm (hgood w (List.mem_cons_of_mem _ (List.mem_cons_of_mem _ hw))) (hat w hw)
  have hk' : (Cond.classLink own ik cls).before args s' = true := vx_ot_at hW0 hvm.symm (hgood _ List.mem_cons_self) hk
  have hini' : (Cond.initialized cls).before args s' = true := vx_ot_at hW0 hvm.symm (hgood _ (List.mem_cons_of_mem _ List.mem_cons_self)) hini
  have hU' : vx_Zq Bundle.tN "UNASSIGNED_STACK" Bundle.steD A s' s'.heap := by rw [hhp]; exact vx_Zq.moved hW0.alike (hU.kept hS.2.1)
  have hN' : vx_Zq Bundle.tN "SUPPRESSED_SENTINEL" Bundle.listD A s' s'.heap := by rw [hhp]; exact vx_Zq.moved hW0.alike (hN.kept hS.2.1)
  have h : ∀ w ∈ Bundle.ownAtoms0 own ic cls names, w.before args s' = true := vx_own hat' (vx_isRefq hU'.1) (vx_isRefq hN'.1) hU'.2.word hN'.2.word
  have hown' : s'.vm.findClass own = some m.cls := by rw [hvm]; exact hown
  have hins : (Cond.instantiable cls 6).before args s' = true := h _ (by simp [Bundle.ownAtoms0])
  obtain ⟨vm₁, cX, kX, hfX, hkX, -, -, X₁, st1⟩ := Y.newCold hexec (own := own) (C := cls) (index := ik) (n := 6) hown' hk' hins hini'
    (g := F0 m pc ls rest) rfl (by rw [hb]; exact d0) (Nat.le_refl _) (Nat.le_refl _)
  generalize hT1 : (T.setVm vm₁).pushCell { cls := cX, slots := kX.instanceTypes.map defaultValue, vm := .none } = T1 at X₁ st1
  have hcat : (Value.ref T.heap.size).category = 1 := rfl
  have hcellA : T1.heap[T.heap.size]? = some (freshCell cX kX) := by rw [← hT1]; exact State.heap_pushCell_size _ _
  have d3' : decode c.code (pc + 3) = .ok (.dup, 1) := by rw [hb]; exact d3
  obtain ⟨U, hsteps, hrun, hend, hW, hsame, ce, hce, hO⟩ := X₁.ctorThrow0 hexec htr (own := own) (cls := cls) (names := names) (ic := ic) hown' hcls hnames h (fun x hx => nomatch hx) hfX hkX hcellA (by rw [hhp, hT]; exact Nat.le_refl _)
    (g := { method := m, pc := pc + 4, locals := ls, stack := .ref T.heap.size :: .ref T.heap.size :: rest, locked := none }) rfl hsize rfl rfl (rest := rest) rfl
    (by rw [hb]; exact d4) (by rw [hb]; exact d7) hout hRframes (by simp only [List.map_cons, List.sum_cons, hcat]; omega) hlocks
  obtain ⟨f1, f2⟩ := vx_frame hsame
  rw [hhp] at f1 f2
  have hWs : s.WarmedH U.vm := State.WarmedH.trans hW0 hW
  have hcl : s.vm.findClass cls = some ce.cls := by
    have h9 := hO.cls
    rw [hvm] at h9
    exact h9
  have hall : s.sameButNew ({ U with vm := s.vm } : State) locs mc ms := by
    subst hA
    obtain ⟨e1, e2⟩ := hsame
    rw [State.setFrames_setFrames] at e1
    have h2 : (T.setVm s.vm).sameButNew ({ U with vm := s.vm } : State) [] (0 + 1) (0 + 6) := ⟨e1, e2⟩
    have h3 := X.same.trans h2
    rw [List.append_nil] at h3
    exact h3.mono hc hs
  refine ⟨U, ?_, .threw T.heap.size, hrun, hend, Or.inr ⟨T.heap.size, rfl, cls, ce, locs, hx U hWs.alike f1 (fun q hq => f2 q hq (fun z hz => nomatch hz)), hce, hO.vm, hcl, hWs, hall, hf⟩⟩
  refine st1 _ ?_
  show Steps p.tables e below (T1.setTop { method := m, pc := pc + 3, locals := ls, stack := .ref T.heap.size :: rest, locked := none }) _
  jvm_step X₁.here [X₁.here.top, hexec, d3', Value.category]
  exact hsteps
/-- 'throw new E("text")': new; dup; ldc; invokespecial; athrow -/
theorem vx_throwS {cc : ByteArray} {pc : Nat} (hexec : p.tables.exec = Jvm.exec) (hb : c.code = cc) (hl : l.stackTraces = false) {own cls text : String} {names : List String} {ik is ic mc ms sa : Nat} {A : Nat → Prop}
    (hown : s.vm.findClass own = some m.cls) (hcls : Bundle.fit cls = true) (hnames : ∀ n ∈ names, Bundle.fit n = true)
    (hk : (Cond.classLink own ik cls).before args s = true) (hini : (Cond.initialized cls).before args s = true) (hstr : vk_R own is text sa s) (hat : ∀ w ∈ vx_atS own ic cls names, w.before args s = true)
    (hgood : ∀ w ∈ Cond.classLink own ik cls :: Cond.initialized cls :: vx_atS own ic cls names, vx_ot w = true)
    (hU : vx_Zq Bundle.tN "UNASSIGNED_STACK" Bundle.steD A s s.heap) (hN : vx_Zq Bundle.tN "SUPPRESSED_SENTINEL" Bundle.listD A s s.heap) (hS : va_S A s.heap H locs) (hsize : ls.size = c.maxLocals)
    (d0 : decode cc pc = .ok (.new ik, 3)) (d3 : decode cc (pc + 3) = .ok (.dup, 1)) (d4 : decode cc (pc + 4) = .ok (.ldc is, 2)) (d6 : decode cc (pc + 6) = .ok (.invokespecial ic, 3)) (d9 : decode cc (pc + 9) = .ok (.athrow, 1))
    (hout : ∀ x ∈ c.exceptionTable.toList, covers x (pc + 9) = false)
    (hRframes : names.length + 3 < R.frames) (hRlocals : (rest.map fun v => v.category).sum + (13 * (names.length + 1) + 43) ≤ R.locals) (hRcells : cells + 1 ≤ R.cells) (hRslots : slots + 6 ≤ R.slots) (hlocks : meth.locks = false)
    (hx : ∀ t : State, s.vm.Alike t.vm → H.size ≤ t.heap.size → (∀ q : Nat, q < H.size → t.heap[q]? = H[q]?) → XC cls s t)
    (hf : ∀ z ∈ locs, free z.base) (hc : cells + 1 ≤ mc) (hs : slots + 6 ≤ ms) :
    W p l e R s m args below meth c H locs cells slots (vx_MQ below Qc XC args s mc ms free) (F0 m pc ls rest) := by
  intro T hT X
  have htr : e.platform.stackTraces = false := (show e.platform.stackTraces = l.stackTraces by rw [X.admits.platform]).trans hl
  have Y := vx_rebase X (R' := { frames := R.frames, locals := R.locals, cells := 1, slots := 6 }) (Nat.le_refl _) (Nat.le_refl _) hRcells hRslots
  obtain ⟨s', hA⟩ : ∃ z, z = (T.setVm s.vm).setFrames (.invoking m args :: below) := ⟨_, rfl⟩
  rw [← hA] at Y
  have hvm : s'.vm = s.vm := by rw [hA]; rfl
  have hhp : s'.heap = H := by rw [hA]; exact hT
  have hW0 : s.WarmedH s'.vm := by rw [hvm]; exact State.WarmedH.refl s
  have hat' : ∀ w ∈ vx_atS own ic cls names, w.before args s' = true := fun w hw => vx_ot_at hW0 hvm.symm (hgood w (List.mem_cons_of_mem _ (List.mem_cons_of_mem _ hw))) (hat w hw)
  have hk' : (Cond.classLink own ik cls).before args s' = true := vx_ot_at hW0 hvm.symm (hgood _ List.mem_cons_self) hk
  have hini' : (Cond.initialized cls).before args s' = true := vx_ot_at hW0 hvm.symm (hgood _ (List.mem_cons_of_mem _ List.mem_cons_self)) hini
  have hU' : vx_Zq Bundle.tN "UNASSIGNED_STACK" Bundle.steD A s' s'.heap := by rw [hhp]; exact vx_Zq.moved hW0.alike (hU.kept hS.2.1)
  have hN' : vx_Zq Bundle.tN "SUPPRESSED_SENTINEL" Bundle.listD A s' s'.heap := by rw [hhp]; exact vx_Zq.moved hW0.alike (hN.kept hS.2.1)
  have h : ∀ w ∈ Bundle.ownAtoms own ic cls names, w.before args s' = true := vx_own hat' (vx_isRefq hU'.1) (vx_isRefq hN'.1) hU'.2.word hN'.2.word
  have hown' : s'.vm.findClass own = some m.cls := by rw [hvm]; exact hown
  have hins : (Cond.instantiable cls 6).before args s' = true := h _ (by simp [Bundle.ownAtoms])
  obtain ⟨vm₁, cX, kX, hfX, hkX, -, -, X₁, st1⟩ := Y.newCold hexec (own := own) (C := cls) (index := ik) (n := 6) hown' hk' hins hini'
    (g := F0 m pc ls rest) rfl (by rw [hb]; exact d0) (Nat.le_refl _) (Nat.le_refl _)
  generalize hT1 : (T.setVm vm₁).pushCell { cls := cX, slots := kX.instanceTypes.map defaultValue, vm := .none } = T1 at X₁ st1
  have hcat : (Value.ref T.heap.size).category = 1 := rfl
  have hcellA : T1.heap[T.heap.size]? = some (freshCell cX kX) := by rw [← hT1]; exact State.heap_pushCell_size _ _
  have d3' : decode c.code (pc + 3) = .ok (.dup, 1) := by rw [hb]; exact d3
  have d4' : decode c.code (pc + 4) = .ok (.ldc is, 2) := by rw [hb]; exact d4
  have hstr' : vk_R own is text sa s' := vk_R.warm hW0 hstr
  obtain ⟨U, hsteps, hrun, hend, hW, hsame, ce, hce, hO⟩ := X₁.ctorThrowS hexec htr (own := own) (cls := cls) (names := names) (ic := ic) hown' hcls hnames h (fun x hx => nomatch hx) hfX hkX hcellA (by rw [hhp, hT]; exact Nat.le_refl _) (msg := .ref sa) rfl
    (g := { method := m, pc := pc + 6, locals := ls, stack := .ref sa :: .ref T.heap.size :: .ref T.heap.size :: rest, locked := none }) rfl hsize rfl rfl (rest := rest) rfl
    (by rw [hb]; exact d6) (by rw [hb]; exact d9) hout hRframes (by simp only [List.map_cons, List.sum_cons, hcat]; omega) hlocks
  obtain ⟨f1, f2⟩ := vx_frame hsame
  rw [hhp] at f1 f2
  have hWs : s.WarmedH U.vm := State.WarmedH.trans hW0 hW
  have hcl : s.vm.findClass cls = some ce.cls := by
    have h9 := hO.cls
    rw [hvm] at h9
    exact h9
  have hall : s.sameButNew ({ U with vm := s.vm } : State) locs mc ms := by
    subst hA
    obtain ⟨e1, e2⟩ := hsame
    rw [State.setFrames_setFrames] at e1
    have h2 : (T.setVm s.vm).sameButNew ({ U with vm := s.vm } : State) [] (0 + 1) (0 + 6) := ⟨e1, e2⟩
    have h3 := X.same.trans h2
    rw [List.append_nil] at h3
    exact h3.mono hc hs
  refine ⟨U, ?_, .threw T.heap.size, hrun, hend, Or.inr ⟨T.heap.size, rfl, cls, ce, locs, hx U hWs.alike f1 (fun q hq => f2 q hq (fun z hz => nomatch hz)), hce, hO.vm, hcl, hWs, hall, hf⟩⟩
  refine st1 _ ?_
  show Steps p.tables e below (T1.setTop { method := m, pc := pc + 3, locals := ls, stack := .ref T.heap.size :: rest, locked := none }) _
  jvm_step X₁.here [X₁.here.top, hexec, d3', Value.category]
  exact X₁.ldcString hexec (own := own) (text := text) (index := is) (a := sa) hown' hstr'.1 hstr'.2
    (g := { method := m, pc := pc + 4, locals := ls, stack := .ref T.heap.size :: .ref T.heap.size :: rest, locked := none }) rfl d4' _ hsteps
/-- 'throw new E("text")', the text by a wide index -/
theorem vx_throwSW {cc : ByteArray} {pc : Nat} (hexec : p.tables.exec = Jvm.exec) (hb : c.code = cc) (hl : l.stackTraces = false) {own cls text : String} {names : List String} {ik is ic mc ms sa : Nat} {A : Nat → Prop}
    (hown : s.vm.findClass own = some m.cls) (hcls : Bundle.fit cls = true) (hnames : ∀ n ∈ names, Bundle.fit n = true)
    (hk : (Cond.classLink own ik cls).before args s = true) (hini : (Cond.initialized cls).before args s = true) (hstr : vk_R own is text sa s) (hat : ∀ w ∈ vx_atS own ic cls names, w.before args s = true)
    (hgood : ∀ w ∈ Cond.classLink own ik cls :: Cond.initialized cls :: vx_atS own ic cls names, vx_ot w = true)
    (hU : vx_Zq Bundle.tN "UNASSIGNED_STACK" Bundle.steD A s s.heap) (hN : vx_Zq Bundle.tN "SUPPRESSED_SENTINEL" Bundle.listD A s s.heap) (hS : va_S A s.heap H locs) (hsize : ls.size = c.maxLocals)
    (d0 : decode cc pc = .ok (.new ik, 3)) (d3 : decode cc (pc + 3) = .ok (.dup, 1)) (d4 : decode cc (pc + 4) = .ok (.ldc_w is, 3)) (d7 : decode cc (pc + 7) = .ok (.invokespecial ic, 3)) (d10 : decode cc (pc + 10) = .ok (.athrow, 1))
    (hout : ∀ x ∈ c.exceptionTable.toList, covers x (pc + 10) = false)
    (hRframes : names.length + 3 < R.frames) (hRlocals : (rest.map fun v => v.category).sum + (13 * (names.length + 1) + 43) ≤ R.locals) (hRcells : cells + 1 ≤ R.cells) (hRslots : slots + 6 ≤ R.slots) (hlocks : meth.locks = false)
    (hx : ∀ t : State, s.vm.Alike t.vm → H.size ≤ t.heap.size → (∀ q : Nat, q < H.size → t.heap[q]? = H[q]?) → XC cls s t)
    (hf : ∀ z ∈ locs, free z.base) (hc : cells + 1 ≤ mc) (hs : slots + 6 ≤ ms) :
    W p l e R s m args below meth c H locs cells slots (vx_MQ below Qc XC args s mc ms free) (F0 m pc ls rest) := by
  intro T hT X
  have htr : e.platform.stackTraces = false := (show e.platform.stackTraces = l.stackTraces by rw [X.admits.platform]).trans hl
  have Y := vx_rebase X (R' := { frames := R.frames, locals := R.locals, cells := 1, slots := 6 }) (Nat.le_refl _) (Nat.le_refl _) hRcells hRslots
  obtain ⟨s', hA⟩ : ∃ z, z = (T.setVm s.vm).setFrames (.invoking m args :: below) := ⟨_, rfl⟩
  rw [← hA] at Y
  have hvm : s'.vm = s.vm := by rw [hA]; rfl
  have hhp : s'.heap = H := by rw [hA]; exact hT
  have hW0 : s.WarmedH s'.vm := by rw [hvm]; exact State.WarmedH.refl s
  have hat' : ∀ w ∈ vx_atS own ic cls names, w.before args s' = true := fun w hw => vx_ot_at hW0 hvm.symm (hgood w (List.mem_cons_of_mem _ (List.mem_cons_of_mem _ hw))) (hat w hw)
  have hk' : (Cond.classLink own ik cls).before args s' = true := vx_ot_at hW0 hvm.symm (hgood _ List.mem_cons_self) hk
  have hini' : (Cond.initialized cls).before args s' = true := vx_ot_at hW0 hvm.symm (hgood _ (List.mem_cons_of_mem _ List.mem_cons_self)) hini
  have hU' : vx_Zq Bundle.tN "UNASSIGNED_STACK" Bundle.steD A s' s'.heap := by rw [hhp]; exact vx_Zq.moved hW0.alike (hU.kept hS.2.1)
  have hN' : vx_Zq Bundle.tN "SUPPRESSED_SENTINEL" Bundle.listD A s' s'.heap := by rw [hhp]; exact vx_Zq.moved hW0.alike (hN.kept hS.2.1)
  have h : ∀ w ∈ Bundle.ownAtoms own ic cls names, w.before args s' = true := vx_own hat' (vx_isRefq hU'.1) (vx_isRefq hN'.1) hU'.2.word hN'.2.word
  have hown' : s'.vm.findClass own = some m.cls := by rw [hvm]; exact hown
  have hins : (Cond.instantiable cls 6).before args s' = true := h _ (by simp [Bundle.ownAtoms])
  obtain ⟨vm₁, cX, kX, hfX, hkX, -, -, X₁, st1⟩ := Y.newCold hexec (own := own) (C := cls) (index := ik) (n := 6) hown' hk' hins hini'
    (g := F0 m pc ls rest) rfl (by rw [hb]; exact d0) (Nat.le_refl _) (Nat.le_refl _)
  generalize hT1 : (T.setVm vm₁).pushCell { cls := cX, slots := kX.instanceTypes.map defaultValue, vm := .none } = T1 at X₁ st1
  have hcat : (Value.ref T.heap.size).category = 1 := rfl
  have hcellA : T1.heap[T.heap.size]? = some (freshCell cX kX) := by rw [← hT1]; exact State.heap_pushCell_size _ _
  have d3' : decode c.code (pc + 3) = .ok (.dup, 1) := by rw [hb]; exact d3
  have d4' : decode c.code (pc + 4) = .ok (.ldc_w is, 3) := by rw [hb]; exact d4
  have hstr' : vk_R own is text sa s' := vk_R.warm hW0 hstr
  obtain ⟨U, hsteps, hrun, hend, hW, hsame, ce, hce, hO⟩ := X₁.ctorThrowS hexec htr (own := own) (cls := cls) (names := names) (ic := ic) hown' hcls hnames h (fun x hx => nomatch hx) hfX hkX hcellA (by rw [hhp, hT]; exact Nat.le_refl _) (msg := .ref sa) rfl
    (g := { method := m, pc := pc + 7, locals := ls, stack := .ref sa :: .ref T.heap.size :: .ref T.heap.size :: rest, locked := none }) rfl hsize rfl rfl (rest := rest) rfl
    (by rw [hb]; exact d7) (by rw [hb]; exact d10) hout hRframes (by simp only [List.map_cons, List.sum_cons, hcat]; omega) hlocks
  obtain ⟨f1, f2⟩ := vx_frame hsame
  rw [hhp] at f1 f2
  have hWs : s.WarmedH U.vm := State.WarmedH.trans hW0 hW
  have hcl : s.vm.findClass cls = some ce.cls := by
    have h9 := hO.cls
    rw [hvm] at h9
    exact h9
  have hall : s.sameButNew ({ U with vm := s.vm } : State) locs mc ms := by
    subst hA
    obtain ⟨e1, e2⟩ := hsame
    rw [State.setFrames_setFrames] at e1
    have h2 : (T.setVm s.vm).sameButNew ({ U with vm := s.vm } : State) [] (0 + 1) (0 + 6) := ⟨e1, e2⟩
    have h3 := X.same.trans h2
    rw [List.append_nil] at h3
    exact h3.mono hc hs
  refine ⟨U, ?_, .threw T.heap.size, hrun, hend, Or.inr ⟨T.heap.size, rfl, cls, ce, locs, hx U hWs.alike f1 (fun q hq => f2 q hq (fun z hz => nomatch hz)), hce, hO.vm, hcl, hWs, hall, hf⟩⟩
  refine st1 _ ?_
  show Steps p.tables e below (T1.setTop { method := m, pc := pc + 3, locals := ls, stack := .ref T.heap.size :: rest, locked := none }) _
  jvm_step X₁.here [X₁.here.top, hexec, d3', Value.category]
  exact X₁.ldcStringW hexec (own := own) (text := text) (index := is) (a := sa) hown' hstr'.1 hstr'.2
    (g := { method := m, pc := pc + 4, locals := ls, stack := .ref T.heap.size :: .ref T.heap.size :: rest, locked := none }) rfl d4' _ hsteps
end Ends
section Bodies
variable {l : Launch}
theorem vx_ofW {y : MethodName} {ws ws' : List Cond} {rm : Room} {Pc : Array Value → State → Prop} {Qc : Array Value → State → Outcome → State → Prop} {XC : String → State → State → Prop} {mc ms : Nat} {free : Addr → Prop} {cc : ByteArray} {maxL : Nat} {ret : Option FieldType}
    (hy : plainName y.cls = true) (hw : ws = Cond.code y cc maxL ret :: ws')
    (body : ∀ p e s m args below meth c s₁, BodyLoose p l y (headSpec ws rm) cc maxL ret e s m args below meth c s₁ → c.maxLocals = maxL → (∀ x ∈ c.exceptionTable.toList, False) → Pc args s →
      W p l e (headSpec ws rm).room s m args below meth c s.heap [] 0 0 (vx_MQ below Qc XC args s mc ms free) (entryFrame m args maxL)) : vx_Met l y ws rm Pc Qc XC mc ms free := by
  refine MetFree.of_bodyS (code := cc) (maxLocals := maxL) (ret := ret) hy ?_ ?_
  · intro args s m h hn
    obtain ⟨meth, c, h1, h2, h3, h4, h5, h6, -, -⟩ := Cond.code_spec hn (atoms_spec (ws := ws) h _ (by rw [hw]; exact List.mem_cons_self))
    exact ⟨meth, c, h1, h2, h3, h4, h5, h6⟩
  · intro p e s m args below meth c s₁ B hml hP _
    have hh0 : s₁.heap = s.heap := by rw [B.state]; rfl
    have ht : ∀ x ∈ c.exceptionTable.toList, False := by
      obtain ⟨meth9, c9, h1, h2, -, -, -, -, h7, -⟩ := Cond.code_spec B.named (atoms_spec (ws := ws) B.pre _ (by rw [hw]; exact List.mem_cons_self))
      cases Option.some.inj (h1.symm.trans B.method)
      cases Option.some.inj (h2.symm.trans (Stand.of_body B).code)
      intro x hx
      rw [Array.isEmpty_iff.mp h7] at hx
      cases hx
    obtain ⟨t, a1, o, b1, b2, b3⟩ := body p e s m args below meth c s₁ B hml ht hP s₁ hh0 (Stand.of_body B)
    exact ⟨t, o, a1, b1, b2, b3⟩
/-- the table of a body with handlers -/
theorem vx_table {p : Program} {x y : MethodName} {S : Spec} {cc bytes : ByteArray} {maxL maxL' : Nat} {ret ret' : Option FieldType} {e : Env} {s s₁ : State} {m : MethodId} {args : Array Value} {below : List Frame} {meth : Method} {c : Code} {hh : List (Nat × Nat × Nat × Nat)}
    (B : BodyLoose p l y S cc maxL ret e s m args below meth c s₁) (h : (Cond.codeWith y bytes maxL' ret' hh).before args s = true) : c.exceptionTable.toList = tableOf hh := by
  obtain ⟨m9, meth9, c9, hn9, h1, h2, -, -, h6, -⟩ := Cond.codeWith_spec h
  cases Option.some.inj (hn9.symm.trans B.named)
  cases Option.some.inj (h1.symm.trans B.method)
  cases Option.some.inj (h2.symm.trans (Stand.of_body B).code)
  rw [← h6, table_eq]
end Bodies
end VXA
/-! ===== END ===== -/
/-! ===== BEGIN a static call of a method with an exception table ===== -/
section VXS
variable {p : Program} {l : Launch} {e : Env} {R : Room} {s : State} {m : MethodId} {args : Array Value} {below : List Frame} {meth : Method} {c : Code} {T : State} {H : Heap} {locs : List Loc} {cells slots : Nat}
abbrev vx_CSW (R : Room) (s : State) (args : Array Value) (own : String) (index : Nat) (y : MethodName) (bytes : ByteArray) (maxL : Nat) (ret : Option FieldType) (hh : List (Nat × Nat × Nat × Nat)) (ws : List Cond) (rm : Room) (mc ms n : Nat) : Prop :=
  (rm.cells = mc ∧ rm.slots = ms ∧ rm.frames + 1 ≤ R.frames ∧ 8 + (maxL + 11) + rm.locals ≤ R.locals ∧ (∀ w ∈ ws, ∀ (a' : Array Value) (U : State), s.WarmedH U.vm → w.before a' U = true) ∧ Cond.codeWith y bytes maxL ret hh ∈ ws) ∧
  (Cond.codeWith y bytes maxL ret hh).before args s = true ∧ (Cond.initialized y.cls).before args s = true ∧ (y.cls ≠ "java/lang/invoke/MethodHandle" ∧ y.cls ≠ "java/lang/invoke/VarHandle") ∧
  (∀ sig, parseMethodDescriptor y.desc = some sig → n = sig.parameters.length) ∧ (Cond.methodLink own index y).before args s = true ∧ (Cond.static y).before args s = true
theorem vx_cwSW {own : String} {index maxL mc ms : Nat} {y : MethodName} {bytes : ByteArray} {ret : Option FieldType} {hh : List (Nat × Nat × Nat × Nat)} {Ts ws ws' : List Cond} {rm : Room} (n : Nat) (ht : ∀ w ∈ Ts, w.before args s = true) (hT : GoodIn Ts (va_wsS own index y ws)) (hw : ws = Cond.codeWith y bytes maxL ret hh :: ws') (hrc : rm.cells = mc) (hrs : rm.slots = ms)
    (hd : y.cls ≠ "java/lang/invoke/MethodHandle" ∧ y.cls ≠ "java/lang/invoke/VarHandle" ∧ (parseMethodDescriptor y.desc).map (fun d => d.parameters.length) = some n) (hR : rm.frames + 1 ≤ R.frames ∧ 8 + (maxL + 11) + rm.locals ≤ R.locals) :
    vx_CSW R s args own index y bytes maxL ret hh ws rm mc ms n := by
  have ok : ∀ w ∈ va_wsS own index y ws, w.before args s = true := fun w h => ht w (hT w h).1
  have hG : GoodIn Ts ws := fun w h => hT w (by unfold va_wsS; exact List.mem_append_right _ h)
  have hc : Cond.codeWith y bytes maxL ret hh ∈ ws := by rw [hw]; exact List.mem_cons_self
  refine ⟨⟨hrc, hrs, hR.1, hR.2, pay_in ht hG, hc⟩, ht _ (hG _ hc).1, ok _ (by simp [va_wsS]), ⟨hd.1, hd.2.1⟩, fun sig h => ?_, ok _ (by simp [va_wsS]), ok _ (by simp [va_wsS])⟩
  have h2 := hd.2.2
  rw [h] at h2
  exact (Option.some.inj h2).symm
theorem vx_callSW (X : Stand p l e R s m args below meth c T locs cells slots) (hexec : p.tables.exec = Jvm.exec) {own : String} {index : Nat} {y : MethodName} {bytes : ByteArray} {maxL : Nat} {ret : Option FieldType} {hh : List (Nat × Nat × Nat × Nat)}
    (hown : s.vm.findClass own = some m.cls) (hlink : (Cond.methodLink own index y).before args s = true) (hstat : (Cond.static y).before args s = true) (hinit : (Cond.initialized y.cls).before args s = true)
    (hcode : (Cond.codeWith y bytes maxL ret hh).before args s = true) (hy : y.cls ≠ "java/lang/invoke/MethodHandle" ∧ y.cls ≠ "java/lang/invoke/VarHandle")
    {W9 : Nat} {Pre : Pt → Array Value → Prop} {Post : Pt → Array Value → Option Value → Pt → Prop} (hK : Back l R p e below s args y 3 W9 Pre Post)
    {g : JFrame} (hg : g.method = m) (hsize : g.locals.size = c.maxLocals) {argsL rest : List Value} (hlen : ∀ sig, parseMethodDescriptor y.desc = some sig → argsL.length = sig.parameters.length)
    (hstack : g.stack = argsL.reverse ++ rest) (hW : 2 * g.monitorRoom + (rest.map fun v => v.category).sum ≤ W9) (hdg : decode c.code g.pc = .ok (.invokestatic index, 3))
    (hpre : ∀ vm₁, s.WarmedH vm₁ → Pre ⟨T.setVm vm₁, locs, cells, slots⟩ argsL.toArray) :
    ∃ (v : Option Value) (vm₁ : Vm) (B : Pt), s.WarmedH vm₁ ∧ Stand p l e R s m args below meth c B.U B.locs B.cells B.slots ∧ Post ⟨T.setVm vm₁, locs, cells, slots⟩ argsL.toArray v B ∧
      ∀ target, Steps p.tables e below (B.U.setTop { g with pc := g.pc + 3, stack := v.toList ++ rest }) target → Steps p.tables e below (T.setTop g) target := by
  obtain ⟨mk, methM, cM, hnamed, hmethM, -, -, -, -, -, -, hsigM⟩ := Cond.codeWith_spec hcode
  have hstatic : methM.isStatic = true := Cond.static_spec hnamed hmethM hstat
  obtain ⟨kP, hkP, -⟩ := className_of_methodNamed hnamed
  have hinitP : kP.init = .initialized := Cond.initialized_spec (findClass_of_methodNamed hnamed) hkP hinit
  obtain ⟨vm₁, X₁, hstep₁⟩ := X.invokestatic hexec hown hlink hnamed hmethM hstatic hkP hinitP hy (g := g) hg (argsL := argsL) (rest := rest) (hlen _ hsigM) hstack hdg
  obtain ⟨v, B, X', hpost, hsteps⟩ := hK m meth c ⟨T.setVm vm₁, locs, cells, slots⟩ { g with stack := rest } (.invokestatic index) mk argsL.toArray X₁ hg hsize hdg hW (X₁.named hnamed) (hpre vm₁ X₁.warmed)
  exact ⟨v, vm₁, B, X₁.warmed, X', hpost, fun target h => hstep₁ _ fun acts => by rw [doInvoke_state]; exact hsteps.trans h⟩
theorem vx_runSW {y : MethodName} {bytes cc : ByteArray} {maxL nL mc ms n index : Nat} {ret : Option FieldType} {hh : List (Nat × Nat × Nat × Nat)} {ws : List Cond} {rm : Room} {Pc : Array Value → State → Prop} {Qc : Array Value → State → Outcome → State → Prop} {free : Addr → Prop} {Ts : List Cond} {own : String} {As rest : List Value} {g : JFrame}
    (S : CallFix p m c cc nL s args Ts own) (hM : Met l y ws rm Pc Qc mc ms free) (cw : vx_CSW R s args own index y bytes maxL ret hh ws rm mc ms n) (hp : PreS s H Pc As)
    (hg : g.method = m) (hn : As.length = n) (hsize : g.locals.size = nL) (hstack : g.stack = As.reverse ++ rest) (hW : 2 * g.monitorRoom + (rest.map fun v => v.category).sum ≤ 8) (hdg : decode cc g.pc = .ok (.invokestatic index, 3)) (hf : cells + mc ≤ R.cells ∧ slots + ms ≤ R.slots) :
    va_Run p l e R s m args below meth c H locs cells slots mc ms g rest (Qc As.toArray) (free) := by
  obtain ⟨⟨hrc, hrs, hfr, hlo, hws, hcw⟩, hcode, hini, hy, hlen, hl, hstt⟩ := cw
  have hK : Back l R p e below s args y 3 8 (PreOf R mc ms Pc) (PostOf Qc mc ms free) := va_backW (hh := hh) (bytes := bytes) (maxL := maxL) (ret := ret) hM hp.1 hrc hrs hfr hlo hws hcw (fun a' U hW => word_at hW (Or.inl (by first | rfl | simp [Cond.onTables, Cond.keeps, Cond.steady])) hini)
  obtain ⟨hx, hb, hml, ho, -⟩ := S
  intro T hT X
  obtain ⟨v, vm₁, ⟨U', l2, c2, s2⟩, hW₁, X', ⟨g', mk, t, L, e1, e2, hq, h1, hL, h2, h3⟩, st⟩ := vx_callSW X hx (hh := hh) (bytes := bytes) (maxL := maxL) (ret := ret) ho hl hstt hini hcode hy hK hg (hsize.trans hml.symm) (argsL := As) (rest := rest) (fun sig h => hn.trans (hlen sig h)) hstack hW (by rw [hb]; exact hdg)
    (fun vm₁ hW₁ => ⟨hf.1, hf.2, hp.2 (T.setVm vm₁) hT hW₁⟩)
  dsimp only [Pt.U, Pt.locs, Pt.cells, Pt.slots] at X' e1 e2 h1 h2 h3 st
  subst h1; subst h2; subst h3
  exact ⟨v, (T.setVm vm₁).calling g' mk As.toArray, t, U', L, hT, X', hL, e1, e2, hq, st⟩
/-- not caught here, past rows that name other classes: it goes on to the caller -/
theorem vx_outP {p : Program} {l : Launch} {e : Env} {R : Room} {s : State} {m : MethodId} {args : Array Value} {below : List Frame} {meth : Method} {c : Code} {H : Heap} {locs : List Loc} {cells slots : Nat} {free : Addr → Prop} {ls : Array Slot} {rest : List Value} {Qc : Array Value → State → Outcome → State → Prop} {XC : String → State → State → Prop}
    {pc : Nat} {own E : String} {ce : Cell} {q : Addr} {mc ms : Nat} (hown : s.vm.findClass own = some m.cls) (hlocks : meth.locks = false)
    (hpass : ∀ z ∈ c.exceptionTable.toList, covers z pc = false ∨ (z.catchType ≠ 0 ∧ ∃ nm : String, (Cond.classLink own z.catchType nm).before args s = true ∧ va_Nc E nm s)) (hcell : H[q]? = some ce) (hv : ce.vm = .none) (hcl : s.vm.findClass E = some ce.cls)
    (hx : ∀ t : State, t.heap = H → s.vm.Alike t.vm → XC E s t) (hf : ∀ z ∈ locs, free z.base) (hc : cells ≤ mc) (hs : slots ≤ ms) :
    vx_W p l e R s m args below meth c H locs cells slots (vx_MQ below Qc XC args s mc ms free) (F0 m pc ls rest) q := by
  intro T hT X
  have hpl : e.platform.magicAccessors = ({} : Platform).magicAccessors := by rw [X.admits.platform]
  obtain ⟨vm', hW', X', st⟩ := X.outThrough hlocks q (g := F0 m pc ls rest) rfl rfl rfl (cell := ce) (by rw [hT]; exact hcell) (by rw [hv]; rfl)
    (by obtain ⟨k9, h9, -⟩ := Vm.findClass_spec hcl; exact ⟨k9, h9⟩) (fun z hz => by
      rcases hpass z hz with h | ⟨hz0, nm, hl1, hn1⟩
      · exact Or.inl h
      · obtain ⟨c6, hc6, hcl6⟩ := Cond.classLink_spec hown hl1 e.platform hpl
        obtain ⟨a8, b8, h1, h2, h3⟩ := hn1
        cases Option.some.inj (h1.symm.trans hcl)
        cases Option.some.inj (h2.symm.trans hc6)
        exact Or.inr ⟨hz0, _, hcl6, h3⟩)
  obtain ⟨g₀, hfr⟩ := X'.frames_eq
  have hcell9 : ((T.setVm vm').setFrames (.throwing q :: below)).heap[q]? = some ce := by
    show T.heap[q]? = some ce
    rw [hT]; exact hcell
  have hend : Ended ((T.setVm vm').setFrames (.throwing q :: below)) below (.threw q) := State.frames_setFrames _ (State.cur_lt_of_frames hfr)
  refine ⟨(T.setVm vm').setFrames (.throwing q :: below), ?_, .threw q, X'.here.running, hend, Or.inr ⟨q, rfl, E, ce, locs, hx _ hT (X'.ends _).1.alike, hcell9, hv, hcl, (X'.ends _).1, (X'.ends _).2.mono hc hs, hf⟩⟩
  rw [X.pushThrowing_eq]
  exact st
/-- a thing of a world lies in the heap -/
theorem vx_lt {D : va_G} {cl : List vw_C} {ws : va_W} {H1 : Heap} (h : va_P D cl ws H1) {k : Nat} {q : Nat × va_E} (hk : ws[k]? = some q) : q.1 < H1.size := (h k q hk).lt
end VXS
/-! ===== END ===== -/
/-! ===== BEGIN methods with a table of their own: called by a name, returning or throwing ===== -/
section VXH
/-! vx_backW, vx_callVX, vx_callSX, vx_callVW, vx_runVW, vx_runVX, vx_runSX, vx_ofWH follow the same proofs as their sisters above (Free/Laws.lean, Shelf42/LK1.lean); vx_outP calls Shelf42/NT130.lean (outThrough). -/
section
variable {l : Launch} {R : Room} {p : Program} {e : Env} {below : List Frame} {s : State} {sargs : Array Value} {y : MethodName} {len W9 : Nat}
theorem vx_backW {ws : List Cond} {rm : Room} {Pc : Array Value → State → Prop} {Qc : Array Value → State → Outcome → State → Prop} {XC : String → State → State → Prop} {mc ms : Nat} {free : Addr → Prop} {bytes : ByteArray} {maxL : Nat} {ret : Option FieldType} {hh : List (Nat × Nat × Nat × Nat)}
    (hM : vx_Met l y ws rm Pc Qc XC mc ms free) (hblind : FrameBlind Pc) (hrc : rm.cells = mc) (hrs : rm.slots = ms)
    (hframes : rm.frames + 1 ≤ R.frames) (hlocals : W9 + (maxL + 11) + rm.locals ≤ R.locals)
    (hws : ∀ w ∈ ws, ∀ a' U, s.WarmedH U.vm → w.before a' U = true) (hcode : Cond.codeWith y bytes maxL ret hh ∈ ws) (hinit : ∀ a' U, s.WarmedH U.vm → (Cond.initialized y.cls).before a' U = true) :
    vx_Back l R p e below s sargs y len W9 (PreOf R mc ms Pc) (PostOf Qc mc ms free) (vx_Post XC mc ms free) := by
  intro m meth c A g ig mk a X hg hsize hdg hW hn hp
  have h1 : (headSpec ws rm).pre.before a A.U = true := atoms_intro fun w hw => hws w hw _ _ X.warmed
  have h2 : (Cond.codeWith y bytes maxL ret hh).before a A.U = true := hws _ hcode _ _ X.warmed
  have h3 : (Cond.initialized y.cls).before a A.U = true := hinit _ _ X.warmed
  have h4 : A.cells + (headSpec ws rm).room.cells ≤ R.cells := by rw [show (headSpec ws rm).room.cells = mc from hrc]; exact hp.1
  have h5 : A.slots + (headSpec ws rm).room.slots ≤ R.slots := by rw [show (headSpec ws rm).room.slots = ms from hrs]; exact hp.2.1
  have hPc : Pc a (A.U.calling g mk a) := hblind _ _ _ _ hp.2.2
  obtain ⟨U, Ls, c0, s0⟩ := A
  dsimp only [Pt.U, Pt.locs, Pt.cells, Pt.slots] at h1 h2 h3 h4 h5 X hn hPc ⊢
  obtain ⟨m9, methY, cY, hn9, hmY, hcY, -, hlY, -⟩ := Cond.codeWith_spec h2
  cases Option.some.inj (hn9.symm.trans hn)
  obtain ⟨kY, hkY, -⟩ := className_of_methodNamed hn
  have hinitY : kY.init = .initialized := Cond.initialized_spec (findClass_of_methodNamed hn) hkY h3
  have h : At U g.method c below := by rw [hg]; exact X.here
  have hlocals9 : W9 + (maxL + 11) + (headSpec ws rm).room.locals ≤ R.locals := hlocals
  have happ : (headSpec ws rm).appliesLoose y e.platform (U.calling g mk a) = true :=
    Spec.appliesLoose_calling (g := g) h hdg hn hkY hinitY
      (X.room_calling (g := g) (R' := (headSpec ws rm).room) hsize hmY hcY hframes (by rw [hlY]; omega) h4 h5) h1
  obtain ⟨mid, hmid⟩ := h.above
  have hfr : (U.setTop g).frames = (.java g :: mid) ++ below := by rw [State.frames_setTop' g h.top, hmid]; rfl
  obtain ⟨o, s₂, hsteps, -, hend, hq⟩ := Steps.callFree hM p X.admits X.cas X.clock (acts := []) hfr happ hPc trivial
  have hq' : vx_Q Qc XC mc ms free a (U.calling g mk a) o s₂ := hq
  rw [State.frames_setTop' g h.top] at hend
  obtain ⟨g₀, hg0⟩ := Option.isSome_iff_exists.mp h.top
  obtain ⟨r, hr⟩ := State.topJava?_eq_some.mp hg0
  have hr' : (({ U with heap := s₂.heap, slotsUsed := s₂.slotsUsed } : State).setVm s₂.vm).frames = .java g₀ :: r := hr
  rcases hq' with ⟨hqc, L, hfe, hL⟩ | ⟨q, rfl, E, ce, L, hx, hce, hcv, hcl, hW₂, hsm, hL⟩
  · obtain ⟨⟨v, rfl⟩, hW₂, e2, q2, q3, q4, q5, q6⟩ := id hfe
    have e3 : s₂ = ({ (U.calling g mk a).setFrames s₂.frames with heap := s₂.heap, slotsUsed := s₂.slotsUsed } : State).setVm s₂.vm := by
      have : s₂ = ({ s₂ with vm := (U.calling g mk a).vm } : State).setVm s₂.vm := rfl
      rw [e2] at this
      exact this
    obtain ⟨c₂, i₂, len₂, hc₂, hd₂, hf₂⟩ := hend
    have hW' : U.WarmedH s₂.vm := hW₂
    have hcc : c₂ = c := by
      have h1 : s₂.code? g.method = U.code? g.method := by
        rw [State.code?_eq, State.code?_eq, hW'.alike.method?]
      exact Option.some.inj (hc₂.symm.trans (h1.trans h.code))
    subst hcc
    have hlen : len₂ = len := by rw [hdg] at hd₂; cases hd₂; rfl
    subst hlen
    have hs₂ : s₂ = (({ U with heap := s₂.heap, slotsUsed := s₂.slotsUsed } : State).setVm s₂.vm).setTop { g with pc := g.pc + len₂, stack := v.toList ++ g.stack } := by
      refine e3.trans ?_
      rw [hf₂, State.calling_eq h.top, State.setFrames_setFrames, State.setTop_of_frames _ hr', hr]
      rfl
    have hsame : U.sameButNew ({ U with heap := s₂.heap, slotsUsed := s₂.slotsUsed } : State) L mc ms := by
      refine ⟨?_, q2, q3, q4, q5, q6⟩
      obtain ⟨t, ht, -⟩ := State.frames_cons hr
      show ({ U with heap := s₂.heap, slotsUsed := s₂.slotsUsed } : State) = { U.setFrames U.frames with heap := s₂.heap, slotsUsed := s₂.slotsUsed }
      rw [State.setFrames_self ht]
    subst hg
    refine Or.inl ⟨v, ⟨(({ U with heap := s₂.heap, slotsUsed := s₂.slotsUsed } : State).setVm s₂.vm), Ls ++ L, c0 + mc, s0 + ms⟩,
      ⟨X.admits, X.cas, X.clock, X.frames, X.room, X.hears, X.method, X.code, (X.here.setHeapUsed s₂.heap s₂.slotsUsed).setVm hW'.alike, X.tail, State.WarmedH.trans X.warmed hW', X.limits, X.bytes, X.same.trans (hsame.setVm s.vm)⟩,
      ⟨g, mk, s₂, L, rfl, rfl, hqc, rfl, hL, rfl, rfl⟩, ?_⟩
    show Steps p.tables e below _ ((({ U with heap := s₂.heap, slotsUsed := s₂.slotsUsed } : State).setVm s₂.vm).setTop { g with pc := g.pc + len₂, stack := v.toList ++ g.stack })
    rw [← hs₂]
    exact hsteps
  · obtain ⟨e2, q2, q3, q4, q5, q6⟩ := id hsm
    have e3 : s₂ = ({ (U.calling g mk a).setFrames s₂.frames with heap := s₂.heap, slotsUsed := s₂.slotsUsed } : State).setVm s₂.vm := by
      have : s₂ = ({ s₂ with vm := (U.calling g mk a).vm } : State).setVm s₂.vm := rfl
      rw [e2] at this
      exact this
    have hf₂ : s₂.frames = .throwing q :: .java g :: U.frames.tail := hend
    have hW' : U.WarmedH s₂.vm := hW₂
    have hs₂ : s₂ = ((({ U with heap := s₂.heap, slotsUsed := s₂.slotsUsed } : State).setVm s₂.vm).setTop g).pushFrame (.throwing q) := by
      refine e3.trans ?_
      rw [hf₂, State.calling_eq h.top, State.setFrames_setFrames, State.pushFrame, State.frames_setTop _ hr', State.setTop_of_frames _ hr', State.setFrames_setFrames, hr]
      rfl
    have hsame : U.sameButNew ({ U with heap := s₂.heap, slotsUsed := s₂.slotsUsed } : State) L mc ms := by
      refine ⟨?_, q2, q3, q4, q5, q6⟩
      obtain ⟨t, ht, -⟩ := State.frames_cons hr
      show ({ U with heap := s₂.heap, slotsUsed := s₂.slotsUsed } : State) = { U.setFrames U.frames with heap := s₂.heap, slotsUsed := s₂.slotsUsed }
      rw [State.setFrames_self ht]
    subst hg
    refine Or.inr ⟨q, ⟨(({ U with heap := s₂.heap, slotsUsed := s₂.slotsUsed } : State).setVm s₂.vm), Ls ++ L, c0 + mc, s0 + ms⟩,
      ⟨X.admits, X.cas, X.clock, X.frames, X.room, X.hears, X.method, X.code, (X.here.setHeapUsed s₂.heap s₂.slotsUsed).setVm hW'.alike, X.tail, State.WarmedH.trans X.warmed hW', X.limits, X.bytes, X.same.trans (hsame.setVm s.vm)⟩,
      ⟨g, mk, s₂, L, E, ce, rfl, rfl, hx, hce, hcv, hcl, rfl, hL, rfl, rfl⟩, ?_⟩
    show Steps p.tables e below _ (((({ U with heap := s₂.heap, slotsUsed := s₂.slotsUsed } : State).setVm s₂.vm).setTop g).pushFrame (.throwing q))
    rw [← hs₂]
    exact hsteps
end
variable {p : Program} {l : Launch} {e : Env} {R : Room} {s : State} {m : MethodId} {args : Array Value} {below : List Frame} {meth : Method} {c : Code} {T : State} {H : Heap} {locs : List Loc} {cells slots : Nat}
theorem vx_callVX (X : Stand p l e R s m args below meth c T locs cells slots) (hexec : p.tables.exec = Jvm.exec) {own C : String} {index : Nat} {y : MethodName} {bytes : ByteArray} {maxL : Nat} {ret : Option FieldType} {hh : List (Nat × Nat × Nat × Nat)}
    (hown : s.vm.findClass own = some m.cls) (hlink : (Cond.methodLink own index y).before args s = true) (hinst : (Cond.instanceMethod y).before args s = true) (hsel : (Cond.selects C y y).before args s = true)
    (hcode : (Cond.codeWith y bytes maxL ret hh).before args s = true) (hy : y.cls ≠ "java/lang/invoke/MethodHandle" ∧ y.cls ≠ "java/lang/invoke/VarHandle")
    {W9 : Nat} {Pre : Pt → Array Value → Prop} {Post : Pt → Array Value → Option Value → Pt → Prop} {PostX : Pt → Array Value → Addr → Pt → Prop} (hK : vx_Back l R p e below s args y 3 W9 Pre Post PostX)
    {b : Addr} {cellB : Cell} (hcell : T.heap[b]? = some cellB) (hobj : cellB.vm.isStatics = false) (hcls : s.vm.findClass C = some cellB.cls)
    {g : JFrame} (hg : g.method = m) (hsize : g.locals.size = c.maxLocals) {argsL rest : List Value} (hlen : ∀ sig, parseMethodDescriptor y.desc = some sig → argsL.length = sig.parameters.length)
    (hstack : g.stack = argsL.reverse ++ .ref b :: rest) (hW : 2 * g.monitorRoom + (rest.map fun v => v.category).sum ≤ W9) (hdg : decode c.code g.pc = .ok (.invokevirtual index, 3))
    (hpre : ∀ vm₁, s.WarmedH vm₁ → Pre ⟨T.setVm vm₁, locs, cells, slots⟩ (Value.ref b :: argsL).toArray) :
    (∃ (v : Option Value) (vm₁ : Vm) (B : Pt), s.WarmedH vm₁ ∧ Stand p l e R s m args below meth c B.U B.locs B.cells B.slots ∧ Post ⟨T.setVm vm₁, locs, cells, slots⟩ (Value.ref b :: argsL).toArray v B ∧
      ∀ target, Steps p.tables e below (B.U.setTop { g with pc := g.pc + 3, stack := v.toList ++ rest }) target → Steps p.tables e below (T.setTop g) target) ∨
    (∃ (q : Addr) (vm₁ : Vm) (B : Pt), s.WarmedH vm₁ ∧ Stand p l e R s m args below meth c B.U B.locs B.cells B.slots ∧ PostX ⟨T.setVm vm₁, locs, cells, slots⟩ (Value.ref b :: argsL).toArray q B ∧
      Steps p.tables e below (T.setTop g) ((B.U.setTop { g with stack := rest }).pushFrame (.throwing q))) := by
  obtain ⟨mk, methM, hnamed, hmethM, hstM, habM⟩ := Cond.instanceMethod_spec hinst
  obtain ⟨m8, methM', cM, hn8, hmethM', -, -, -, -, -, -, hsigM⟩ := Cond.codeWith_spec hcode
  cases Option.some.inj (hn8.symm.trans hnamed)
  cases hmethM.symm.trans hmethM'
  obtain ⟨c2, r2, m2, q1, q2, q3, q4, kP, hkP, hkPi⟩ := Cond.selects_spec hsel
  cases hcls.symm.trans q1
  cases (State.methodFound?_of_named hnamed hy).symm.trans q2
  cases hnamed.symm.trans q3
  have hselP : selectMethod e.platform s.vm cellB.cls mk = .method mk := by rw [Launch.admits_selectMethod X.admits]; exact q4
  obtain ⟨vm₁, X₁, hstep₁⟩ := X.invokevirtual hexec hown hlink hnamed hmethM hstM hkP hkPi hy (a := b) (cell := cellB) hcell
    (fun z h => by rw [h] at hobj; cases hobj) hselP hmethM habM hkP hkPi (g := g) hg (argsL := argsL) (rest := rest) (hlen _ hsigM) hstack hdg
  rcases hK m meth c ⟨T.setVm vm₁, locs, cells, slots⟩ { g with stack := rest } (.invokevirtual index) mk (Value.ref b :: argsL).toArray X₁ hg hsize hdg hW (X₁.named hnamed) (hpre vm₁ X₁.warmed) with ⟨v, B, X', hpost, hsteps⟩ | ⟨q, B, X', hpost, hsteps⟩
  · exact Or.inl ⟨v, vm₁, B, X₁.warmed, X', hpost, fun target h => hstep₁ _ fun acts => by rw [doInvoke_state]; exact hsteps.trans h⟩
  · exact Or.inr ⟨q, vm₁, B, X₁.warmed, X', hpost, hstep₁ _ fun acts => by rw [doInvoke_state]; exact hsteps⟩
theorem vx_callSX (X : Stand p l e R s m args below meth c T locs cells slots) (hexec : p.tables.exec = Jvm.exec) {own : String} {index : Nat} {y : MethodName} {bytes : ByteArray} {maxL : Nat} {ret : Option FieldType} {hh : List (Nat × Nat × Nat × Nat)}
    (hown : s.vm.findClass own = some m.cls) (hlink : (Cond.methodLink own index y).before args s = true) (hstat : (Cond.static y).before args s = true) (hinit : (Cond.initialized y.cls).before args s = true)
    (hcode : (Cond.codeWith y bytes maxL ret hh).before args s = true) (hy : y.cls ≠ "java/lang/invoke/MethodHandle" ∧ y.cls ≠ "java/lang/invoke/VarHandle")
    {W9 : Nat} {Pre : Pt → Array Value → Prop} {Post : Pt → Array Value → Option Value → Pt → Prop} {PostX : Pt → Array Value → Addr → Pt → Prop} (hK : vx_Back l R p e below s args y 3 W9 Pre Post PostX)
    {g : JFrame} (hg : g.method = m) (hsize : g.locals.size = c.maxLocals) {argsL rest : List Value} (hlen : ∀ sig, parseMethodDescriptor y.desc = some sig → argsL.length = sig.parameters.length)
    (hstack : g.stack = argsL.reverse ++ rest) (hW : 2 * g.monitorRoom + (rest.map fun v => v.category).sum ≤ W9) (hdg : decode c.code g.pc = .ok (.invokestatic index, 3))
    (hpre : ∀ vm₁, s.WarmedH vm₁ → Pre ⟨T.setVm vm₁, locs, cells, slots⟩ argsL.toArray) :
    (∃ (v : Option Value) (vm₁ : Vm) (B : Pt), s.WarmedH vm₁ ∧ Stand p l e R s m args below meth c B.U B.locs B.cells B.slots ∧ Post ⟨T.setVm vm₁, locs, cells, slots⟩ argsL.toArray v B ∧
      ∀ target, Steps p.tables e below (B.U.setTop { g with pc := g.pc + 3, stack := v.toList ++ rest }) target → Steps p.tables e below (T.setTop g) target) ∨
    (∃ (q : Addr) (vm₁ : Vm) (B : Pt), s.WarmedH vm₁ ∧ Stand p l e R s m args below meth c B.U B.locs B.cells B.slots ∧ PostX ⟨T.setVm vm₁, locs, cells, slots⟩ argsL.toArray q B ∧
      Steps p.tables e below (T.setTop g) ((B.U.setTop { g with stack := rest }).pushFrame (.throwing q))) := by
  obtain ⟨mk, methM, cM, hnamed, hmethM, -, -, -, -, -, -, hsigM⟩ := Cond.codeWith_spec hcode
  have hstatic : methM.isStatic = true := Cond.static_spec hnamed hmethM hstat
  obtain ⟨kP, hkP, -⟩ := className_of_methodNamed hnamed
  have hinitP : kP.init = .initialized := Cond.initialized_spec (findClass_of_methodNamed hnamed) hkP hinit
  obtain ⟨vm₁, X₁, hstep₁⟩ := X.invokestatic hexec hown hlink hnamed hmethM hstatic hkP hinitP hy (g := g) hg (argsL := argsL) (rest := rest) (hlen _ hsigM) hstack hdg
  rcases hK m meth c ⟨T.setVm vm₁, locs, cells, slots⟩ { g with stack := rest } (.invokestatic index) mk argsL.toArray X₁ hg hsize hdg hW (X₁.named hnamed) (hpre vm₁ X₁.warmed) with ⟨v, B, X', hpost, hsteps⟩ | ⟨q, B, X', hpost, hsteps⟩
  · exact Or.inl ⟨v, vm₁, B, X₁.warmed, X', hpost, fun target h => hstep₁ _ fun acts => by rw [doInvoke_state]; exact hsteps.trans h⟩
  · exact Or.inr ⟨q, vm₁, B, X₁.warmed, X', hpost, hstep₁ _ fun acts => by rw [doInvoke_state]; exact hsteps⟩
theorem vx_callVW (X : Stand p l e R s m args below meth c T locs cells slots) (hexec : p.tables.exec = Jvm.exec) {own C : String} {index : Nat} {y : MethodName} {bytes : ByteArray} {maxL : Nat} {ret : Option FieldType} {hh : List (Nat × Nat × Nat × Nat)}
    (hown : s.vm.findClass own = some m.cls) (hlink : (Cond.methodLink own index y).before args s = true) (hinst : (Cond.instanceMethod y).before args s = true) (hsel : (Cond.selects C y y).before args s = true)
    (hcode : (Cond.codeWith y bytes maxL ret hh).before args s = true) (hy : y.cls ≠ "java/lang/invoke/MethodHandle" ∧ y.cls ≠ "java/lang/invoke/VarHandle")
    {W9 : Nat} {Pre : Pt → Array Value → Prop} {Post : Pt → Array Value → Option Value → Pt → Prop} (hK : Back l R p e below s args y 3 W9 Pre Post)
    {b : Addr} {cellB : Cell} (hcell : T.heap[b]? = some cellB) (hobj : cellB.vm.isStatics = false) (hcls : s.vm.findClass C = some cellB.cls)
    {g : JFrame} (hg : g.method = m) (hsize : g.locals.size = c.maxLocals) {argsL rest : List Value} (hlen : ∀ sig, parseMethodDescriptor y.desc = some sig → argsL.length = sig.parameters.length)
    (hstack : g.stack = argsL.reverse ++ .ref b :: rest) (hW : 2 * g.monitorRoom + (rest.map fun v => v.category).sum ≤ W9) (hdg : decode c.code g.pc = .ok (.invokevirtual index, 3))
    (hpre : ∀ vm₁, s.WarmedH vm₁ → Pre ⟨T.setVm vm₁, locs, cells, slots⟩ (Value.ref b :: argsL).toArray) :
    ∃ (v : Option Value) (vm₁ : Vm) (B : Pt), s.WarmedH vm₁ ∧ Stand p l e R s m args below meth c B.U B.locs B.cells B.slots ∧ Post ⟨T.setVm vm₁, locs, cells, slots⟩ (Value.ref b :: argsL).toArray v B ∧
      ∀ target, Steps p.tables e below (B.U.setTop { g with pc := g.pc + 3, stack := v.toList ++ rest }) target → Steps p.tables e below (T.setTop g) target := by
  obtain ⟨mk, methM, hnamed, hmethM, hstM, habM⟩ := Cond.instanceMethod_spec hinst
  obtain ⟨m8, methM', cM, hn8, hmethM', -, -, -, -, -, -, hsigM⟩ := Cond.codeWith_spec hcode
  cases Option.some.inj (hn8.symm.trans hnamed)
  cases hmethM.symm.trans hmethM'
  obtain ⟨c2, r2, m2, q1, q2, q3, q4, kP, hkP, hkPi⟩ := Cond.selects_spec hsel
  cases hcls.symm.trans q1
  cases (State.methodFound?_of_named hnamed hy).symm.trans q2
  cases hnamed.symm.trans q3
  have hselP : selectMethod e.platform s.vm cellB.cls mk = .method mk := by rw [Launch.admits_selectMethod X.admits]; exact q4
  obtain ⟨vm₁, X₁, hstep₁⟩ := X.invokevirtual hexec hown hlink hnamed hmethM hstM hkP hkPi hy (a := b) (cell := cellB) hcell
    (fun z h => by rw [h] at hobj; cases hobj) hselP hmethM habM hkP hkPi (g := g) hg (argsL := argsL) (rest := rest) (hlen _ hsigM) hstack hdg
  obtain ⟨v, B, X', hpost, hsteps⟩ := hK m meth c ⟨T.setVm vm₁, locs, cells, slots⟩ { g with stack := rest } (.invokevirtual index) mk (Value.ref b :: argsL).toArray X₁ hg hsize hdg hW (X₁.named hnamed) (hpre vm₁ X₁.warmed)
  exact ⟨v, vm₁, B, X₁.warmed, X', hpost, fun target h => hstep₁ _ fun acts => by rw [doInvoke_state]; exact hsteps.trans h⟩
abbrev vx_CVW (R : Room) (s : State) (args : Array Value) (own C : String) (index : Nat) (y : MethodName) (bytes : ByteArray) (maxL : Nat) (ret : Option FieldType) (hh : List (Nat × Nat × Nat × Nat)) (ws : List Cond) (rm : Room) (mc ms n : Nat) : Prop :=
  (rm.cells = mc ∧ rm.slots = ms ∧ rm.frames + 1 ≤ R.frames ∧ 8 + (maxL + 11) + rm.locals ≤ R.locals ∧ (∀ w ∈ ws, ∀ (a' : Array Value) (U : State), s.WarmedH U.vm → w.before a' U = true) ∧ Cond.codeWith y bytes maxL ret hh ∈ ws) ∧
  (Cond.codeWith y bytes maxL ret hh).before args s = true ∧ (Cond.initialized y.cls).before args s = true ∧ (y.cls ≠ "java/lang/invoke/MethodHandle" ∧ y.cls ≠ "java/lang/invoke/VarHandle") ∧
  (∀ sig, parseMethodDescriptor y.desc = some sig → n = sig.parameters.length) ∧ (Cond.methodLink own index y).before args s = true ∧ (Cond.instanceMethod y).before args s = true ∧ (Cond.selects C y y).before args s = true
theorem vx_cwVW {own C : String} {index maxL mc ms : Nat} {y : MethodName} {bytes : ByteArray} {ret : Option FieldType} {hh : List (Nat × Nat × Nat × Nat)} {Ts ws ws' : List Cond} {rm : Room} (n : Nat) (ht : ∀ w ∈ Ts, w.before args s = true) (hT : GoodIn Ts (wsV own index C y ws)) (hw : ws = Cond.codeWith y bytes maxL ret hh :: ws') (hrc : rm.cells = mc) (hrs : rm.slots = ms)
    (hd : y.cls = C ∧ y.cls ≠ "java/lang/invoke/MethodHandle" ∧ y.cls ≠ "java/lang/invoke/VarHandle" ∧ (parseMethodDescriptor y.desc).map (fun d => d.parameters.length) = some n) (hR : rm.frames + 1 ≤ R.frames ∧ 8 + (maxL + 11) + rm.locals ≤ R.locals) :
    vx_CVW R s args own C index y bytes maxL ret hh ws rm mc ms n := by
  obtain ⟨hC, hd⟩ := hd
  subst hC
  have ok : ∀ w ∈ wsV own index y.cls y ws, w.before args s = true := fun w h => ht w (hT w h).1
  have hG : GoodIn Ts ws := fun w h => hT w (by unfold wsV; exact List.mem_append_right _ h)
  have hc : Cond.codeWith y bytes maxL ret hh ∈ ws := by rw [hw]; exact List.mem_cons_self
  refine ⟨⟨hrc, hrs, hR.1, hR.2, pay_in ht hG, hc⟩, ht _ (hG _ hc).1, ok _ (by simp [wsV]), ⟨hd.1, hd.2.1⟩, fun sig h => ?_, ok _ (by simp [wsV]), ok _ (by simp [wsV]), ok _ (by simp [wsV])⟩
  have h2 := hd.2.2
  rw [h] at h2
  exact (Option.some.inj h2).symm
theorem vx_runVW {y : MethodName} {bytes cc : ByteArray} {maxL nL mc ms n index : Nat} {ret : Option FieldType} {hh : List (Nat × Nat × Nat × Nat)} {ws : List Cond} {rm : Room} {Pc : Array Value → State → Prop} {Qc : Array Value → State → Outcome → State → Prop} {free : Addr → Prop} {Ts : List Cond} {own C : String} {b : Addr} {As rest : List Value} {g : JFrame}
    (S : CallFix p m c cc nL s args Ts own) (hM : Met l y ws rm Pc Qc mc ms free) (cw : vx_CVW R s args own C index y bytes maxL ret hh ws rm mc ms n) (hp : PreV s H C b Pc As)
    (hg : g.method = m) (hn : As.length = n) (hsize : g.locals.size = nL) (hstack : g.stack = As.reverse ++ .ref b :: rest) (hW : 2 * g.monitorRoom + (rest.map fun v => v.category).sum ≤ 8) (hdg : decode cc g.pc = .ok (.invokevirtual index, 3)) (hf : cells + mc ≤ R.cells ∧ slots + ms ≤ R.slots) :
    va_Run p l e R s m args below meth c H locs cells slots mc ms g rest (Qc (Value.ref b :: As).toArray) free := by
  obtain ⟨⟨hrc, hrs, hfr, hlo, hws, hcw⟩, hcode, hini, hy, hlen, hl, hin, hse⟩ := cw
  have hK : Back l R p e below s args y 3 8 (PreOf R mc ms Pc) (PostOf Qc mc ms free) := va_backW (hh := hh) (bytes := bytes) (maxL := maxL) (ret := ret) hM hp.1 hrc hrs hfr hlo hws hcw (fun a' U hW => word_at hW (Or.inl (by first | rfl | simp [Cond.onTables, Cond.keeps, Cond.steady])) hini)
  obtain ⟨hx, hb, hml, ho, -⟩ := S
  obtain ⟨-, ⟨cellB, hcB, hoB, hclB⟩, hPc⟩ := hp
  intro T hT X
  obtain ⟨v, vm₁, ⟨U', l2, c2, s2⟩, hW₁, X', ⟨g', mk, t, L, e1, e2, hq, h1, hL, h2, h3⟩, st⟩ := vx_callVW X hx (C := C) (hh := hh) (bytes := bytes) (maxL := maxL) (ret := ret) ho hl hin hse hcode hy hK (by rw [hT]; exact hcB) hoB hclB hg (hsize.trans hml.symm) (argsL := As) (rest := rest) (fun sig h => hn.trans (hlen sig h)) hstack hW (by rw [hb]; exact hdg)
    (fun vm₁ hW₁ => ⟨hf.1, hf.2, hPc (T.setVm vm₁) hT hW₁⟩)
  dsimp only [Pt.U, Pt.locs, Pt.cells, Pt.slots] at X' e1 e2 h1 h2 h3 st
  subst h1; subst h2; subst h3
  exact ⟨v, (T.setVm vm₁).calling g' mk (Value.ref b :: As).toArray, t, U', L, hT, X', hL, e1, e2, hq, st⟩
section
variable {y : MethodName} {bytes cc : ByteArray} {maxL nL mc ms n index : Nat} {ret : Option FieldType} {ws : List Cond} {rm : Room} {Pc : Array Value → State → Prop} {Qc : Array Value → State → Outcome → State → Prop} {XC : String → State → State → Prop} {free : Addr → Prop} {Ts : List Cond} {own C : String} {b : Addr} {As rest : List Value} {g : JFrame}
theorem vx_runVX {hh : List (Nat × Nat × Nat × Nat)} (S : CallFix p m c cc nL s args Ts own) (hM : vx_Met l y ws rm Pc Qc XC mc ms free) (cw : vx_CVW R s args own C index y bytes maxL ret hh ws rm mc ms n) (hp : PreV s H C b Pc As)
    (hg : g.method = m) (hn : As.length = n) (hsize : g.locals.size = nL) (hstack : g.stack = As.reverse ++ .ref b :: rest) (hW : 2 * g.monitorRoom + (rest.map fun v => v.category).sum ≤ 8) (hdg : decode cc g.pc = .ok (.invokevirtual index, 3)) (hf : cells + mc ≤ R.cells ∧ slots + ms ≤ R.slots) :
    vx_Run p l e R s m args below meth c H locs cells slots mc ms g rest (Qc (Value.ref b :: As).toArray) XC free := by
  obtain ⟨⟨hrc, hrs, hfr, hlo, hws, hcw⟩, hcode, hini, hy, hlen, hl, hin, hse⟩ := cw
  have hK : vx_Back l R p e below s args y 3 8 (PreOf R mc ms Pc) (PostOf Qc mc ms free) (vx_Post XC mc ms free) := vx_backW (hh := hh) (bytes := bytes) (maxL := maxL) (ret := ret) hM hp.1 hrc hrs hfr hlo hws hcw (fun a' U hW => word_at hW (Or.inl (by first | rfl | simp [Cond.onTables, Cond.keeps, Cond.steady])) hini)
  obtain ⟨hx, hb, hml, ho, -⟩ := S
  obtain ⟨-, ⟨cellB, hcB, hoB, hclB⟩, hPc⟩ := hp
  intro T hT X
  rcases vx_callVX X hx (C := C) (hh := hh) (bytes := bytes) (maxL := maxL) (ret := ret) ho hl hin hse hcode hy hK (by rw [hT]; exact hcB) hoB hclB hg (hsize.trans hml.symm) (argsL := As) (rest := rest) (fun sig h => hn.trans (hlen sig h)) hstack hW (by rw [hb]; exact hdg)
    (fun vm₁ hW₁ => ⟨hf.1, hf.2, hPc (T.setVm vm₁) hT hW₁⟩) with ⟨v, vm₁, ⟨U', l2, c2, s2⟩, hW₁, X', ⟨g', mk, t, L, e1, e2, hq, h1, hL, h2, h3⟩, st⟩ | ⟨q, vm₁, ⟨U', l2, c2, s2⟩, hW₁, X', ⟨g', mk, t, L, E, ce, e1, e2, hq, hce, hcv, hcl, h1, hL, h2, h3⟩, st⟩
  · dsimp only [Pt.U, Pt.locs, Pt.cells, Pt.slots] at X' e1 e2 h1 h2 h3 st
    subst h1; subst h2; subst h3
    exact Or.inl ⟨v, (T.setVm vm₁).calling g' mk (Value.ref b :: As).toArray, t, U', L, hT, X', hL, e1, e2, hq, st⟩
  · dsimp only [Pt.U, Pt.locs, Pt.cells, Pt.slots] at X' e1 e2 h1 h2 h3 st hcl
    subst h1; subst h2; subst h3
    exact Or.inr ⟨q, (T.setVm vm₁).calling g' mk (Value.ref b :: As).toArray, t, U', L, E, ce, hT, X', hL, e1, e2, hq, hce, hcv, vx_cls hW₁ hcl, st⟩
theorem vx_runSX {hh : List (Nat × Nat × Nat × Nat)} (S : CallFix p m c cc nL s args Ts own) (hM : vx_Met l y ws rm Pc Qc XC mc ms free) (cw : vx_CSW R s args own index y bytes maxL ret hh ws rm mc ms n) (hp : PreS s H Pc As)
    (hg : g.method = m) (hn : As.length = n) (hsize : g.locals.size = nL) (hstack : g.stack = As.reverse ++ rest) (hW : 2 * g.monitorRoom + (rest.map fun v => v.category).sum ≤ 8) (hdg : decode cc g.pc = .ok (.invokestatic index, 3)) (hf : cells + mc ≤ R.cells ∧ slots + ms ≤ R.slots) :
    vx_Run p l e R s m args below meth c H locs cells slots mc ms g rest (Qc As.toArray) XC free := by
  obtain ⟨⟨hrc, hrs, hfr, hlo, hws, hcw⟩, hcode, hini, hy, hlen, hl, hstt⟩ := cw
  have hK : vx_Back l R p e below s args y 3 8 (PreOf R mc ms Pc) (PostOf Qc mc ms free) (vx_Post XC mc ms free) := vx_backW (hh := hh) (bytes := bytes) (maxL := maxL) (ret := ret) hM hp.1 hrc hrs hfr hlo hws hcw (fun a' U hW => word_at hW (Or.inl (by first | rfl | simp [Cond.onTables, Cond.keeps, Cond.steady])) hini)
  obtain ⟨hx, hb, hml, ho, -⟩ := S
  intro T hT X
  rcases vx_callSX X hx (hh := hh) (bytes := bytes) (maxL := maxL) (ret := ret) ho hl hstt hini hcode hy hK hg (hsize.trans hml.symm) (argsL := As) (rest := rest) (fun sig h => hn.trans (hlen sig h)) hstack hW (by rw [hb]; exact hdg)
    (fun vm₁ hW₁ => ⟨hf.1, hf.2, hp.2 (T.setVm vm₁) hT hW₁⟩) with ⟨v, vm₁, ⟨U', l2, c2, s2⟩, hW₁, X', ⟨g', mk, t, L, e1, e2, hq, h1, hL, h2, h3⟩, st⟩ | ⟨q, vm₁, ⟨U', l2, c2, s2⟩, hW₁, X', ⟨g', mk, t, L, E, ce, e1, e2, hq, hce, hcv, hcl, h1, hL, h2, h3⟩, st⟩
  · dsimp only [Pt.U, Pt.locs, Pt.cells, Pt.slots] at X' e1 e2 h1 h2 h3 st
    subst h1; subst h2; subst h3
    exact Or.inl ⟨v, (T.setVm vm₁).calling g' mk As.toArray, t, U', L, hT, X', hL, e1, e2, hq, st⟩
  · dsimp only [Pt.U, Pt.locs, Pt.cells, Pt.slots] at X' e1 e2 h1 h2 h3 st hcl
    subst h1; subst h2; subst h3
    exact Or.inr ⟨q, (T.setVm vm₁).calling g' mk As.toArray, t, U', L, E, ce, hT, X', hL, e1, e2, hq, hce, hcv, vx_cls hW₁ hcl, st⟩
end
end VXH
theorem vx_ofWH {l : Launch} {y : MethodName} {ws ws' : List Cond} {rm : Room} {Pc : Array Value → State → Prop} {Qc : Array Value → State → Outcome → State → Prop} {XC : String → State → State → Prop} {mc ms : Nat} {free : Addr → Prop} {cc : ByteArray} {maxL : Nat} {ret : Option FieldType} {hh : List (Nat × Nat × Nat × Nat)}
    (hy : plainName y.cls = true) (hw : ws = Cond.codeWith y cc maxL ret hh :: ws')
    (body : ∀ p e s m args below meth c s₁, BodyLoose p l y (headSpec ws rm) cc maxL ret e s m args below meth c s₁ → c.maxLocals = maxL → Pc args s →
      W p l e (headSpec ws rm).room s m args below meth c s.heap [] 0 0 (vx_MQ below Qc XC args s mc ms free) (entryFrame m args maxL)) : vx_Met l y ws rm Pc Qc XC mc ms free := by
  refine MetFree.of_bodyS (code := cc) (maxLocals := maxL) (ret := ret) hy ?_ ?_
  · intro args s m h hn
    obtain ⟨m9, meth, c, hn9, h1, h2, h3, h4, -, h5, h6, -⟩ := Cond.codeWith_spec (atoms_spec (ws := ws) h _ (by rw [hw]; exact List.mem_cons_self))
    cases hn.symm.trans hn9
    exact ⟨meth, c, h1, h2, h3, h4, h5, h6⟩
  · intro p e s m args below meth c s₁ B hml hP _
    have hh0 : s₁.heap = s.heap := by rw [B.state]; rfl
    obtain ⟨t, a1, o, b1, b2, b3⟩ := body p e s m args below meth c s₁ B hml hP s₁ hh0 (Stand.of_body B)
    exact ⟨t, o, a1, b1, b2, b3⟩
/-! ===== END ===== -/
end
section
/-! ===== BEGIN printed: names, fields, word lists, decode rows ===== -/
def RX0 : String := "OrielChart$Code"
def TX0 : u_T := fun k => match k with
  | 0 => ("OrielChart$Code", "kind", "[I", true)
  | 1 => ("OrielChart$Code", "target", "[I", true)
  | 2 => ("OrielChart$Code", "sets", "[I", true)
  | 3 => ("OrielChart$Code", "uses", "[I", true)
  | _ => ("OrielChart$Code", "count", "I", false)
def tyX0 : Nat → FieldType := fun k => match k with
  | 0 => .array .int
  | 1 => .array .int
  | 2 => .array .int
  | 3 => .array .int
  | _ => .int
abbrev wsX00 : List Cond := u_ws RX0 TX0 5
theorem nmX0 : ∀ a, a < 5 → ∀ b, b < 5 → a ≠ b → (TX0 a).2.1 ≠ (TX0 b).2.1 := by decide +kernel
theorem tyX0_ok : ∀ k, k < 5 → parseFieldDescriptor (TX0 k).2.2.1 = some (tyX0 k) := by decide +kernel
abbrev cX0_init : ByteArray := prog_2_method_1_code
def yX0_init : MethodName := ⟨RX0, "<init>", "()V"⟩
abbrev cX0_add : ByteArray := prog_2_method_2_code
def yX0_add : MethodName := ⟨RX0, "add", "(III)V"⟩
abbrev cX0_drop : ByteArray := prog_2_method_3_code
def yX0_drop : MethodName := ⟨RX0, "drop", "(I)V"⟩
abbrev cX0_shiftTargets : ByteArray := prog_2_method_4_code
def yX0_shiftTargets : MethodName := ⟨RX0, "shiftTargets", "(II)V"⟩
abbrev cX0_copy : ByteArray := prog_2_method_5_code
def yX0_copy : MethodName := ⟨RX0, "copy", "(II)V"⟩
def RX1 : String := "OrielChart$Flow"
def TX1 : u_T := fun k => match k with
  | 0 => ("OrielChart$Flow", "home", "[I", true)
  | 1 => ("OrielChart$Flow", "first", "[I", true)
  | 2 => ("OrielChart$Flow", "last", "[I", true)
  | 3 => ("OrielChart$Flow", "from", "[I", true)
  | 4 => ("OrielChart$Flow", "to", "[I", true)
  | 5 => ("OrielChart$Flow", "firstEdge", "[I", true)
  | 6 => ("OrielChart$Flow", "next", "[J", true)
  | 7 => ("OrielChart$Flow", "blockCount", "I", false)
  | 8 => ("OrielChart$Flow", "edgeCount", "I", false)
  | 9 => ("OrielChart$Flow", "reached", "J", false)
  | _ => ("OrielChart$Flow", "fresh", "Z", false)
def tyX1 : Nat → FieldType := fun k => match k with
  | 0 => .array .int
  | 1 => .array .int
  | 2 => .array .int
  | 3 => .array .int
  | 4 => .array .int
  | 5 => .array .int
  | 6 => .array .long
  | 7 => .int
  | 8 => .int
  | 9 => .long
  | _ => .boolean
abbrev wsX10 : List Cond := u_ws RX1 TX1 11
theorem nmX1 : ∀ a, a < 11 → ∀ b, b < 11 → a ≠ b → (TX1 a).2.1 ≠ (TX1 b).2.1 := by decide +kernel
theorem tyX1_ok : ∀ k, k < 11 → parseFieldDescriptor (TX1 k).2.2.1 = some (tyX1 k) := by decide +kernel
abbrev cX1_init : ByteArray := prog_3_method_1_code
def yX1_init : MethodName := ⟨RX1, "<init>", "()V"⟩
abbrev cX1_part : ByteArray := prog_3_method_2_code
def yX1_part : MethodName := ⟨RX1, "part", "(LOrielChart$Code;)V"⟩
abbrev cX1_leadersOf : ByteArray := prog_3_method_3_code
def yX1_leadersOf : MethodName := ⟨RX1, "leadersOf", "(LOrielChart$Code;)J"⟩
abbrev cX1_cut : ByteArray := prog_3_method_4_code
def yX1_cut : MethodName := ⟨RX1, "cut", "(IJ)V"⟩
abbrev cX1_leave : ByteArray := prog_3_method_5_code
def yX1_leave : MethodName := ⟨RX1, "leave", "(LOrielChart$Code;I)V"⟩
abbrev cX1_join : ByteArray := prog_3_method_6_code
def yX1_join : MethodName := ⟨RX1, "join", "(III)V"⟩
abbrev cX1_countWindings : ByteArray := prog_3_method_8_code
def yX1_countWindings : MethodName := ⟨RX1, "countWindings", "()I"⟩
def RX2 : String := "OrielChart$Lives"
def TX2 : u_T := fun k => match k with
  | 0 => ("OrielChart$Lives", "live", "[I", true)
  | 1 => ("OrielChart$Lives", "vainCount", "I", false)
  | _ => ("OrielChart$Lives", "fresh", "Z", false)
def tyX2 : Nat → FieldType := fun k => match k with
  | 0 => .array .int
  | 1 => .int
  | _ => .boolean
abbrev wsX20 : List Cond := u_ws RX2 TX2 3
theorem nmX2 : ∀ a, a < 3 → ∀ b, b < 3 → a ≠ b → (TX2 a).2.1 ≠ (TX2 b).2.1 := by decide +kernel
theorem tyX2_ok : ∀ k, k < 3 → parseFieldDescriptor (TX2 k).2.2.1 = some (tyX2 k) := by decide +kernel
abbrev cX2_init : ByteArray := prog_4_method_1_code
def yX2_init : MethodName := ⟨RX2, "<init>", "()V"⟩
abbrev cX2_follow : ByteArray := prog_4_method_2_code
def yX2_follow : MethodName := ⟨RX2, "follow", "(LOrielChart$Code;LOrielChart$Flow;)V"⟩
abbrev cX2_passUp : ByteArray := prog_4_method_3_code
def yX2_passUp : MethodName := ⟨RX2, "passUp", "(LOrielChart$Code;LOrielChart$Flow;)Z"⟩
abbrev cX2_vainIn : ByteArray := prog_4_method_4_code
def yX2_vainIn : MethodName := ⟨RX2, "vainIn", "(LOrielChart$Code;LOrielChart$Flow;I)I"⟩
abbrev cX2_behind : ByteArray := prog_4_method_5_code
def yX2_behind : MethodName := ⟨RX2, "behind", "(LOrielChart$Flow;I)I"⟩
abbrev cX2_ahead : ByteArray := prog_4_method_6_code
def yX2_ahead : MethodName := ⟨RX2, "ahead", "(LOrielChart$Code;II)I"⟩
def RX3 : String := "OrielChart$Picture"
def TX3 : u_T := fun k => match k with
  | 0 => ("OrielChart$Picture", "walk", "LOrielChart$Walk;", true)
  | 1 => ("OrielChart$Picture", "layer", "[I", true)
  | 2 => ("OrielChart$Picture", "start", "[I", true)
  | 3 => ("OrielChart$Picture", "firstBend", "[I", true)
  | 4 => ("OrielChart$Picture", "edgeOf", "[I", true)
  | 5 => ("OrielChart$Picture", "order", "[I", true)
  | 6 => ("OrielChart$Picture", "place", "[I", true)
  | 7 => ("OrielChart$Picture", "kept", "[I", true)
  | 8 => ("OrielChart$Picture", "sum", "[I", true)
  | 9 => ("OrielChart$Picture", "lines", "[I", true)
  | 10 => ("OrielChart$Picture", "above", "[I", true)
  | 11 => ("OrielChart$Picture", "below", "[I", true)
  | 12 => ("OrielChart$Picture", "edgeCount", "I", false)
  | 13 => ("OrielChart$Picture", "layerCount", "I", false)
  | 14 => ("OrielChart$Picture", "sweeps", "I", false)
  | _ => ("OrielChart$Picture", "fresh", "Z", false)
def tyX3 : Nat → FieldType := fun k => match k with
  | 0 => .object "OrielChart$Walk"
  | 1 => .array .int
  | 2 => .array .int
  | 3 => .array .int
  | 4 => .array .int
  | 5 => .array .int
  | 6 => .array .int
  | 7 => .array .int
  | 8 => .array .int
  | 9 => .array .int
  | 10 => .array .int
  | 11 => .array .int
  | 12 => .int
  | 13 => .int
  | 14 => .int
  | _ => .boolean
abbrev wsX30 : List Cond := u_ws RX3 TX3 16
theorem nmX3 : ∀ a, a < 16 → ∀ b, b < 16 → a ≠ b → (TX3 a).2.1 ≠ (TX3 b).2.1 := by decide +kernel
theorem tyX3_ok : ∀ k, k < 16 → parseFieldDescriptor (TX3 k).2.2.1 = some (tyX3 k) := by decide +kernel
abbrev cX3_init : ByteArray := prog_5_method_1_code
def yX3_init : MethodName := ⟨RX3, "<init>", "()V"⟩
abbrev cX3_draw : ByteArray := prog_5_method_2_code
def yX3_draw : MethodName := ⟨RX3, "draw", "(LOrielChart$Flow;)V"⟩
abbrev cX3_setLayers : ByteArray := prog_5_method_3_code
def yX3_setLayers : MethodName := ⟨RX3, "setLayers", "()V"⟩
abbrev cX3_pushDown : ByteArray := prog_5_method_4_code
def yX3_pushDown : MethodName := ⟨RX3, "pushDown", "()Z"⟩
abbrev cX3_top : ByteArray := prog_5_method_5_code
def yX3_top : MethodName := ⟨RX3, "top", "(I)I"⟩
abbrev cX3_bottom : ByteArray := prog_5_method_6_code
def yX3_bottom : MethodName := ⟨RX3, "bottom", "(I)I"⟩
abbrev cX3_numberBends : ByteArray := prog_5_method_7_code
def yX3_numberBends : MethodName := ⟨RX3, "numberBends", "()V"⟩
abbrev cX3_fill : ByteArray := prog_5_method_8_code
def yX3_fill : MethodName := ⟨RX3, "fill", "(II)I"⟩
abbrev cX3_putPoint : ByteArray := prog_5_method_9_code
def yX3_putPoint : MethodName := ⟨RX3, "putPoint", "(III)V"⟩
abbrev cX3_sizeOf : ByteArray := prog_5_method_10_code
def yX3_sizeOf : MethodName := ⟨RX3, "sizeOf", "(I)I"⟩
abbrev cX3_shownAt : ByteArray := prog_5_method_11_code
def yX3_shownAt : MethodName := ⟨RX3, "shownAt", "(II)I"⟩
abbrev cX3_placeOfBlock : ByteArray := prog_5_method_12_code
def yX3_placeOfBlock : MethodName := ⟨RX3, "placeOfBlock", "(I)I"⟩
abbrev cX3_bendCount : ByteArray := prog_5_method_13_code
def yX3_bendCount : MethodName := ⟨RX3, "bendCount", "(I)I"⟩
abbrev cX3_placeOfBend : ByteArray := prog_5_method_14_code
def yX3_placeOfBend : MethodName := ⟨RX3, "placeOfBend", "(II)I"⟩
abbrev cX3_meanSpan : ByteArray := prog_5_method_15_code
def yX3_meanSpan : MethodName := ⟨RX3, "meanSpan", "()D"⟩
abbrev cX3_pointOn : ByteArray := prog_5_method_16_code
def yX3_pointOn : MethodName := ⟨RX3, "pointOn", "(II)I"⟩
abbrev cX3_leaves : ByteArray := prog_5_method_17_code
def yX3_leaves : MethodName := ⟨RX3, "leaves", "(II)Z"⟩
abbrev cX3_countCrossings : ByteArray := prog_5_method_18_code
def yX3_countCrossings : MethodName := ⟨RX3, "countCrossings", "()I"⟩
abbrev cX3_crossingsUnder : ByteArray := prog_5_method_19_code
def yX3_crossingsUnder : MethodName := ⟨RX3, "crossingsUnder", "(I)I"⟩
abbrev cX3_sweepOften : ByteArray := prog_5_method_20_code
def yX3_sweepOften : MethodName := ⟨RX3, "sweepOften", "(I)V"⟩
abbrev cX3_tryOut : ByteArray := prog_5_method_21_code
def yX3_tryOut : MethodName := ⟨RX3, "tryOut", "(I)I"⟩
abbrev cX3_arrange : ByteArray := prog_5_method_22_code
def yX3_arrange : MethodName := ⟨RX3, "arrange", "(II)V"⟩
abbrev cX3_weigh : ByteArray := prog_5_method_23_code
def yX3_weigh : MethodName := ⟨RX3, "weigh", "(III)V"⟩
abbrev cX3_isAhead : ByteArray := prog_5_method_24_code
def yX3_isAhead : MethodName := ⟨RX3, "isAhead", "(II)Z"⟩
def RX4 : String := "OrielChart$Ranks"
def TX4 : u_T := fun k => match k with
  | 0 => ("OrielChart$Ranks", "ruled", "[J", true)
  | 1 => ("OrielChart$Ranks", "loop", "[J", true)
  | 2 => ("OrielChart$Ranks", "previous", "[J", true)
  | 3 => ("OrielChart$Ranks", "onward", "[J", true)
  | 4 => ("OrielChart$Ranks", "loopCount", "I", false)
  | 5 => ("OrielChart$Ranks", "tame", "Z", false)
  | _ => ("OrielChart$Ranks", "fresh", "Z", false)
def tyX4 : Nat → FieldType := fun k => match k with
  | 0 => .array .long
  | 1 => .array .long
  | 2 => .array .long
  | 3 => .array .long
  | 4 => .int
  | 5 => .boolean
  | _ => .boolean
abbrev wsX40 : List Cond := u_ws RX4 TX4 7
theorem nmX4 : ∀ a, a < 7 → ∀ b, b < 7 → a ≠ b → (TX4 a).2.1 ≠ (TX4 b).2.1 := by decide +kernel
theorem tyX4_ok : ∀ k, k < 7 → parseFieldDescriptor (TX4 k).2.2.1 = some (tyX4 k) := by decide +kernel
abbrev cX4_init : ByteArray := prog_6_method_1_code
def yX4_init : MethodName := ⟨RX4, "<init>", "()V"⟩
abbrev cX4_rank : ByteArray := prog_6_method_2_code
def yX4_rank : MethodName := ⟨RX4, "rank", "(LOrielChart$Flow;)V"⟩
abbrev cX4_ruledBy : ByteArray := prog_6_method_3_code
def yX4_ruledBy : MethodName := ⟨RX4, "ruledBy", "(LOrielChart$Flow;I)J"⟩
abbrev cX4_sortEdges : ByteArray := prog_6_method_4_code
def yX4_sortEdges : MethodName := ⟨RX4, "sortEdges", "(LOrielChart$Flow;)V"⟩
abbrev cX4_closeLoop : ByteArray := prog_6_method_5_code
def yX4_closeLoop : MethodName := ⟨RX4, "closeLoop", "(I)V"⟩
abbrev cX4_rules : ByteArray := prog_6_method_6_code
def yX4_rules : MethodName := ⟨RX4, "rules", "(II)Z"⟩
abbrev cX4_nearestAbove : ByteArray := prog_6_method_7_code
def yX4_nearestAbove : MethodName := ⟨RX4, "nearestAbove", "(I)I"⟩
abbrev cX4_goesBack : ByteArray := prog_6_method_8_code
def yX4_goesBack : MethodName := ⟨RX4, "goesBack", "(LOrielChart$Flow;I)Z"⟩
abbrev cX4_loopsAround : ByteArray := prog_6_method_9_code
def yX4_loopsAround : MethodName := ⟨RX4, "loopsAround", "(I)I"⟩
def RX5 : String := "OrielChart$Reduction"
def TX5 : u_T := fun k => match k with
  | 0 => ("OrielChart$Reduction", "next", "[J", true)
  | 1 => ("OrielChart$Reduction", "home", "[I", true)
  | 2 => ("OrielChart$Reduction", "rule", "[I", true)
  | 3 => ("OrielChart$Reduction", "node", "[I", true)
  | 4 => ("OrielChart$Reduction", "entry", "[I", true)
  | 5 => ("OrielChart$Reduction", "nodes", "J", false)
  | 6 => ("OrielChart$Reduction", "stepCount", "I", false)
  | _ => ("OrielChart$Reduction", "fresh", "Z", false)
def tyX5 : Nat → FieldType := fun k => match k with
  | 0 => .array .long
  | 1 => .array .int
  | 2 => .array .int
  | 3 => .array .int
  | 4 => .array .int
  | 5 => .long
  | 6 => .int
  | _ => .boolean
abbrev wsX50 : List Cond := u_ws RX5 TX5 8
theorem nmX5 : ∀ a, a < 8 → ∀ b, b < 8 → a ≠ b → (TX5 a).2.1 ≠ (TX5 b).2.1 := by decide +kernel
theorem tyX5_ok : ∀ k, k < 8 → parseFieldDescriptor (TX5 k).2.2.1 = some (tyX5 k) := by decide +kernel
abbrev cX5_init : ByteArray := prog_7_method_1_code
def yX5_init : MethodName := ⟨RX5, "<init>", "()V"⟩
abbrev cX5_reduce : ByteArray := prog_7_method_2_code
def yX5_reduce : MethodName := ⟨RX5, "reduce", "(LOrielChart$Flow;)V"⟩
abbrev cX5_takeStep : ByteArray := prog_7_method_3_code
def yX5_takeStep : MethodName := ⟨RX5, "takeStep", "()Z"⟩
abbrev cX5_findEntries : ByteArray := prog_7_method_4_code
def yX5_findEntries : MethodName := ⟨RX5, "findEntries", "()V"⟩
abbrev cX5_ruleFor : ByteArray := prog_7_method_5_code
def yX5_ruleFor : MethodName := ⟨RX5, "ruleFor", "(I)I"⟩
abbrev cX5_isSingle : ByteArray := prog_7_method_6_code
def yX5_isSingle : MethodName := ⟨RX5, "isSingle", "(III)Z"⟩
abbrev cX5_isDouble : ByteArray := prog_7_method_7_code
def yX5_isDouble : MethodName := ⟨RX5, "isDouble", "(III)Z"⟩
abbrev cX5_apply : ByteArray := prog_7_method_8_code
def yX5_apply : MethodName := ⟨RX5, "apply", "(II)V"⟩
abbrev cX5_merge : ByteArray := prog_7_method_9_code
def yX5_merge : MethodName := ⟨RX5, "merge", "(JIZ)V"⟩
def RX6 : String := "OrielChart$Walk"
def TX6 : u_T := fun k => match k with
  | 0 => ("OrielChart$Walk", "came", "[I", true)
  | 1 => ("OrielChart$Walk", "upper", "[I", true)
  | 2 => ("OrielChart$Walk", "lower", "[I", true)
  | 3 => ("OrielChart$Walk", "open", "[I", true)
  | 4 => ("OrielChart$Walk", "edge", "[I", true)
  | 5 => ("OrielChart$Walk", "cameCount", "I", false)
  | 6 => ("OrielChart$Walk", "openCount", "I", false)
  | 7 => ("OrielChart$Walk", "seen", "J", false)
  | _ => ("OrielChart$Walk", "stillGoing", "J", false)
def tyX6 : Nat → FieldType := fun k => match k with
  | 0 => .array .int
  | 1 => .array .int
  | 2 => .array .int
  | 3 => .array .int
  | 4 => .array .int
  | 5 => .int
  | 6 => .int
  | 7 => .long
  | _ => .long
abbrev wsX60 : List Cond := u_ws RX6 TX6 9
theorem nmX6 : ∀ a, a < 9 → ∀ b, b < 9 → a ≠ b → (TX6 a).2.1 ≠ (TX6 b).2.1 := by decide +kernel
theorem tyX6_ok : ∀ k, k < 9 → parseFieldDescriptor (TX6 k).2.2.1 = some (tyX6 k) := by decide +kernel
abbrev cX6_init : ByteArray := prog_8_method_1_code
def yX6_init : MethodName := ⟨RX6, "<init>", "()V"⟩
abbrev cX6_goThrough : ByteArray := prog_8_method_2_code
def yX6_goThrough : MethodName := ⟨RX6, "goThrough", "(LOrielChart$Flow;)V"⟩
abbrev cX6_enter : ByteArray := prog_8_method_3_code
def yX6_enter : MethodName := ⟨RX6, "enter", "(LOrielChart$Flow;I)V"⟩
abbrev cX6_goOn : ByteArray := prog_8_method_4_code
def yX6_goOn : MethodName := ⟨RX6, "goOn", "(LOrielChart$Flow;I)V"⟩
abbrev cX6_draws : ByteArray := prog_8_method_5_code
def yX6_draws : MethodName := ⟨RX6, "draws", "(I)Z"⟩
abbrev cX6_turns : ByteArray := prog_8_method_6_code
def yX6_turns : MethodName := ⟨RX6, "turns", "(LOrielChart$Flow;I)Z"⟩
def RX7 : String := "OrielChart"
def TX7 : u_T := fun k => match k with
  | 0 => ("OrielChart", "code", "LOrielChart$Code;", true)
  | 1 => ("OrielChart", "flow", "LOrielChart$Flow;", true)
  | 2 => ("OrielChart", "ranks", "LOrielChart$Ranks;", true)
  | 3 => ("OrielChart", "lives", "LOrielChart$Lives;", true)
  | 4 => ("OrielChart", "reduction", "LOrielChart$Reduction;", true)
  | _ => ("OrielChart", "picture", "LOrielChart$Picture;", true)
def tyX7 : Nat → FieldType := fun k => match k with
  | 0 => .object "OrielChart$Code"
  | 1 => .object "OrielChart$Flow"
  | 2 => .object "OrielChart$Ranks"
  | 3 => .object "OrielChart$Lives"
  | 4 => .object "OrielChart$Reduction"
  | _ => .object "OrielChart$Picture"
abbrev wsX70 : List Cond := u_ws RX7 TX7 6
theorem nmX7 : ∀ a, a < 6 → ∀ b, b < 6 → a ≠ b → (TX7 a).2.1 ≠ (TX7 b).2.1 := by decide +kernel
theorem tyX7_ok : ∀ k, k < 6 → parseFieldDescriptor (TX7 k).2.2.1 = some (tyX7 k) := by decide +kernel
abbrev cX7_init : ByteArray := prog_1_method_1_code
def yX7_init : MethodName := ⟨RX7, "<init>", "()V"⟩
abbrev cX7_insert : ByteArray := prog_1_method_2_code
def yX7_insert : MethodName := ⟨RX7, "insert", "(III)I"⟩
abbrev cX7_remove : ByteArray := prog_1_method_3_code
def yX7_remove : MethodName := ⟨RX7, "remove", "(I)I"⟩
abbrev cX7_setTarget : ByteArray := prog_1_method_4_code
def yX7_setTarget : MethodName := ⟨RX7, "setTarget", "(II)I"⟩
abbrev cX7_setUse : ByteArray := prog_1_method_5_code
def yX7_setUse : MethodName := ⟨RX7, "setUse", "(III)I"⟩
abbrev cX7_instructions : ByteArray := prog_1_method_6_code
def yX7_instructions : MethodName := ⟨RX7, "instructions", "()I"⟩
abbrev cX7_targetOf : ByteArray := prog_1_method_8_code
def yX7_targetOf : MethodName := ⟨RX7, "targetOf", "(I)I"⟩
abbrev cX7_blocks : ByteArray := prog_1_method_9_code
def yX7_blocks : MethodName := ⟨RX7, "blocks", "()I"⟩
abbrev cX7_blockOf : ByteArray := prog_1_method_10_code
def yX7_blockOf : MethodName := ⟨RX7, "blockOf", "(I)I"⟩
abbrev cX7_firstOf : ByteArray := prog_1_method_11_code
def yX7_firstOf : MethodName := ⟨RX7, "firstOf", "(I)I"⟩
abbrev cX7_isReached : ByteArray := prog_1_method_12_code
def yX7_isReached : MethodName := ⟨RX7, "isReached", "(I)Z"⟩
abbrev cX7_edges : ByteArray := prog_1_method_13_code
def yX7_edges : MethodName := ⟨RX7, "edges", "()I"⟩
abbrev cX7_edgeFrom : ByteArray := prog_1_method_14_code
def yX7_edgeFrom : MethodName := ⟨RX7, "edgeFrom", "(I)I"⟩
abbrev cX7_edgeTo : ByteArray := prog_1_method_15_code
def yX7_edgeTo : MethodName := ⟨RX7, "edgeTo", "(I)I"⟩
abbrev cX7_dominates : ByteArray := prog_1_method_16_code
def yX7_dominates : MethodName := ⟨RX7, "dominates", "(II)Z"⟩
abbrev cX7_parentOf : ByteArray := prog_1_method_17_code
def yX7_parentOf : MethodName := ⟨RX7, "parentOf", "(I)I"⟩
abbrev cX7_isBack : ByteArray := prog_1_method_19_code
def yX7_isBack : MethodName := ⟨RX7, "isBack", "(I)Z"⟩
abbrev cX7_loops : ByteArray := prog_1_method_20_code
def yX7_loops : MethodName := ⟨RX7, "loops", "()I"⟩
abbrev cX7_loopSize : ByteArray := prog_1_method_21_code
def yX7_loopSize : MethodName := ⟨RX7, "loopSize", "(I)I"⟩
abbrev cX7_depthOf : ByteArray := prog_1_method_22_code
def yX7_depthOf : MethodName := ⟨RX7, "depthOf", "(I)I"⟩
abbrev cX7_liveIn : ByteArray := prog_1_method_24_code
def yX7_liveIn : MethodName := ⟨RX7, "liveIn", "(I)I"⟩
abbrev cX7_windings : ByteArray := prog_1_method_26_code
def yX7_windings : MethodName := ⟨RX7, "windings", "()I"⟩
abbrev cX7_steps : ByteArray := prog_1_method_27_code
def yX7_steps : MethodName := ⟨RX7, "steps", "()I"⟩
abbrev cX7_left : ByteArray := prog_1_method_30_code
def yX7_left : MethodName := ⟨RX7, "left", "()I"⟩
abbrev cX7_isNeat : ByteArray := prog_1_method_31_code
def yX7_isNeat : MethodName := ⟨RX7, "isNeat", "()Z"⟩
abbrev cX7_endsIn : ByteArray := prog_1_method_32_code
def yX7_endsIn : MethodName := ⟨RX7, "endsIn", "(I)I"⟩
abbrev cX7_layers : ByteArray := prog_1_method_33_code
def yX7_layers : MethodName := ⟨RX7, "layers", "()I"⟩
abbrev cX7_layerOf : ByteArray := prog_1_method_34_code
def yX7_layerOf : MethodName := ⟨RX7, "layerOf", "(I)I"⟩
abbrev cX7_isTurned : ByteArray := prog_1_method_35_code
def yX7_isTurned : MethodName := ⟨RX7, "isTurned", "(I)Z"⟩
abbrev cX7_points : ByteArray := prog_1_method_36_code
def yX7_points : MethodName := ⟨RX7, "points", "(I)I"⟩
abbrev cX7_pointAt : ByteArray := prog_1_method_37_code
def yX7_pointAt : MethodName := ⟨RX7, "pointAt", "(II)I"⟩
abbrev cX7_placeOf : ByteArray := prog_1_method_38_code
def yX7_placeOf : MethodName := ⟨RX7, "placeOf", "(I)I"⟩
abbrev cX7_bends : ByteArray := prog_1_method_39_code
def yX7_bends : MethodName := ⟨RX7, "bends", "(I)I"⟩
abbrev cX7_bendAt : ByteArray := prog_1_method_40_code
def yX7_bendAt : MethodName := ⟨RX7, "bendAt", "(II)I"⟩
abbrev cX7_crossings : ByteArray := prog_1_method_41_code
def yX7_crossings : MethodName := ⟨RX7, "crossings", "()I"⟩
abbrev cX7_sweep : ByteArray := prog_1_method_42_code
def yX7_sweep : MethodName := ⟨RX7, "sweep", "(I)I"⟩
abbrev cX7_wouldCross : ByteArray := prog_1_method_43_code
def yX7_wouldCross : MethodName := ⟨RX7, "wouldCross", "(I)I"⟩
abbrev cX7_swept : ByteArray := prog_1_method_44_code
def yX7_swept : MethodName := ⟨RX7, "swept", "()I"⟩
abbrev cX7_meanLength : ByteArray := prog_1_method_45_code
def yX7_meanLength : MethodName := ⟨RX7, "meanLength", "()D"⟩
abbrev cX7_digest : ByteArray := prog_1_method_46_code
def yX7_digest : MethodName := ⟨RX7, "digest", "()J"⟩
abbrev cX7_digestOfCode : ByteArray := prog_1_method_47_code
def yX7_digestOfCode : MethodName := ⟨RX7, "digestOfCode", "(J)J"⟩
abbrev cX7_digestOfBlocks : ByteArray := prog_1_method_48_code
def yX7_digestOfBlocks : MethodName := ⟨RX7, "digestOfBlocks", "(J)J"⟩
abbrev cX7_digestOfEdges : ByteArray := prog_1_method_49_code
def yX7_digestOfEdges : MethodName := ⟨RX7, "digestOfEdges", "(J)J"⟩
abbrev cX7_digestOfSteps : ByteArray := prog_1_method_50_code
def yX7_digestOfSteps : MethodName := ⟨RX7, "digestOfSteps", "(J)J"⟩
abbrev cX7_digestOfLayers : ByteArray := prog_1_method_51_code
def yX7_digestOfLayers : MethodName := ⟨RX7, "digestOfLayers", "(J)J"⟩
abbrev cX7_needInstruction : ByteArray := prog_1_method_52_code
def yX7_needInstruction : MethodName := ⟨RX7, "needInstruction", "(I)V"⟩
abbrev cX7_needBlock : ByteArray := prog_1_method_53_code
def yX7_needBlock : MethodName := ⟨RX7, "needBlock", "(I)V"⟩
abbrev cX7_needEdge : ByteArray := prog_1_method_54_code
def yX7_needEdge : MethodName := ⟨RX7, "needEdge", "(I)V"⟩
abbrev cX7_needLayer : ByteArray := prog_1_method_56_code
def yX7_needLayer : MethodName := ⟨RX7, "needLayer", "(I)V"⟩
abbrev cX7_needSweeps : ByteArray := prog_1_method_57_code
def yX7_needSweeps : MethodName := ⟨RX7, "needSweeps", "(I)V"⟩
abbrev cX7_isTarget : ByteArray := prog_1_method_58_code
def yX7_isTarget : MethodName := ⟨RX7, "isTarget", "(I)Z"⟩
abbrev cX7_forget : ByteArray := prog_1_method_59_code
def yX7_forget : MethodName := ⟨RX7, "forget", "()V"⟩
abbrev cX7_freshFlow : ByteArray := prog_1_method_60_code
def yX7_freshFlow : MethodName := ⟨RX7, "freshFlow", "()LOrielChart$Flow;"⟩
abbrev cX7_freshRanks : ByteArray := prog_1_method_61_code
def yX7_freshRanks : MethodName := ⟨RX7, "freshRanks", "()LOrielChart$Ranks;"⟩
abbrev cX7_freshLives : ByteArray := prog_1_method_62_code
def yX7_freshLives : MethodName := ⟨RX7, "freshLives", "()LOrielChart$Lives;"⟩
abbrev cX7_freshReduction : ByteArray := prog_1_method_63_code
def yX7_freshReduction : MethodName := ⟨RX7, "freshReduction", "()LOrielChart$Reduction;"⟩
abbrev cX7_freshPicture : ByteArray := prog_1_method_64_code
def yX7_freshPicture : MethodName := ⟨RX7, "freshPicture", "()LOrielChart$Picture;"⟩
abbrev cX7_at : ByteArray := prog_1_method_65_code
def yX7_at : MethodName := ⟨RX7, "at", "([II)I"⟩
abbrev cX7_at_ : ByteArray := prog_1_method_66_code
def yX7_at_ : MethodName := ⟨RX7, "at", "([JI)J"⟩
abbrev cX7_put : ByteArray := prog_1_method_67_code
def yX7_put : MethodName := ⟨RX7, "put", "([III)V"⟩
abbrev cX7_put_ : ByteArray := prog_1_method_68_code
def yX7_put_ : MethodName := ⟨RX7, "put", "([JIJ)V"⟩
abbrev cX7_bit : ByteArray := prog_1_method_69_code
def yX7_bit : MethodName := ⟨RX7, "bit", "(I)J"⟩
abbrev cX7_has : ByteArray := prog_1_method_70_code
def yX7_has : MethodName := ⟨RX7, "has", "(JI)Z"⟩
abbrev cX7_lowest : ByteArray := prog_1_method_71_code
def yX7_lowest : MethodName := ⟨RX7, "lowest", "(J)I"⟩
abbrev cX7_spread : ByteArray := prog_1_method_72_code
def yX7_spread : MethodName := ⟨RX7, "spread", "([JJJ)J"⟩
abbrev cX7_jumps : ByteArray := prog_1_method_73_code
def yX7_jumps : MethodName := ⟨RX7, "jumps", "(I)Z"⟩
abbrev cX7_mix : ByteArray := prog_1_method_74_code
def yX7_mix : MethodName := ⟨RX7, "mix", "(JI)J"⟩
abbrev cX7_mix_ : ByteArray := prog_1_method_75_code
def yX7_mix_ : MethodName := ⟨RX7, "mix", "(JZ)J"⟩
def RX8 : String := "OrielChartModel"
def TX8 : u_T := fun k => match k with
  | _ => ("", "", "", false)
def tyX8 : Nat → FieldType := fun k => match k with
  | _ => .int
abbrev wsX80 : List Cond := u_ws RX8 TX8 0
theorem nmX8 : ∀ a, a < 0 → ∀ b, b < 0 → a ≠ b → (TX8 a).2.1 ≠ (TX8 b).2.1 := by decide +kernel
theorem tyX8_ok : ∀ k, k < 0 → parseFieldDescriptor (TX8 k).2.2.1 = some (tyX8 k) := by decide +kernel
def RJx145de : String := "java/io/Serializable"
def TJx145de : u_T := fun k => match k with
  | _ => ("", "", "", false)
def tyJx145de : Nat → FieldType := fun k => match k with
  | _ => .int
abbrev wsJx145de0 : List Cond := u_ws RJx145de TJx145de 0
theorem nmJx145de : ∀ a, a < 0 → ∀ b, b < 0 → a ≠ b → (TJx145de a).2.1 ≠ (TJx145de b).2.1 := by decide +kernel
theorem tyJx145de_ok : ∀ k, k < 0 → parseFieldDescriptor (TJx145de k).2.2.1 = some (tyJx145de k) := by decide +kernel
def RJ13 : String := "java/lang/Long"
def TJ13 : u_T := fun k => match k with
  | _ => ("", "", "", false)
def tyJ13 : Nat → FieldType := fun k => match k with
  | _ => .int
abbrev wsJ130 : List Cond := u_ws RJ13 TJ13 0
theorem nmJ13 : ∀ a, a < 0 → ∀ b, b < 0 → a ≠ b → (TJ13 a).2.1 ≠ (TJ13 b).2.1 := by decide +kernel
theorem tyJ13_ok : ∀ k, k < 0 → parseFieldDescriptor (TJ13 k).2.2.1 = some (tyJ13 k) := by decide +kernel
abbrev cJ13_bitCount_95d88 : ByteArray := prog_15_method_50_code
def yJ13_bitCount_95d88 : MethodName := ⟨RJ13, "bitCount", "(J)I"⟩
def RJ9 : String := "java/lang/Math"
def TJ9 : u_T := fun k => match k with
  | _ => ("", "", "", false)
def tyJ9 : Nat → FieldType := fun k => match k with
  | _ => .int
abbrev wsJ90 : List Cond := u_ws RJ9 TJ9 0
theorem nmJ9 : ∀ a, a < 0 → ∀ b, b < 0 → a ≠ b → (TJ9 a).2.1 ≠ (TJ9 b).2.1 := by decide +kernel
theorem tyJ9_ok : ∀ k, k < 0 → parseFieldDescriptor (TJ9 k).2.2.1 = some (tyJ9 k) := by decide +kernel
abbrev cJ9_max_7cf53 : ByteArray := prog_16_method_65_code
def yJ9_max_7cf53 : MethodName := ⟨RJ9, "max", "(II)I"⟩
abbrev cJ9_min_7cf53 : ByteArray := prog_16_method_69_code
def yJ9_min_7cf53 : MethodName := ⟨RJ9, "min", "(II)I"⟩
def RJ0 : String := "java/lang/String"
def TJ0 : u_T := fun k => match k with
  | _ => ("", "", "", false)
def tyJ0 : Nat → FieldType := fun k => match k with
  | _ => .int
abbrev wsJ00 : List Cond := u_ws RJ0 TJ0 0
theorem nmJ0 : ∀ a, a < 0 → ∀ b, b < 0 → a ≠ b → (TJ0 a).2.1 ≠ (TJ0 b).2.1 := by decide +kernel
theorem tyJ0_ok : ∀ k, k < 0 → parseFieldDescriptor (TJ0 k).2.2.1 = some (tyJ0 k) := by decide +kernel
def RL : String := "OrielChartLaw"
abbrev cL_below : ByteArray := method_2_code
def yL_below : MethodName := ⟨RL, "below", "(II)I"⟩
abbrev cL_cell : ByteArray := method_3_code
def yL_cell : MethodName := ⟨RL, "cell", "([II)I"⟩
abbrev cL_law : ByteArray := code
def yL_law : MethodName := ⟨RL, "law", "([I)Z"⟩
abbrev cL_act : ByteArray := method_5_code
def yL_act : MethodName := ⟨RL, "act", "(LOrielChart;I)Z"⟩
abbrev cL_areBlocksRight : ByteArray := method_6_code
def yL_areBlocksRight : MethodName := ⟨RL, "areBlocksRight", "(LOrielChart;)Z"⟩
abbrev cL_isDrawn : ByteArray := method_7_code
def yL_isDrawn : MethodName := ⟨RL, "isDrawn", "(LOrielChart;)Z"⟩
abbrev vwCl : List vw_C := [(RX0, TX0, 5), (RX1, TX1, 11), (RX2, TX2, 3), (RX3, TX3, 16), (RX4, TX4, 7), (RX5, TX5, 8), (RX6, TX6, 9), (RX7, TX7, 6)]
end
section
theorem inT1 : ∀ w ∈ tables_1_1, w ∈ lw_tbl := fun w h => List.mem_append_right _ (List.mem_append_left _ h)
theorem inT2 : ∀ w ∈ tables_1_2, w ∈ lw_tbl := fun w h => List.mem_append_right _ (List.mem_append_right _ (List.mem_append_left _ h))
theorem inT3 : ∀ w ∈ tables_1_3, w ∈ lw_tbl := fun w h => List.mem_append_right _ (List.mem_append_right _ (List.mem_append_right _ (List.mem_append_left _ h)))
theorem inT4 : ∀ w ∈ tables_1_4, w ∈ lw_tbl := fun w h => List.mem_append_right _ (List.mem_append_right _ (List.mem_append_right _ (List.mem_append_right _ (List.mem_append_left _ h))))
theorem inT5 : ∀ w ∈ tables_1_5, w ∈ lw_tbl := fun w h => List.mem_append_right _ (List.mem_append_right _ (List.mem_append_right _ (List.mem_append_right _ (List.mem_append_right _ (h)))))
theorem inTp {q : MethodName × Nat} (h : q ∈ lw_privs) : Cond.selects q.1.cls q.1 q.1 ∈ lw_tbl := List.mem_append_left _ (List.mem_map.mpr ⟨q, h, rfl⟩)
def NLm : List Cond := [Cond.methodLinkNest RX7 9 yX0_init "OrielChart", Cond.fieldLinkNest RX1 77 "OrielChart$Code" "kind" "[I" "OrielChart", Cond.fieldLinkNest RX7 92 "OrielChart$Code" "kind" "[I" "OrielChart", Cond.fieldLinkNest RX1 88 "OrielChart$Code" "target" "[I" "OrielChart", Cond.fieldLinkNest RX7 102 "OrielChart$Code" "target" "[I" "OrielChart", Cond.fieldLinkNest RX2 62 "OrielChart$Code" "sets" "[I" "OrielChart", Cond.fieldLinkNest RX7 116 "OrielChart$Code" "sets" "[I" "OrielChart", Cond.fieldLinkNest RX7 113 "OrielChart$Code" "uses" "[I" "OrielChart", Cond.fieldLinkNest RX2 74 "OrielChart$Code" "uses" "[I" "OrielChart", Cond.fieldLinkNest RX1 34 "OrielChart$Code" "count" "I" "OrielChart", Cond.fieldLinkNest RX7 51 "OrielChart$Code" "count" "I" "OrielChart", Cond.methodLinkNest RX7 18 yX1_init "OrielChart", Cond.fieldLinkNest RX7 130 "OrielChart$Flow" "home" "[I" "OrielChart", Cond.fieldLinkNest RX2 55 "OrielChart$Flow" "first" "[I" "OrielChart", Cond.fieldLinkNest RX7 136 "OrielChart$Flow" "first" "[I" "OrielChart", Cond.fieldLinkNest RX2 48 "OrielChart$Flow" "last" "[I" "OrielChart", Cond.fieldLinkNest RX4 81 "OrielChart$Flow" "from" "[I" "OrielChart", Cond.fieldLinkNest RX7 153 "OrielChart$Flow" "from" "[I" "OrielChart", Cond.fieldLinkNest RX4 88 "OrielChart$Flow" "to" "[I" "OrielChart", Cond.fieldLinkNest RX6 70 "OrielChart$Flow" "to" "[I" "OrielChart", Cond.fieldLinkNest RX7 156 "OrielChart$Flow" "to" "[I" "OrielChart", Cond.fieldLinkNest RX6 61 "OrielChart$Flow" "firstEdge" "[I" "OrielChart", Cond.fieldLinkNest RX5 45 "OrielChart$Flow" "next" "[J" "OrielChart", Cond.fieldLinkNest RX4 69 "OrielChart$Flow" "next" "[J" "OrielChart", Cond.fieldLinkNest RX2 67 "OrielChart$Flow" "next" "[J" "OrielChart", Cond.fieldLinkNest RX6 45 "OrielChart$Flow" "blockCount" "I" "OrielChart", Cond.fieldLinkNest RX2 27 "OrielChart$Flow" "blockCount" "I" "OrielChart", Cond.fieldLinkNest RX4 54 "OrielChart$Flow" "blockCount" "I" "OrielChart", Cond.fieldLinkNest RX7 127 "OrielChart$Flow" "blockCount" "I" "OrielChart", Cond.fieldLinkNest RX3 52 "OrielChart$Flow" "edgeCount" "I" "OrielChart", Cond.fieldLinkNest RX4 78 "OrielChart$Flow" "edgeCount" "I" "OrielChart", Cond.fieldLinkNest RX7 147 "OrielChart$Flow" "edgeCount" "I" "OrielChart", Cond.fieldLinkNest RX5 28 "OrielChart$Flow" "reached" "J" "OrielChart", Cond.fieldLinkNest RX4 24 "OrielChart$Flow" "reached" "J" "OrielChart", Cond.fieldLinkNest RX2 32 "OrielChart$Flow" "reached" "J" "OrielChart", Cond.fieldLinkNest RX7 139 "OrielChart$Flow" "reached" "J" "OrielChart", Cond.fieldLinkNest RX7 333 "OrielChart$Flow" "fresh" "Z" "OrielChart", Cond.methodLinkNest RX7 25 yX4_init "OrielChart", Cond.fieldLinkNest RX7 181 "OrielChart$Ranks" "loop" "[J" "OrielChart", Cond.fieldLinkNest RX7 178 "OrielChart$Ranks" "loopCount" "I" "OrielChart", Cond.fieldLinkNest RX7 197 "OrielChart$Ranks" "tame" "Z" "OrielChart", Cond.fieldLinkNest RX7 334 "OrielChart$Ranks" "fresh" "Z" "OrielChart", Cond.methodLinkNest RX7 32 yX2_init "OrielChart", Cond.fieldLinkNest RX7 204 "OrielChart$Lives" "live" "[I" "OrielChart", Cond.fieldLinkNest RX7 207 "OrielChart$Lives" "vainCount" "I" "OrielChart", Cond.fieldLinkNest RX7 119 "OrielChart$Lives" "fresh" "Z" "OrielChart", Cond.methodLinkNest RX7 39 yX5_init "OrielChart", Cond.fieldLinkNest RX7 233 "OrielChart$Reduction" "home" "[I" "OrielChart", Cond.fieldLinkNest RX7 224 "OrielChart$Reduction" "rule" "[I" "OrielChart", Cond.fieldLinkNest RX7 227 "OrielChart$Reduction" "node" "[I" "OrielChart", Cond.fieldLinkNest RX7 230 "OrielChart$Reduction" "nodes" "J" "OrielChart", Cond.fieldLinkNest RX7 218 "OrielChart$Reduction" "stepCount" "I" "OrielChart", Cond.fieldLinkNest RX7 335 "OrielChart$Reduction" "fresh" "Z" "OrielChart", Cond.methodLinkNest RX7 46 yX3_init "OrielChart", Cond.methodLinkNest RX3 11 yX6_init "OrielChart", Cond.fieldLinkNest RX3 124 "OrielChart$Walk" "came" "[I" "OrielChart", Cond.fieldLinkNest RX3 115 "OrielChart$Walk" "upper" "[I" "OrielChart", Cond.fieldLinkNest RX3 108 "OrielChart$Walk" "lower" "[I" "OrielChart", Cond.fieldLinkNest RX3 121 "OrielChart$Walk" "cameCount" "I" "OrielChart", Cond.fieldLinkNest RX3 83 "OrielChart$Walk" "seen" "J" "OrielChart", Cond.fieldLinkNest RX7 244 "OrielChart$Picture" "walk" "LOrielChart$Walk;" "OrielChart", Cond.fieldLinkNest RX7 241 "OrielChart$Picture" "layer" "[I" "OrielChart", Cond.fieldLinkNest RX7 238 "OrielChart$Picture" "layerCount" "I" "OrielChart", Cond.fieldLinkNest RX7 289 "OrielChart$Picture" "sweeps" "I" "OrielChart", Cond.fieldLinkNest RX7 336 "OrielChart$Picture" "fresh" "Z" "OrielChart", Cond.methodLinkNest RX1 80 yX7_at "OrielChart", Cond.methodLinkNest RX1 65 yX7_bit "OrielChart", Cond.methodLinkNest RX1 84 yX7_jumps "OrielChart", Cond.methodLinkNest RX1 91 yX7_has "OrielChart", Cond.methodLinkNest RX1 54 yX7_put "OrielChart", Cond.methodLinkNest RX1 58 yX7_put_ "OrielChart", Cond.methodLinkNest RX1 99 yX7_at_ "OrielChart", Cond.methodLinkNest RX1 69 yX7_spread "OrielChart", Cond.methodLinkNest RX4 30 yX7_has "OrielChart", Cond.methodLinkNest RX4 72 yX7_bit "OrielChart", Cond.methodLinkNest RX4 65 yX7_spread "OrielChart", Cond.methodLinkNest RX4 38 yX7_put_ "OrielChart", Cond.methodLinkNest RX4 85 yX7_at "OrielChart", Cond.methodLinkNest RX4 61 yX7_at_ "OrielChart", Cond.methodLinkNest RX2 15 yX7_put "OrielChart", Cond.methodLinkNest RX2 36 yX7_has "OrielChart", Cond.methodLinkNest RX2 71 yX7_at_ "OrielChart", Cond.methodLinkNest RX2 51 yX7_at "OrielChart", Cond.methodLinkNest RX5 41 yX7_has "OrielChart", Cond.methodLinkNest RX5 46 yX7_at_ "OrielChart", Cond.methodLinkNest RX5 50 yX7_put_ "OrielChart", Cond.methodLinkNest RX5 54 yX7_put "OrielChart", Cond.methodLinkNest RX5 72 yX7_bit "OrielChart", Cond.methodLinkNest RX5 84 yX7_lowest "OrielChart", Cond.methodLinkNest RX5 87 yX7_at "OrielChart", Cond.methodLinkNest RX6 41 yX7_put "OrielChart", Cond.methodLinkNest RX6 54 yX7_at "OrielChart", Cond.methodLinkNest RX6 64 yX7_bit "OrielChart", Cond.methodLinkNest RX6 73 yX7_has "OrielChart", Cond.methodLinkNest RX3 87 yX7_has "OrielChart", Cond.methodLinkNest RX3 75 yX7_put "OrielChart", Cond.methodLinkNest RX3 95 yX7_at "OrielChart", Cond.methodLinkNest RX0 39 yX7_at "OrielChart", Cond.methodLinkNest RX0 35 yX7_put "OrielChart", Cond.castable "java/lang/IllegalArgumentException" "java/lang/IllegalArgumentException", Cond.declares ⟨"java/lang/RuntimeException", "<init>", "()V"⟩, Cond.declares ⟨"java/lang/RuntimeException", "<init>", "(Ljava/lang/String;)V"⟩, Cond.declares ⟨"java/lang/Exception", "<init>", "()V"⟩, Cond.declares ⟨"java/lang/Exception", "<init>", "(Ljava/lang/String;)V"⟩, Cond.declares ⟨"java/lang/Throwable", "<init>", "()V"⟩, Cond.declares ⟨"java/lang/Throwable", "<init>", "(Ljava/lang/String;)V"⟩, Cond.castable "java/lang/IllegalStateException" "java/lang/IllegalStateException", Cond.castable "java/lang/IndexOutOfBoundsException" "java/lang/IndexOutOfBoundsException"]
theorem nw_0 : Cond.methodLinkNest RX7 9 yX0_init "OrielChart" ∈ NLm := List.mem_of_getElem? (i := 0) rfl
theorem nw_1 : Cond.fieldLinkNest RX1 77 "OrielChart$Code" "kind" "[I" "OrielChart" ∈ NLm := List.mem_of_getElem? (i := 1) rfl
theorem nw_2 : Cond.fieldLinkNest RX7 92 "OrielChart$Code" "kind" "[I" "OrielChart" ∈ NLm := List.mem_of_getElem? (i := 2) rfl
theorem nw_3 : Cond.fieldLinkNest RX1 88 "OrielChart$Code" "target" "[I" "OrielChart" ∈ NLm := List.mem_of_getElem? (i := 3) rfl
theorem nw_4 : Cond.fieldLinkNest RX7 102 "OrielChart$Code" "target" "[I" "OrielChart" ∈ NLm := List.mem_of_getElem? (i := 4) rfl
theorem nw_5 : Cond.fieldLinkNest RX2 62 "OrielChart$Code" "sets" "[I" "OrielChart" ∈ NLm := List.mem_of_getElem? (i := 5) rfl
theorem nw_6 : Cond.fieldLinkNest RX7 116 "OrielChart$Code" "sets" "[I" "OrielChart" ∈ NLm := List.mem_of_getElem? (i := 6) rfl
theorem nw_7 : Cond.fieldLinkNest RX7 113 "OrielChart$Code" "uses" "[I" "OrielChart" ∈ NLm := List.mem_of_getElem? (i := 7) rfl
theorem nw_8 : Cond.fieldLinkNest RX2 74 "OrielChart$Code" "uses" "[I" "OrielChart" ∈ NLm := List.mem_of_getElem? (i := 8) rfl
theorem nw_9 : Cond.fieldLinkNest RX1 34 "OrielChart$Code" "count" "I" "OrielChart" ∈ NLm := List.mem_of_getElem? (i := 9) rfl
theorem nw_10 : Cond.fieldLinkNest RX7 51 "OrielChart$Code" "count" "I" "OrielChart" ∈ NLm := List.mem_of_getElem? (i := 10) rfl
theorem nw_11 : Cond.methodLinkNest RX7 18 yX1_init "OrielChart" ∈ NLm := List.mem_of_getElem? (i := 11) rfl
theorem nw_12 : Cond.fieldLinkNest RX7 130 "OrielChart$Flow" "home" "[I" "OrielChart" ∈ NLm := List.mem_of_getElem? (i := 12) rfl
theorem nw_13 : Cond.fieldLinkNest RX2 55 "OrielChart$Flow" "first" "[I" "OrielChart" ∈ NLm := List.mem_of_getElem? (i := 13) rfl
theorem nw_14 : Cond.fieldLinkNest RX7 136 "OrielChart$Flow" "first" "[I" "OrielChart" ∈ NLm := List.mem_of_getElem? (i := 14) rfl
theorem nw_15 : Cond.fieldLinkNest RX2 48 "OrielChart$Flow" "last" "[I" "OrielChart" ∈ NLm := List.mem_of_getElem? (i := 15) rfl
theorem nw_16 : Cond.fieldLinkNest RX4 81 "OrielChart$Flow" "from" "[I" "OrielChart" ∈ NLm := List.mem_of_getElem? (i := 16) rfl
theorem nw_17 : Cond.fieldLinkNest RX7 153 "OrielChart$Flow" "from" "[I" "OrielChart" ∈ NLm := List.mem_of_getElem? (i := 17) rfl
theorem nw_18 : Cond.fieldLinkNest RX4 88 "OrielChart$Flow" "to" "[I" "OrielChart" ∈ NLm := List.mem_of_getElem? (i := 18) rfl
theorem nw_19 : Cond.fieldLinkNest RX6 70 "OrielChart$Flow" "to" "[I" "OrielChart" ∈ NLm := List.mem_of_getElem? (i := 19) rfl
theorem nw_20 : Cond.fieldLinkNest RX7 156 "OrielChart$Flow" "to" "[I" "OrielChart" ∈ NLm := List.mem_of_getElem? (i := 20) rfl
theorem nw_21 : Cond.fieldLinkNest RX6 61 "OrielChart$Flow" "firstEdge" "[I" "OrielChart" ∈ NLm := List.mem_of_getElem? (i := 21) rfl
theorem nw_22 : Cond.fieldLinkNest RX5 45 "OrielChart$Flow" "next" "[J" "OrielChart" ∈ NLm := List.mem_of_getElem? (i := 22) rfl
theorem nw_23 : Cond.fieldLinkNest RX4 69 "OrielChart$Flow" "next" "[J" "OrielChart" ∈ NLm := List.mem_of_getElem? (i := 23) rfl
theorem nw_24 : Cond.fieldLinkNest RX2 67 "OrielChart$Flow" "next" "[J" "OrielChart" ∈ NLm := List.mem_of_getElem? (i := 24) rfl
theorem nw_25 : Cond.fieldLinkNest RX6 45 "OrielChart$Flow" "blockCount" "I" "OrielChart" ∈ NLm := List.mem_of_getElem? (i := 25) rfl
theorem nw_26 : Cond.fieldLinkNest RX2 27 "OrielChart$Flow" "blockCount" "I" "OrielChart" ∈ NLm := List.mem_of_getElem? (i := 26) rfl
theorem nw_27 : Cond.fieldLinkNest RX4 54 "OrielChart$Flow" "blockCount" "I" "OrielChart" ∈ NLm := List.mem_of_getElem? (i := 27) rfl
theorem nw_28 : Cond.fieldLinkNest RX7 127 "OrielChart$Flow" "blockCount" "I" "OrielChart" ∈ NLm := List.mem_of_getElem? (i := 28) rfl
theorem nw_29 : Cond.fieldLinkNest RX3 52 "OrielChart$Flow" "edgeCount" "I" "OrielChart" ∈ NLm := List.mem_of_getElem? (i := 29) rfl
theorem nw_30 : Cond.fieldLinkNest RX4 78 "OrielChart$Flow" "edgeCount" "I" "OrielChart" ∈ NLm := List.mem_of_getElem? (i := 30) rfl
theorem nw_31 : Cond.fieldLinkNest RX7 147 "OrielChart$Flow" "edgeCount" "I" "OrielChart" ∈ NLm := List.mem_of_getElem? (i := 31) rfl
theorem nw_32 : Cond.fieldLinkNest RX5 28 "OrielChart$Flow" "reached" "J" "OrielChart" ∈ NLm := List.mem_of_getElem? (i := 32) rfl
theorem nw_33 : Cond.fieldLinkNest RX4 24 "OrielChart$Flow" "reached" "J" "OrielChart" ∈ NLm := List.mem_of_getElem? (i := 33) rfl
theorem nw_34 : Cond.fieldLinkNest RX2 32 "OrielChart$Flow" "reached" "J" "OrielChart" ∈ NLm := List.mem_of_getElem? (i := 34) rfl
theorem nw_35 : Cond.fieldLinkNest RX7 139 "OrielChart$Flow" "reached" "J" "OrielChart" ∈ NLm := List.mem_of_getElem? (i := 35) rfl
theorem nw_36 : Cond.fieldLinkNest RX7 333 "OrielChart$Flow" "fresh" "Z" "OrielChart" ∈ NLm := List.mem_of_getElem? (i := 36) rfl
theorem nw_37 : Cond.methodLinkNest RX7 25 yX4_init "OrielChart" ∈ NLm := List.mem_of_getElem? (i := 37) rfl
theorem nw_38 : Cond.fieldLinkNest RX7 181 "OrielChart$Ranks" "loop" "[J" "OrielChart" ∈ NLm := List.mem_of_getElem? (i := 38) rfl
theorem nw_39 : Cond.fieldLinkNest RX7 178 "OrielChart$Ranks" "loopCount" "I" "OrielChart" ∈ NLm := List.mem_of_getElem? (i := 39) rfl
theorem nw_40 : Cond.fieldLinkNest RX7 197 "OrielChart$Ranks" "tame" "Z" "OrielChart" ∈ NLm := List.mem_of_getElem? (i := 40) rfl
theorem nw_41 : Cond.fieldLinkNest RX7 334 "OrielChart$Ranks" "fresh" "Z" "OrielChart" ∈ NLm := List.mem_of_getElem? (i := 41) rfl
theorem nw_42 : Cond.methodLinkNest RX7 32 yX2_init "OrielChart" ∈ NLm := List.mem_of_getElem? (i := 42) rfl
theorem nw_43 : Cond.fieldLinkNest RX7 204 "OrielChart$Lives" "live" "[I" "OrielChart" ∈ NLm := List.mem_of_getElem? (i := 43) rfl
theorem nw_44 : Cond.fieldLinkNest RX7 207 "OrielChart$Lives" "vainCount" "I" "OrielChart" ∈ NLm := List.mem_of_getElem? (i := 44) rfl
theorem nw_45 : Cond.fieldLinkNest RX7 119 "OrielChart$Lives" "fresh" "Z" "OrielChart" ∈ NLm := List.mem_of_getElem? (i := 45) rfl
theorem nw_46 : Cond.methodLinkNest RX7 39 yX5_init "OrielChart" ∈ NLm := List.mem_of_getElem? (i := 46) rfl
theorem nw_47 : Cond.fieldLinkNest RX7 233 "OrielChart$Reduction" "home" "[I" "OrielChart" ∈ NLm := List.mem_of_getElem? (i := 47) rfl
theorem nw_48 : Cond.fieldLinkNest RX7 224 "OrielChart$Reduction" "rule" "[I" "OrielChart" ∈ NLm := List.mem_of_getElem? (i := 48) rfl
theorem nw_49 : Cond.fieldLinkNest RX7 227 "OrielChart$Reduction" "node" "[I" "OrielChart" ∈ NLm := List.mem_of_getElem? (i := 49) rfl
theorem nw_50 : Cond.fieldLinkNest RX7 230 "OrielChart$Reduction" "nodes" "J" "OrielChart" ∈ NLm := List.mem_of_getElem? (i := 50) rfl
theorem nw_51 : Cond.fieldLinkNest RX7 218 "OrielChart$Reduction" "stepCount" "I" "OrielChart" ∈ NLm := List.mem_of_getElem? (i := 51) rfl
theorem nw_52 : Cond.fieldLinkNest RX7 335 "OrielChart$Reduction" "fresh" "Z" "OrielChart" ∈ NLm := List.mem_of_getElem? (i := 52) rfl
theorem nw_53 : Cond.methodLinkNest RX7 46 yX3_init "OrielChart" ∈ NLm := List.mem_of_getElem? (i := 53) rfl
theorem nw_54 : Cond.methodLinkNest RX3 11 yX6_init "OrielChart" ∈ NLm := List.mem_of_getElem? (i := 54) rfl
theorem nw_55 : Cond.fieldLinkNest RX3 124 "OrielChart$Walk" "came" "[I" "OrielChart" ∈ NLm := List.mem_of_getElem? (i := 55) rfl
theorem nw_56 : Cond.fieldLinkNest RX3 115 "OrielChart$Walk" "upper" "[I" "OrielChart" ∈ NLm := List.mem_of_getElem? (i := 56) rfl
theorem nw_57 : Cond.fieldLinkNest RX3 108 "OrielChart$Walk" "lower" "[I" "OrielChart" ∈ NLm := List.mem_of_getElem? (i := 57) rfl
theorem nw_58 : Cond.fieldLinkNest RX3 121 "OrielChart$Walk" "cameCount" "I" "OrielChart" ∈ NLm := List.mem_of_getElem? (i := 58) rfl
theorem nw_59 : Cond.fieldLinkNest RX3 83 "OrielChart$Walk" "seen" "J" "OrielChart" ∈ NLm := List.mem_of_getElem? (i := 59) rfl
theorem nw_60 : Cond.fieldLinkNest RX7 244 "OrielChart$Picture" "walk" "LOrielChart$Walk;" "OrielChart" ∈ NLm := List.mem_of_getElem? (i := 60) rfl
theorem nw_61 : Cond.fieldLinkNest RX7 241 "OrielChart$Picture" "layer" "[I" "OrielChart" ∈ NLm := List.mem_of_getElem? (i := 61) rfl
theorem nw_62 : Cond.fieldLinkNest RX7 238 "OrielChart$Picture" "layerCount" "I" "OrielChart" ∈ NLm := List.mem_of_getElem? (i := 62) rfl
theorem nw_63 : Cond.fieldLinkNest RX7 289 "OrielChart$Picture" "sweeps" "I" "OrielChart" ∈ NLm := List.mem_of_getElem? (i := 63) rfl
theorem nw_64 : Cond.fieldLinkNest RX7 336 "OrielChart$Picture" "fresh" "Z" "OrielChart" ∈ NLm := List.mem_of_getElem? (i := 64) rfl
theorem nw_65 : Cond.methodLinkNest RX1 80 yX7_at "OrielChart" ∈ NLm := List.mem_of_getElem? (i := 65) rfl
theorem nw_66 : Cond.methodLinkNest RX1 65 yX7_bit "OrielChart" ∈ NLm := List.mem_of_getElem? (i := 66) rfl
theorem nw_67 : Cond.methodLinkNest RX1 84 yX7_jumps "OrielChart" ∈ NLm := List.mem_of_getElem? (i := 67) rfl
theorem nw_68 : Cond.methodLinkNest RX1 91 yX7_has "OrielChart" ∈ NLm := List.mem_of_getElem? (i := 68) rfl
theorem nw_69 : Cond.methodLinkNest RX1 54 yX7_put "OrielChart" ∈ NLm := List.mem_of_getElem? (i := 69) rfl
theorem nw_70 : Cond.methodLinkNest RX1 58 yX7_put_ "OrielChart" ∈ NLm := List.mem_of_getElem? (i := 70) rfl
theorem nw_71 : Cond.methodLinkNest RX1 99 yX7_at_ "OrielChart" ∈ NLm := List.mem_of_getElem? (i := 71) rfl
theorem nw_72 : Cond.methodLinkNest RX1 69 yX7_spread "OrielChart" ∈ NLm := List.mem_of_getElem? (i := 72) rfl
theorem nw_73 : Cond.methodLinkNest RX4 30 yX7_has "OrielChart" ∈ NLm := List.mem_of_getElem? (i := 73) rfl
theorem nw_74 : Cond.methodLinkNest RX4 72 yX7_bit "OrielChart" ∈ NLm := List.mem_of_getElem? (i := 74) rfl
theorem nw_75 : Cond.methodLinkNest RX4 65 yX7_spread "OrielChart" ∈ NLm := List.mem_of_getElem? (i := 75) rfl
theorem nw_76 : Cond.methodLinkNest RX4 38 yX7_put_ "OrielChart" ∈ NLm := List.mem_of_getElem? (i := 76) rfl
theorem nw_77 : Cond.methodLinkNest RX4 85 yX7_at "OrielChart" ∈ NLm := List.mem_of_getElem? (i := 77) rfl
theorem nw_78 : Cond.methodLinkNest RX4 61 yX7_at_ "OrielChart" ∈ NLm := List.mem_of_getElem? (i := 78) rfl
theorem nw_79 : Cond.methodLinkNest RX2 15 yX7_put "OrielChart" ∈ NLm := List.mem_of_getElem? (i := 79) rfl
theorem nw_80 : Cond.methodLinkNest RX2 36 yX7_has "OrielChart" ∈ NLm := List.mem_of_getElem? (i := 80) rfl
theorem nw_81 : Cond.methodLinkNest RX2 71 yX7_at_ "OrielChart" ∈ NLm := List.mem_of_getElem? (i := 81) rfl
theorem nw_82 : Cond.methodLinkNest RX2 51 yX7_at "OrielChart" ∈ NLm := List.mem_of_getElem? (i := 82) rfl
theorem nw_83 : Cond.methodLinkNest RX5 41 yX7_has "OrielChart" ∈ NLm := List.mem_of_getElem? (i := 83) rfl
theorem nw_84 : Cond.methodLinkNest RX5 46 yX7_at_ "OrielChart" ∈ NLm := List.mem_of_getElem? (i := 84) rfl
theorem nw_85 : Cond.methodLinkNest RX5 50 yX7_put_ "OrielChart" ∈ NLm := List.mem_of_getElem? (i := 85) rfl
theorem nw_86 : Cond.methodLinkNest RX5 54 yX7_put "OrielChart" ∈ NLm := List.mem_of_getElem? (i := 86) rfl
theorem nw_87 : Cond.methodLinkNest RX5 72 yX7_bit "OrielChart" ∈ NLm := List.mem_of_getElem? (i := 87) rfl
theorem nw_88 : Cond.methodLinkNest RX5 84 yX7_lowest "OrielChart" ∈ NLm := List.mem_of_getElem? (i := 88) rfl
theorem nw_89 : Cond.methodLinkNest RX5 87 yX7_at "OrielChart" ∈ NLm := List.mem_of_getElem? (i := 89) rfl
theorem nw_90 : Cond.methodLinkNest RX6 41 yX7_put "OrielChart" ∈ NLm := List.mem_of_getElem? (i := 90) rfl
theorem nw_91 : Cond.methodLinkNest RX6 54 yX7_at "OrielChart" ∈ NLm := List.mem_of_getElem? (i := 91) rfl
theorem nw_92 : Cond.methodLinkNest RX6 64 yX7_bit "OrielChart" ∈ NLm := List.mem_of_getElem? (i := 92) rfl
theorem nw_93 : Cond.methodLinkNest RX6 73 yX7_has "OrielChart" ∈ NLm := List.mem_of_getElem? (i := 93) rfl
theorem nw_94 : Cond.methodLinkNest RX3 87 yX7_has "OrielChart" ∈ NLm := List.mem_of_getElem? (i := 94) rfl
theorem nw_95 : Cond.methodLinkNest RX3 75 yX7_put "OrielChart" ∈ NLm := List.mem_of_getElem? (i := 95) rfl
theorem nw_96 : Cond.methodLinkNest RX3 95 yX7_at "OrielChart" ∈ NLm := List.mem_of_getElem? (i := 96) rfl
theorem nw_97 : Cond.methodLinkNest RX0 39 yX7_at "OrielChart" ∈ NLm := List.mem_of_getElem? (i := 97) rfl
theorem nw_98 : Cond.methodLinkNest RX0 35 yX7_put "OrielChart" ∈ NLm := List.mem_of_getElem? (i := 98) rfl
theorem nw_99 : Cond.castable "java/lang/IllegalArgumentException" "java/lang/IllegalArgumentException" ∈ NLm := List.mem_of_getElem? (i := 99) rfl
theorem nw_100 : Cond.declares ⟨"java/lang/RuntimeException", "<init>", "()V"⟩ ∈ NLm := List.mem_of_getElem? (i := 100) rfl
theorem nw_101 : Cond.declares ⟨"java/lang/RuntimeException", "<init>", "(Ljava/lang/String;)V"⟩ ∈ NLm := List.mem_of_getElem? (i := 101) rfl
theorem nw_102 : Cond.declares ⟨"java/lang/Exception", "<init>", "()V"⟩ ∈ NLm := List.mem_of_getElem? (i := 102) rfl
theorem nw_103 : Cond.declares ⟨"java/lang/Exception", "<init>", "(Ljava/lang/String;)V"⟩ ∈ NLm := List.mem_of_getElem? (i := 103) rfl
theorem nw_104 : Cond.declares ⟨"java/lang/Throwable", "<init>", "()V"⟩ ∈ NLm := List.mem_of_getElem? (i := 104) rfl
theorem nw_105 : Cond.declares ⟨"java/lang/Throwable", "<init>", "(Ljava/lang/String;)V"⟩ ∈ NLm := List.mem_of_getElem? (i := 105) rfl
theorem nw_106 : Cond.castable "java/lang/IllegalStateException" "java/lang/IllegalStateException" ∈ NLm := List.mem_of_getElem? (i := 106) rfl
theorem nw_107 : Cond.castable "java/lang/IndexOutOfBoundsException" "java/lang/IndexOutOfBoundsException" ∈ NLm := List.mem_of_getElem? (i := 107) rfl
theorem nt_0 : Cond.methodLinkNest RX7 9 yX0_init "OrielChart" ∈ lw_tbl := inT1 _ (List.mem_of_getElem? (i := 27) rfl)
theorem nt_1 : Cond.fieldLinkNest RX1 77 "OrielChart$Code" "kind" "[I" "OrielChart" ∈ lw_tbl := inT1 _ (List.mem_of_getElem? (i := 32) rfl)
theorem nt_2 : Cond.fieldLinkNest RX7 92 "OrielChart$Code" "kind" "[I" "OrielChart" ∈ lw_tbl := inT1 _ (List.mem_of_getElem? (i := 33) rfl)
theorem nt_3 : Cond.fieldLinkNest RX1 88 "OrielChart$Code" "target" "[I" "OrielChart" ∈ lw_tbl := inT1 _ (List.mem_of_getElem? (i := 35) rfl)
theorem nt_4 : Cond.fieldLinkNest RX7 102 "OrielChart$Code" "target" "[I" "OrielChart" ∈ lw_tbl := inT1 _ (List.mem_of_getElem? (i := 36) rfl)
theorem nt_5 : Cond.fieldLinkNest RX2 62 "OrielChart$Code" "sets" "[I" "OrielChart" ∈ lw_tbl := inT1 _ (List.mem_of_getElem? (i := 38) rfl)
theorem nt_6 : Cond.fieldLinkNest RX7 116 "OrielChart$Code" "sets" "[I" "OrielChart" ∈ lw_tbl := inT1 _ (List.mem_of_getElem? (i := 39) rfl)
theorem nt_7 : Cond.fieldLinkNest RX7 113 "OrielChart$Code" "uses" "[I" "OrielChart" ∈ lw_tbl := inT1 _ (List.mem_of_getElem? (i := 41) rfl)
theorem nt_8 : Cond.fieldLinkNest RX2 74 "OrielChart$Code" "uses" "[I" "OrielChart" ∈ lw_tbl := inT1 _ (List.mem_of_getElem? (i := 42) rfl)
theorem nt_9 : Cond.fieldLinkNest RX1 34 "OrielChart$Code" "count" "I" "OrielChart" ∈ lw_tbl := inT1 _ (List.mem_of_getElem? (i := 43) rfl)
theorem nt_10 : Cond.fieldLinkNest RX7 51 "OrielChart$Code" "count" "I" "OrielChart" ∈ lw_tbl := inT1 _ (List.mem_of_getElem? (i := 45) rfl)
theorem nt_11 : Cond.methodLinkNest RX7 18 yX1_init "OrielChart" ∈ lw_tbl := inT1 _ (List.mem_of_getElem? (i := 60) rfl)
theorem nt_12 : Cond.fieldLinkNest RX7 130 "OrielChart$Flow" "home" "[I" "OrielChart" ∈ lw_tbl := inT1 _ (List.mem_of_getElem? (i := 65) rfl)
theorem nt_13 : Cond.fieldLinkNest RX2 55 "OrielChart$Flow" "first" "[I" "OrielChart" ∈ lw_tbl := inT1 _ (List.mem_of_getElem? (i := 67) rfl)
theorem nt_14 : Cond.fieldLinkNest RX7 136 "OrielChart$Flow" "first" "[I" "OrielChart" ∈ lw_tbl := inT1 _ (List.mem_of_getElem? (i := 68) rfl)
theorem nt_15 : Cond.fieldLinkNest RX2 48 "OrielChart$Flow" "last" "[I" "OrielChart" ∈ lw_tbl := inT1 _ (List.mem_of_getElem? (i := 70) rfl)
theorem nt_16 : Cond.fieldLinkNest RX4 81 "OrielChart$Flow" "from" "[I" "OrielChart" ∈ lw_tbl := inT1 _ (List.mem_of_getElem? (i := 72) rfl)
theorem nt_17 : Cond.fieldLinkNest RX7 153 "OrielChart$Flow" "from" "[I" "OrielChart" ∈ lw_tbl := inT1 _ (List.mem_of_getElem? (i := 73) rfl)
theorem nt_18 : Cond.fieldLinkNest RX4 88 "OrielChart$Flow" "to" "[I" "OrielChart" ∈ lw_tbl := inT1 _ (List.mem_of_getElem? (i := 75) rfl)
theorem nt_19 : Cond.fieldLinkNest RX6 70 "OrielChart$Flow" "to" "[I" "OrielChart" ∈ lw_tbl := inT1 _ (List.mem_of_getElem? (i := 76) rfl)
theorem nt_20 : Cond.fieldLinkNest RX7 156 "OrielChart$Flow" "to" "[I" "OrielChart" ∈ lw_tbl := inT1 _ (List.mem_of_getElem? (i := 77) rfl)
theorem nt_21 : Cond.fieldLinkNest RX6 61 "OrielChart$Flow" "firstEdge" "[I" "OrielChart" ∈ lw_tbl := inT1 _ (List.mem_of_getElem? (i := 79) rfl)
theorem nt_22 : Cond.fieldLinkNest RX5 45 "OrielChart$Flow" "next" "[J" "OrielChart" ∈ lw_tbl := inT1 _ (List.mem_of_getElem? (i := 81) rfl)
theorem nt_23 : Cond.fieldLinkNest RX4 69 "OrielChart$Flow" "next" "[J" "OrielChart" ∈ lw_tbl := inT1 _ (List.mem_of_getElem? (i := 82) rfl)
theorem nt_24 : Cond.fieldLinkNest RX2 67 "OrielChart$Flow" "next" "[J" "OrielChart" ∈ lw_tbl := inT1 _ (List.mem_of_getElem? (i := 83) rfl)
theorem nt_25 : Cond.fieldLinkNest RX6 45 "OrielChart$Flow" "blockCount" "I" "OrielChart" ∈ lw_tbl := inT1 _ (List.mem_of_getElem? (i := 85) rfl)
theorem nt_26 : Cond.fieldLinkNest RX2 27 "OrielChart$Flow" "blockCount" "I" "OrielChart" ∈ lw_tbl := inT1 _ (List.mem_of_getElem? (i := 86) rfl)
theorem nt_27 : Cond.fieldLinkNest RX4 54 "OrielChart$Flow" "blockCount" "I" "OrielChart" ∈ lw_tbl := inT1 _ (List.mem_of_getElem? (i := 87) rfl)
theorem nt_28 : Cond.fieldLinkNest RX7 127 "OrielChart$Flow" "blockCount" "I" "OrielChart" ∈ lw_tbl := inT1 _ (List.mem_of_getElem? (i := 88) rfl)
theorem nt_29 : Cond.fieldLinkNest RX3 52 "OrielChart$Flow" "edgeCount" "I" "OrielChart" ∈ lw_tbl := inT1 _ (List.mem_of_getElem? (i := 89) rfl)
theorem nt_30 : Cond.fieldLinkNest RX4 78 "OrielChart$Flow" "edgeCount" "I" "OrielChart" ∈ lw_tbl := inT1 _ (List.mem_of_getElem? (i := 91) rfl)
theorem nt_31 : Cond.fieldLinkNest RX7 147 "OrielChart$Flow" "edgeCount" "I" "OrielChart" ∈ lw_tbl := inT1 _ (List.mem_of_getElem? (i := 92) rfl)
theorem nt_32 : Cond.fieldLinkNest RX5 28 "OrielChart$Flow" "reached" "J" "OrielChart" ∈ lw_tbl := inT1 _ (List.mem_of_getElem? (i := 93) rfl)
theorem nt_33 : Cond.fieldLinkNest RX4 24 "OrielChart$Flow" "reached" "J" "OrielChart" ∈ lw_tbl := inT1 _ (List.mem_of_getElem? (i := 94) rfl)
theorem nt_34 : Cond.fieldLinkNest RX2 32 "OrielChart$Flow" "reached" "J" "OrielChart" ∈ lw_tbl := inT1 _ (List.mem_of_getElem? (i := 95) rfl)
theorem nt_35 : Cond.fieldLinkNest RX7 139 "OrielChart$Flow" "reached" "J" "OrielChart" ∈ lw_tbl := inT1 _ (List.mem_of_getElem? (i := 97) rfl)
theorem nt_36 : Cond.fieldLinkNest RX7 333 "OrielChart$Flow" "fresh" "Z" "OrielChart" ∈ lw_tbl := inT1 _ (List.mem_of_getElem? (i := 98) rfl)
theorem nt_37 : Cond.methodLinkNest RX7 25 yX4_init "OrielChart" ∈ lw_tbl := inT1 _ (List.mem_of_getElem? (i := 125) rfl)
theorem nt_38 : Cond.fieldLinkNest RX7 181 "OrielChart$Ranks" "loop" "[J" "OrielChart" ∈ lw_tbl := inT1 _ (List.mem_of_getElem? (i := 131) rfl)
theorem nt_39 : Cond.fieldLinkNest RX7 178 "OrielChart$Ranks" "loopCount" "I" "OrielChart" ∈ lw_tbl := inT1 _ (List.mem_of_getElem? (i := 135) rfl)
theorem nt_40 : Cond.fieldLinkNest RX7 197 "OrielChart$Ranks" "tame" "Z" "OrielChart" ∈ lw_tbl := inT1 _ (List.mem_of_getElem? (i := 137) rfl)
theorem nt_41 : Cond.fieldLinkNest RX7 334 "OrielChart$Ranks" "fresh" "Z" "OrielChart" ∈ lw_tbl := inT1 _ (List.mem_of_getElem? (i := 138) rfl)
theorem nt_42 : Cond.methodLinkNest RX7 32 yX2_init "OrielChart" ∈ lw_tbl := inT1 _ (List.mem_of_getElem? (i := 156) rfl)
theorem nt_43 : Cond.fieldLinkNest RX7 204 "OrielChart$Lives" "live" "[I" "OrielChart" ∈ lw_tbl := inT1 _ (List.mem_of_getElem? (i := 161) rfl)
theorem nt_44 : Cond.fieldLinkNest RX7 207 "OrielChart$Lives" "vainCount" "I" "OrielChart" ∈ lw_tbl := inT1 _ (List.mem_of_getElem? (i := 163) rfl)
theorem nt_45 : Cond.fieldLinkNest RX7 119 "OrielChart$Lives" "fresh" "Z" "OrielChart" ∈ lw_tbl := inT1 _ (List.mem_of_getElem? (i := 164) rfl)
theorem nt_46 : Cond.methodLinkNest RX7 39 yX5_init "OrielChart" ∈ lw_tbl := inT1 _ (List.mem_of_getElem? (i := 174) rfl)
theorem nt_47 : Cond.fieldLinkNest RX7 233 "OrielChart$Reduction" "home" "[I" "OrielChart" ∈ lw_tbl := inT1 _ (List.mem_of_getElem? (i := 180) rfl)
theorem nt_48 : Cond.fieldLinkNest RX7 224 "OrielChart$Reduction" "rule" "[I" "OrielChart" ∈ lw_tbl := inT1 _ (List.mem_of_getElem? (i := 182) rfl)
theorem nt_49 : Cond.fieldLinkNest RX7 227 "OrielChart$Reduction" "node" "[I" "OrielChart" ∈ lw_tbl := inT1 _ (List.mem_of_getElem? (i := 184) rfl)
theorem nt_50 : Cond.fieldLinkNest RX7 230 "OrielChart$Reduction" "nodes" "J" "OrielChart" ∈ lw_tbl := inT1 _ (List.mem_of_getElem? (i := 187) rfl)
theorem nt_51 : Cond.fieldLinkNest RX7 218 "OrielChart$Reduction" "stepCount" "I" "OrielChart" ∈ lw_tbl := inT1 _ (List.mem_of_getElem? (i := 189) rfl)
theorem nt_52 : Cond.fieldLinkNest RX7 335 "OrielChart$Reduction" "fresh" "Z" "OrielChart" ∈ lw_tbl := inT1 _ (List.mem_of_getElem? (i := 190) rfl)
theorem nt_53 : Cond.methodLinkNest RX7 46 yX3_init "OrielChart" ∈ lw_tbl := inT1 _ (List.mem_of_getElem? (i := 210) rfl)
theorem nt_54 : Cond.methodLinkNest RX3 11 yX6_init "OrielChart" ∈ lw_tbl := inT1 _ (List.mem_of_getElem? (i := 216) rfl)
theorem nt_55 : Cond.fieldLinkNest RX3 124 "OrielChart$Walk" "came" "[I" "OrielChart" ∈ lw_tbl := inT1 _ (List.mem_of_getElem? (i := 221) rfl)
theorem nt_56 : Cond.fieldLinkNest RX3 115 "OrielChart$Walk" "upper" "[I" "OrielChart" ∈ lw_tbl := inT1 _ (List.mem_of_getElem? (i := 223) rfl)
theorem nt_57 : Cond.fieldLinkNest RX3 108 "OrielChart$Walk" "lower" "[I" "OrielChart" ∈ lw_tbl := inT1 _ (List.mem_of_getElem? (i := 225) rfl)
theorem nt_58 : Cond.fieldLinkNest RX3 121 "OrielChart$Walk" "cameCount" "I" "OrielChart" ∈ lw_tbl := inT1 _ (List.mem_of_getElem? (i := 229) rfl)
theorem nt_59 : Cond.fieldLinkNest RX3 83 "OrielChart$Walk" "seen" "J" "OrielChart" ∈ lw_tbl := inT1 _ (List.mem_of_getElem? (i := 232) rfl)
theorem nt_60 : Cond.fieldLinkNest RX7 244 "OrielChart$Picture" "walk" "LOrielChart$Walk;" "OrielChart" ∈ lw_tbl := inT2 _ (List.mem_of_getElem? (i := 14) rfl)
theorem nt_61 : Cond.fieldLinkNest RX7 241 "OrielChart$Picture" "layer" "[I" "OrielChart" ∈ lw_tbl := inT2 _ (List.mem_of_getElem? (i := 16) rfl)
theorem nt_62 : Cond.fieldLinkNest RX7 238 "OrielChart$Picture" "layerCount" "I" "OrielChart" ∈ lw_tbl := inT2 _ (List.mem_of_getElem? (i := 29) rfl)
theorem nt_63 : Cond.fieldLinkNest RX7 289 "OrielChart$Picture" "sweeps" "I" "OrielChart" ∈ lw_tbl := inT2 _ (List.mem_of_getElem? (i := 31) rfl)
theorem nt_64 : Cond.fieldLinkNest RX7 336 "OrielChart$Picture" "fresh" "Z" "OrielChart" ∈ lw_tbl := inT2 _ (List.mem_of_getElem? (i := 32) rfl)
theorem nt_65 : Cond.methodLinkNest RX1 80 yX7_at "OrielChart" ∈ lw_tbl := inT2 _ (List.mem_of_getElem? (i := 104) rfl)
theorem nt_66 : Cond.methodLinkNest RX1 65 yX7_bit "OrielChart" ∈ lw_tbl := inT2 _ (List.mem_of_getElem? (i := 107) rfl)
theorem nt_67 : Cond.methodLinkNest RX1 84 yX7_jumps "OrielChart" ∈ lw_tbl := inT2 _ (List.mem_of_getElem? (i := 110) rfl)
theorem nt_68 : Cond.methodLinkNest RX1 91 yX7_has "OrielChart" ∈ lw_tbl := inT2 _ (List.mem_of_getElem? (i := 117) rfl)
theorem nt_69 : Cond.methodLinkNest RX1 54 yX7_put "OrielChart" ∈ lw_tbl := inT2 _ (List.mem_of_getElem? (i := 120) rfl)
theorem nt_70 : Cond.methodLinkNest RX1 58 yX7_put_ "OrielChart" ∈ lw_tbl := inT2 _ (List.mem_of_getElem? (i := 123) rfl)
theorem nt_71 : Cond.methodLinkNest RX1 99 yX7_at_ "OrielChart" ∈ lw_tbl := inT2 _ (List.mem_of_getElem? (i := 134) rfl)
theorem nt_72 : Cond.methodLinkNest RX1 69 yX7_spread "OrielChart" ∈ lw_tbl := inT2 _ (List.mem_of_getElem? (i := 137) rfl)
theorem nt_73 : Cond.methodLinkNest RX4 30 yX7_has "OrielChart" ∈ lw_tbl := inT2 _ (List.mem_of_getElem? (i := 156) rfl)
theorem nt_74 : Cond.methodLinkNest RX4 72 yX7_bit "OrielChart" ∈ lw_tbl := inT2 _ (List.mem_of_getElem? (i := 160) rfl)
theorem nt_75 : Cond.methodLinkNest RX4 65 yX7_spread "OrielChart" ∈ lw_tbl := inT2 _ (List.mem_of_getElem? (i := 161) rfl)
theorem nt_76 : Cond.methodLinkNest RX4 38 yX7_put_ "OrielChart" ∈ lw_tbl := inT2 _ (List.mem_of_getElem? (i := 163) rfl)
theorem nt_77 : Cond.methodLinkNest RX4 85 yX7_at "OrielChart" ∈ lw_tbl := inT2 _ (List.mem_of_getElem? (i := 168) rfl)
theorem nt_78 : Cond.methodLinkNest RX4 61 yX7_at_ "OrielChart" ∈ lw_tbl := inT2 _ (List.mem_of_getElem? (i := 169) rfl)
theorem nt_79 : Cond.methodLinkNest RX2 15 yX7_put "OrielChart" ∈ lw_tbl := inT2 _ (List.mem_of_getElem? (i := 186) rfl)
theorem nt_80 : Cond.methodLinkNest RX2 36 yX7_has "OrielChart" ∈ lw_tbl := inT2 _ (List.mem_of_getElem? (i := 191) rfl)
theorem nt_81 : Cond.methodLinkNest RX2 71 yX7_at_ "OrielChart" ∈ lw_tbl := inT2 _ (List.mem_of_getElem? (i := 196) rfl)
theorem nt_82 : Cond.methodLinkNest RX2 51 yX7_at "OrielChart" ∈ lw_tbl := inT2 _ (List.mem_of_getElem? (i := 197) rfl)
theorem nt_83 : Cond.methodLinkNest RX5 41 yX7_has "OrielChart" ∈ lw_tbl := inT2 _ (List.mem_of_getElem? (i := 213) rfl)
theorem nt_84 : Cond.methodLinkNest RX5 46 yX7_at_ "OrielChart" ∈ lw_tbl := inT2 _ (List.mem_of_getElem? (i := 214) rfl)
theorem nt_85 : Cond.methodLinkNest RX5 50 yX7_put_ "OrielChart" ∈ lw_tbl := inT2 _ (List.mem_of_getElem? (i := 215) rfl)
theorem nt_86 : Cond.methodLinkNest RX5 54 yX7_put "OrielChart" ∈ lw_tbl := inT2 _ (List.mem_of_getElem? (i := 216) rfl)
theorem nt_87 : Cond.methodLinkNest RX5 72 yX7_bit "OrielChart" ∈ lw_tbl := inT2 _ (List.mem_of_getElem? (i := 225) rfl)
theorem nt_88 : Cond.methodLinkNest RX5 84 yX7_lowest "OrielChart" ∈ lw_tbl := inT2 _ (List.mem_of_getElem? (i := 232) rfl)
theorem nt_89 : Cond.methodLinkNest RX5 87 yX7_at "OrielChart" ∈ lw_tbl := inT2 _ (List.mem_of_getElem? (i := 233) rfl)
theorem nt_90 : Cond.methodLinkNest RX6 41 yX7_put "OrielChart" ∈ lw_tbl := inT3 _ (List.mem_of_getElem? (i := 22) rfl)
theorem nt_91 : Cond.methodLinkNest RX6 54 yX7_at "OrielChart" ∈ lw_tbl := inT3 _ (List.mem_of_getElem? (i := 27) rfl)
theorem nt_92 : Cond.methodLinkNest RX6 64 yX7_bit "OrielChart" ∈ lw_tbl := inT3 _ (List.mem_of_getElem? (i := 28) rfl)
theorem nt_93 : Cond.methodLinkNest RX6 73 yX7_has "OrielChart" ∈ lw_tbl := inT3 _ (List.mem_of_getElem? (i := 34) rfl)
theorem nt_94 : Cond.methodLinkNest RX3 87 yX7_has "OrielChart" ∈ lw_tbl := inT3 _ (List.mem_of_getElem? (i := 39) rfl)
theorem nt_95 : Cond.methodLinkNest RX3 75 yX7_put "OrielChart" ∈ lw_tbl := inT3 _ (List.mem_of_getElem? (i := 40) rfl)
theorem nt_96 : Cond.methodLinkNest RX3 95 yX7_at "OrielChart" ∈ lw_tbl := inT3 _ (List.mem_of_getElem? (i := 49) rfl)
theorem nt_97 : Cond.methodLinkNest RX0 39 yX7_at "OrielChart" ∈ lw_tbl := inT4 _ (List.mem_of_getElem? (i := 43) rfl)
theorem nt_98 : Cond.methodLinkNest RX0 35 yX7_put "OrielChart" ∈ lw_tbl := inT4 _ (List.mem_of_getElem? (i := 47) rfl)
theorem nt_99 : Cond.castable "java/lang/IllegalArgumentException" "java/lang/IllegalArgumentException" ∈ lw_tbl := inT3 _ (List.mem_of_getElem? (i := 187) rfl)
theorem nt_100 : Cond.declares ⟨"java/lang/RuntimeException", "<init>", "()V"⟩ ∈ lw_tbl := inT3 _ (List.mem_of_getElem? (i := 188) rfl)
theorem nt_101 : Cond.declares ⟨"java/lang/RuntimeException", "<init>", "(Ljava/lang/String;)V"⟩ ∈ lw_tbl := inT3 _ (List.mem_of_getElem? (i := 189) rfl)
theorem nt_102 : Cond.declares ⟨"java/lang/Exception", "<init>", "()V"⟩ ∈ lw_tbl := inT3 _ (List.mem_of_getElem? (i := 190) rfl)
theorem nt_103 : Cond.declares ⟨"java/lang/Exception", "<init>", "(Ljava/lang/String;)V"⟩ ∈ lw_tbl := inT3 _ (List.mem_of_getElem? (i := 191) rfl)
theorem nt_104 : Cond.declares ⟨"java/lang/Throwable", "<init>", "()V"⟩ ∈ lw_tbl := inT3 _ (List.mem_of_getElem? (i := 192) rfl)
theorem nt_105 : Cond.declares ⟨"java/lang/Throwable", "<init>", "(Ljava/lang/String;)V"⟩ ∈ lw_tbl := inT3 _ (List.mem_of_getElem? (i := 193) rfl)
theorem nt_106 : Cond.castable "java/lang/IllegalStateException" "java/lang/IllegalStateException" ∈ lw_tbl := inT4 _ (List.mem_of_getElem? (i := 21) rfl)
theorem nt_107 : Cond.castable "java/lang/IndexOutOfBoundsException" "java/lang/IndexOutOfBoundsException" ∈ lw_tbl := inT4 _ (List.mem_of_getElem? (i := 66) rfl)
theorem nl_tbl : ∀ w ∈ NLm, w ∈ lw_tbl := List.forall_mem_cons.mpr ⟨nt_0, List.forall_mem_cons.mpr ⟨nt_1, List.forall_mem_cons.mpr ⟨nt_2, List.forall_mem_cons.mpr ⟨nt_3, List.forall_mem_cons.mpr ⟨nt_4, List.forall_mem_cons.mpr ⟨nt_5, List.forall_mem_cons.mpr ⟨nt_6, List.forall_mem_cons.mpr ⟨nt_7, List.forall_mem_cons.mpr ⟨nt_8, List.forall_mem_cons.mpr ⟨nt_9, List.forall_mem_cons.mpr ⟨nt_10, List.forall_mem_cons.mpr ⟨nt_11, List.forall_mem_cons.mpr ⟨nt_12, List.forall_mem_cons.mpr ⟨nt_13, List.forall_mem_cons.mpr ⟨nt_14, List.forall_mem_cons.mpr ⟨nt_15, List.forall_mem_cons.mpr ⟨nt_16, List.forall_mem_cons.mpr ⟨nt_17, List.forall_mem_cons.mpr ⟨nt_18, List.forall_mem_cons.mpr ⟨nt_19, List.forall_mem_cons.mpr ⟨nt_20, List.forall_mem_cons.mpr ⟨nt_21, List.forall_mem_cons.mpr ⟨nt_22, List.forall_mem_cons.mpr ⟨nt_23, List.forall_mem_cons.mpr ⟨nt_24, List.forall_mem_cons.mpr ⟨nt_25, List.forall_mem_cons.mpr ⟨nt_26, List.forall_mem_cons.mpr ⟨nt_27, List.forall_mem_cons.mpr ⟨nt_28, List.forall_mem_cons.mpr ⟨nt_29, List.forall_mem_cons.mpr ⟨nt_30, List.forall_mem_cons.mpr ⟨nt_31, List.forall_mem_cons.mpr ⟨nt_32, List.forall_mem_cons.mpr ⟨nt_33, List.forall_mem_cons.mpr ⟨nt_34, List.forall_mem_cons.mpr ⟨nt_35, List.forall_mem_cons.mpr ⟨nt_36, List.forall_mem_cons.mpr ⟨nt_37, List.forall_mem_cons.mpr ⟨nt_38, List.forall_mem_cons.mpr ⟨nt_39, List.forall_mem_cons.mpr ⟨nt_40, List.forall_mem_cons.mpr ⟨nt_41, List.forall_mem_cons.mpr ⟨nt_42, List.forall_mem_cons.mpr ⟨nt_43, List.forall_mem_cons.mpr ⟨nt_44, List.forall_mem_cons.mpr ⟨nt_45, List.forall_mem_cons.mpr ⟨nt_46, List.forall_mem_cons.mpr ⟨nt_47, List.forall_mem_cons.mpr ⟨nt_48, List.forall_mem_cons.mpr ⟨nt_49, List.forall_mem_cons.mpr ⟨nt_50, List.forall_mem_cons.mpr ⟨nt_51, List.forall_mem_cons.mpr ⟨nt_52, List.forall_mem_cons.mpr ⟨nt_53, List.forall_mem_cons.mpr ⟨nt_54, List.forall_mem_cons.mpr ⟨nt_55, List.forall_mem_cons.mpr ⟨nt_56, List.forall_mem_cons.mpr ⟨nt_57, List.forall_mem_cons.mpr ⟨nt_58, List.forall_mem_cons.mpr ⟨nt_59, List.forall_mem_cons.mpr ⟨nt_60, List.forall_mem_cons.mpr ⟨nt_61, List.forall_mem_cons.mpr ⟨nt_62, List.forall_mem_cons.mpr ⟨nt_63, List.forall_mem_cons.mpr ⟨nt_64, List.forall_mem_cons.mpr ⟨nt_65, List.forall_mem_cons.mpr ⟨nt_66, List.forall_mem_cons.mpr ⟨nt_67, List.forall_mem_cons.mpr ⟨nt_68, List.forall_mem_cons.mpr ⟨nt_69, List.forall_mem_cons.mpr ⟨nt_70, List.forall_mem_cons.mpr ⟨nt_71, List.forall_mem_cons.mpr ⟨nt_72, List.forall_mem_cons.mpr ⟨nt_73, List.forall_mem_cons.mpr ⟨nt_74, List.forall_mem_cons.mpr ⟨nt_75, List.forall_mem_cons.mpr ⟨nt_76, List.forall_mem_cons.mpr ⟨nt_77, List.forall_mem_cons.mpr ⟨nt_78, List.forall_mem_cons.mpr ⟨nt_79, List.forall_mem_cons.mpr ⟨nt_80, List.forall_mem_cons.mpr ⟨nt_81, List.forall_mem_cons.mpr ⟨nt_82, List.forall_mem_cons.mpr ⟨nt_83, List.forall_mem_cons.mpr ⟨nt_84, List.forall_mem_cons.mpr ⟨nt_85, List.forall_mem_cons.mpr ⟨nt_86, List.forall_mem_cons.mpr ⟨nt_87, List.forall_mem_cons.mpr ⟨nt_88, List.forall_mem_cons.mpr ⟨nt_89, List.forall_mem_cons.mpr ⟨nt_90, List.forall_mem_cons.mpr ⟨nt_91, List.forall_mem_cons.mpr ⟨nt_92, List.forall_mem_cons.mpr ⟨nt_93, List.forall_mem_cons.mpr ⟨nt_94, List.forall_mem_cons.mpr ⟨nt_95, List.forall_mem_cons.mpr ⟨nt_96, List.forall_mem_cons.mpr ⟨nt_97, List.forall_mem_cons.mpr ⟨nt_98, List.forall_mem_cons.mpr ⟨nt_99, List.forall_mem_cons.mpr ⟨nt_100, List.forall_mem_cons.mpr ⟨nt_101, List.forall_mem_cons.mpr ⟨nt_102, List.forall_mem_cons.mpr ⟨nt_103, List.forall_mem_cons.mpr ⟨nt_104, List.forall_mem_cons.mpr ⟨nt_105, List.forall_mem_cons.mpr ⟨nt_106, List.forall_mem_cons.mpr ⟨nt_107, fun _ h => absurd h List.not_mem_nil⟩⟩⟩⟩⟩⟩⟩⟩⟩⟩⟩⟩⟩⟩⟩⟩⟩⟩⟩⟩⟩⟩⟩⟩⟩⟩⟩⟩⟩⟩⟩⟩⟩⟩⟩⟩⟩⟩⟩⟩⟩⟩⟩⟩⟩⟩⟩⟩⟩⟩⟩⟩⟩⟩⟩⟩⟩⟩⟩⟩⟩⟩⟩⟩⟩⟩⟩⟩⟩⟩⟩⟩⟩⟩⟩⟩⟩⟩⟩⟩⟩⟩⟩⟩⟩⟩⟩⟩⟩⟩⟩⟩⟩⟩⟩⟩⟩⟩⟩⟩⟩⟩⟩⟩⟩⟩⟩⟩
/-! ===== contracts in one form: the whole world goes in and comes back; one list of words for all methods ===== -/
def isNest : Cond → Bool
  | .fieldLinkNest _ _ _ _ _ _ => true
  | .methodLinkNest _ _ _ _ => true
  | .declares _ => true
  | .castable _ _ => true
  | _ => false
theorem nest_warm {w : Cond} {s U : State} (h1 : isNest w = true) (hW : s.WarmedH U.vm) (h : va_Nw w s) : va_Nw w U := by
  cases w <;> first | exact va_Nw.warmF hW h | exact va_Nw.warmM hW h | exact va_Nw.warmD hW h | exact va_Nw.warmC hW h | (simp [isNest] at h1)
theorem nest_same {w : Cond} {s U : State} (h1 : isNest w = true) (hv : s.vm = U.vm) (h : va_Nw w s) : va_Nw w U := by
  cases w <;> first | exact va_Nw.same rfl hv h | (simp [isNest] at h1)
theorem nest_use {w : Cond} {s : State} {args : Array Value} (h1 : isNest w = true) (h : va_Nw w s) : w.before args s = true := by
  cases w <;> first | exact va_Nw.use rfl h | (simp [isNest] at h1)
theorem nest_of {w : Cond} {s : State} {args : Array Value} (h1 : isNest w = true) (h : w.before args s = true) : va_Nw w s := by
  cases w <;> first | exact va_Nw.of rfl h | (simp [isNest] at h1)
theorem nl_all : NLm.all isNest = true := by decide +kernel
def NW (U : State) : Prop := ∀ w ∈ NLm, va_Nw w U
theorem NW.warm {s U : State} (h : NW s) (hW : s.WarmedH U.vm) : NW U := fun w hw => nest_warm (List.all_eq_true.mp nl_all w hw) hW (h w hw)
theorem NW.same {s U : State} (h : NW s) (hv : s.vm = U.vm) : NW U := fun w hw => nest_same (List.all_eq_true.mp nl_all w hw) hv (h w hw)
theorem NW.use {s : State} {args : Array Value} (h : NW s) {w : Cond} (hw : w ∈ NLm) : w.before args s = true := nest_use (List.all_eq_true.mp nl_all w hw) (h w hw)
def GW : List Cond := lw_tbl.filter goodWord
theorem gw_mem {w : Cond} (h : w ∈ lw_tbl) (hg : goodWord w = true) : w ∈ GW := List.mem_filter.mpr ⟨h, hg⟩
theorem gw_tbl {w : Cond} (h : w ∈ GW) : w ∈ lw_tbl := (List.mem_filter.mp h).1
theorem gw_ok {w : Cond} (h : w ∈ GW) : (w.onTables && w.keeps) = true ∨ ∃ ty, w = .arrayClass ty := good_of_word (List.mem_filter.mp h).2
theorem gw_in {ck : Cond} (h : ck ∈ GW) : GoodIn GW (ck :: GW) := fun w hw => by
  rcases List.mem_cons.mp hw with rfl | h9
  · exact ⟨h, gw_ok h⟩
  · exact ⟨h9, gw_ok h9⟩
theorem gw_V {ck : Cond} {own C : String} {idx : Nat} {y : MethodName} (h : ck ∈ GW) (h1 : Cond.methodLink own idx y ∈ GW) (h2 : Cond.instanceMethod y ∈ GW) (h3 : Cond.selects C y y ∈ GW) (h4 : Cond.initialized C ∈ GW) : GoodIn GW (wsV own idx C y (ck :: GW)) := fun w hw => by
  rcases List.mem_append.mp hw with h9 | h9
  · simp only [List.mem_cons, List.not_mem_nil, or_false] at h9
    rcases h9 with rfl | rfl | rfl | rfl
    · exact ⟨h1, gw_ok h1⟩
    · exact ⟨h2, gw_ok h2⟩
    · exact ⟨h3, gw_ok h3⟩
    · exact ⟨h4, gw_ok h4⟩
  · exact gw_in h w h9
theorem gw_S {ck : Cond} {own : String} {idx : Nat} {y : MethodName} (h : ck ∈ GW) (h1 : Cond.methodLink own idx y ∈ GW) (h2 : Cond.static y ∈ GW) (h4 : Cond.initialized y.cls ∈ GW) : GoodIn GW (va_wsS own idx y (ck :: GW)) := fun w hw => by
  rcases List.mem_append.mp hw with h9 | h9
  · simp only [List.mem_cons, List.not_mem_nil, or_false] at h9
    rcases h9 with rfl | rfl | rfl
    · exact ⟨h1, gw_ok h1⟩
    · exact ⟨h2, gw_ok h2⟩
    · exact ⟨h4, gw_ok h4⟩
  · exact gw_in h w h9
def PB (D : va_G) (tys : List (ClassId × FieldType)) (w : va_W) (sz : Nat) : State → Prop := fun U => U.heap.size = sz ∧ va_P D vwCl w U.heap ∧ va_K D vwCl tys U ∧ va_D (fun _ => True) w ∧ NW U
def BW (D : va_G) (tys : List (ClassId × FieldType)) (A : Nat → Prop) : va_W → State → Prop := fun u t => va_P D vwCl u t.heap ∧ va_K D vwCl tys t ∧ va_D A u
def rmf (d mc ms : Nat) : Room := { frames := d, cells := mc, slots := ms, locals := 48 * d }
abbrev CT (l : Launch) (D : va_G) (tys : List (ClassId × FieldType)) (y : MethodName) (ck : Cond) (d mc ms : Nat) (w : va_W) (As : List Value) (Qc : (Nat → Prop) → Array Value → State → Outcome → State → Prop) : Prop :=
  ∀ sz : Nat, Met l y (ck :: GW) (rmf d mc ms) (va_Pc As (PB D tys w sz)) (Qc (va_A w sz)) mc ms (va_A w sz)
abbrev QI (D : va_G) (tys : List (ClassId × FieldType)) (post : Int32 → va_W → Prop) : (Nat → Prop) → Array Value → State → Outcome → State → Prop := fun A => va_Qi post (BW D tys A) A
abbrev QL (D : va_G) (tys : List (ClassId × FieldType)) (post : Int64 → va_W → Prop) : (Nat → Prop) → Array Value → State → Outcome → State → Prop := fun A => va_Ql post (BW D tys A) A
abbrev QD (D : va_G) (tys : List (ClassId × FieldType)) (post : UInt64 → va_W → Prop) : (Nat → Prop) → Array Value → State → Outcome → State → Prop := fun A => va_Qd post (BW D tys A) A
abbrev QV (D : va_G) (tys : List (ClassId × FieldType)) (post : va_W → Prop) : (Nat → Prop) → Array Value → State → Outcome → State → Prop := fun A => va_Qv post (BW D tys A) A
abbrev QR (D : va_G) (tys : List (ClassId × FieldType)) (post : Nat → va_W → Prop) : (Nat → Prop) → Array Value → State → Outcome → State → Prop := fun A => va_Qr (fun _ : va_W => True) (fun u ra t => post ra u ∧ BW D tys A u t) A
theorem blindPB {As : List Value} {D : va_G} {tys : List (ClassId × FieldType)} {w : va_W} {sz : Nat} : FrameBlind (va_Pc As (PB D tys w sz)) := fun a U g mk q => by
  obtain ⟨q0, q1, qP, qK, qD, qN⟩ := q
  exact ⟨q0, q1, qP, va_K.moved (u := U) (U := U.calling g mk a) (Vm.Alike.refl U.vm) qK, qD, qN.same rfl⟩
/-- a method's entry -/
theorem ent {l : Launch} {D : va_G} {tys : List (ClassId × FieldType)} {y : MethodName} {cc : ByteArray} {maxL : Nat} {ret : Option FieldType} {d mc ms : Nat} {w : va_W} {As : List Value} {Qc : (Nat → Prop) → Array Value → State → Outcome → State → Prop} (hy : plainName y.cls = true) (hlen : (lg_sl As).length ≤ maxL)
    (body : ∀ (p : Program) (e : Env) (s : State) (m : MethodId) (below : List Frame) (meth : Method) (c : Code) (ls : Array Slot) (A : Nat → Prop), p.tables.exec = Jvm.exec → c.code = cc → meth.sig.returnType = ret → (∀ w ∈ GW, w.before As.toArray s = true) → s.vm.findClass y.cls = some m.cls → c.maxLocals = maxL → meth.locks = false → meth.name = y.name →
      va_P D vwCl w s.heap → va_K D vwCl tys s → va_D A w → va_S A s.heap s.heap [] → (∀ q, s.heap.size ≤ q → A q) → NW s → lv_has ls maxL (lv_args 0 As) →
      W p l e (rmf d mc ms) s m As.toArray below meth c s.heap [] 0 0 (MQ below (Qc A) As.toArray s mc ms A) (F0 m 0 ls [])) : CT l D tys y (.code y cc maxL ret) d mc ms w As Qc := by
  intro sz
  refine Met.ofW (cc := cc) (maxL := maxL) (ret := ret) hy rfl ?_
  intro p e s m args below meth c s₁ B hml hv
  obtain ⟨rfl, hsz, hP, hK, hD0, hN⟩ := hv
  have hts := atoms_spec (ws := (.code y cc maxL ret) :: GW) B.pre
  subst hsz
  have hD := hD0.self (sz := s.heap.size)
  have hl := lv_entry As (n := maxL) hlen
  rw [lg_entry_eq]
  exact body p e s m below meth c _ (va_A w s.heap.size) B.exec B.bytes B.returns (fun w hw => hts w (List.mem_cons_of_mem _ hw)) (findClass_of_methodNamed B.named) hml B.notSynchronized (name_of_methodNamed B.named B.method).1 hP hK hD va_S.rf (fun q h => Or.inr h) hN hl
section XR
variable {p : Program} {l : Launch} {e : Env} {R : Room} {s : State} {m : MethodId} {args : Array Value} {below : List Frame} {meth : Method} {c : Code} {H : Heap} {locs : List Loc} {cells slots : Nat} {Q : State → Prop}
variable {cc bytes : ByteArray} {pc : Nat} {ls : Array Slot} {st0 rest : List Value} {D : va_G} {tys : List (ClassId × FieldType)} {A : Nat → Prop} {w : va_W}
variable {y : MethodName} {maxL nL mc ms n index d q0 ci N b : Nat} {ret : Option FieldType} {own C : String} {T : u_T} {As fs : List Value} {Qc : (Nat → Prop) → Array Value → State → Outcome → State → Prop} {host : String}
theorem hpre (hK : va_K D vwCl tys s) (hN : NW s) (hP : va_P D vwCl w H) (hD : va_D A w) (av : List Value) : PreS s H (va_Pc av (PB D tys w H.size)) av :=
  ⟨blindPB, fun U hU hW => ⟨rfl, by rw [hU], by rw [hU]; exact hP, va_K.moved hW.alike hK, hD.weaken (fun _ _ _ _ => trivial), hN.warm hW⟩⟩
theorem rV (hx : p.tables.exec = Jvm.exec) (hb : c.code = cc) (hml : c.maxLocals = nL) (hown : s.vm.findClass own = some m.cls) (hg : ∀ w ∈ GW, w.before args s = true) (hN : NW s) (hK : va_K D vwCl tys s) (hP : va_P D vwCl w H) (hD : va_D A w)
    (hM : CT l D tys y (.code y bytes maxL ret) d mc ms w (.ref b :: As) Qc) (m5 : Cond.code y bytes maxL ret ∈ GW) (m1 : Cond.methodLink own index y ∈ GW) (m2 : Cond.instanceMethod y ∈ GW) (m3 : Cond.selects C y y ∈ GW) (m4 : Cond.initialized C ∈ GW)
    (hd : y.cls = C ∧ y.cls ≠ "java/lang/invoke/MethodHandle" ∧ y.cls ≠ "java/lang/invoke/VarHandle" ∧ (parseMethodDescriptor y.desc).map (fun d => d.parameters.length) = some n) (hR : (rmf d mc ms).frames + 1 ≤ R.frames ∧ 8 + (maxL + 11) + (rmf d mc ms).locals ≤ R.locals)
    (hc : vwCl[ci]? = some (C, T, N)) (hq : w[q0]? = some (b, .inr (ci, fs))) (hn : As.length = n) (hl : ls.size = nL) (hst : st0 = As.reverse ++ .ref b :: rest) (hW : (rest.map fun v => v.category).sum ≤ 8) (hdg : decode cc pc = .ok (.invokevirtual index, 3)) (hf : cells + mc ≤ R.cells ∧ slots + ms ≤ R.slots) :
    va_Run p l e R s m args below meth c H locs cells slots mc ms (F0 m pc ls st0) rest (Qc (va_A w H.size) (Value.ref b :: As).toArray) (va_A w H.size) :=
  va_runV (As := As) (rest := rest) (C := C) ⟨hx, hb, hml, hown, hg⟩ (hM H.size) (cwV n hg (gw_V m5 m1 m2 m3 m4) rfl rfl rfl hd hR) ⟨blindPB, va_recv (ci := ci) (q0 := q0) hK hP hc hq, (hpre hK hN hP hD _).2⟩ rfl hn hl hst (lv_room (m := m) (pc := pc) (ls := ls) (rest := st0) hW) hdg hf
theorem rS (hx : p.tables.exec = Jvm.exec) (hb : c.code = cc) (hml : c.maxLocals = nL) (hown : s.vm.findClass own = some m.cls) (hg : ∀ w ∈ GW, w.before args s = true) (hN : NW s) (hK : va_K D vwCl tys s) (hP : va_P D vwCl w H) (hD : va_D A w)
    (hM : CT l D tys y (.code y bytes maxL ret) d mc ms w As Qc) (m5 : Cond.code y bytes maxL ret ∈ GW) (m1 : Cond.methodLink own index y ∈ GW) (m2 : Cond.static y ∈ GW) (m4 : Cond.initialized y.cls ∈ GW)
    (hd : y.cls ≠ "java/lang/invoke/MethodHandle" ∧ y.cls ≠ "java/lang/invoke/VarHandle" ∧ (parseMethodDescriptor y.desc).map (fun d => d.parameters.length) = some n) (hR : (rmf d mc ms).frames + 1 ≤ R.frames ∧ 8 + (maxL + 11) + (rmf d mc ms).locals ≤ R.locals)
    (hn : As.length = n) (hl : ls.size = nL) (hst : st0 = As.reverse ++ rest) (hW : (rest.map fun v => v.category).sum ≤ 8) (hdg : decode cc pc = .ok (.invokestatic index, 3)) (hf : cells + mc ≤ R.cells ∧ slots + ms ≤ R.slots) :
    va_Run p l e R s m args below meth c H locs cells slots mc ms (F0 m pc ls st0) rest (Qc (va_A w H.size) As.toArray) (va_A w H.size) :=
  va_runS (As := As) (rest := rest) ⟨hx, hb, hml, hown, hg⟩ (hM H.size) (va_cwS n hg (gw_S m5 m1 m2 m4) rfl rfl rfl hd hR) (hpre hK hN hP hD _) rfl hn hl hst (lv_room (m := m) (pc := pc) (ls := ls) (rest := st0) hW) hdg hf
theorem rSN (hx : p.tables.exec = Jvm.exec) (hb : c.code = cc) (hml : c.maxLocals = nL) (hown : s.vm.findClass own = some m.cls) (hg : ∀ w ∈ GW, w.before args s = true) (hN : NW s) (hK : va_K D vwCl tys s) (hP : va_P D vwCl w H) (hD : va_D A w)
    (hM : CT l D tys y (.code y bytes maxL ret) d mc ms w As Qc) (m5 : Cond.code y bytes maxL ret ∈ GW) (m1 : Cond.methodLinkNest own index y host ∈ NLm) (m2 : Cond.static y ∈ GW) (m4 : Cond.initialized y.cls ∈ GW)
    (hd : y.cls ≠ "java/lang/invoke/MethodHandle" ∧ y.cls ≠ "java/lang/invoke/VarHandle" ∧ (parseMethodDescriptor y.desc).map (fun d => d.parameters.length) = some n) (hR : (rmf d mc ms).frames + 1 ≤ R.frames ∧ 8 + (maxL + 11) + (rmf d mc ms).locals ≤ R.locals)
    (hn : As.length = n) (hl : ls.size = nL) (hst : st0 = As.reverse ++ rest) (hW : (rest.map fun v => v.category).sum ≤ 8) (hdg : decode cc pc = .ok (.invokestatic index, 3)) (hf : cells + mc ≤ R.cells ∧ slots + ms ≤ R.slots) :
    va_Run p l e R s m args below meth c H locs cells slots mc ms (F0 m pc ls st0) rest (Qc (va_A w H.size) As.toArray) (va_A w H.size) :=
  va_runSN (As := As) (rest := rest) (host := host) ⟨hx, hb, hml, hown, hg⟩ (hM H.size) ⟨va_cnB n hg (gw_in m5) rfl rfl rfl (hN _ m1) (hg _ m4) hd hR, hg _ m2, trivial⟩ (hpre hK hN hP hD _) rfl hn hl hst (lv_room (m := m) (pc := pc) (ls := ls) (rest := st0) hW) hdg hf
theorem rI (hx : p.tables.exec = Jvm.exec) (hb : c.code = cc) (hml : c.maxLocals = nL) (hown : s.vm.findClass own = some m.cls) (hg : ∀ w ∈ GW, w.before args s = true) (hN : NW s) (hK : va_K D vwCl tys s) (hP : va_P D vwCl w H) (hD : va_D A w)
    (hM : CT l D tys y (.code y bytes maxL none) d mc ms w (.ref b :: As) Qc) (m5 : Cond.code y bytes maxL none ∈ GW) (m1 : Cond.methodLink own index y ∈ GW) (m2 : Cond.instanceMethod y ∈ GW) (m4 : Cond.initialized y.cls ∈ GW) (hy : y.name = "<init>")
    (hd : y.cls ≠ "java/lang/invoke/MethodHandle" ∧ y.cls ≠ "java/lang/invoke/VarHandle" ∧ (parseMethodDescriptor y.desc).map (fun d => d.parameters.length) = some n) (hR : (rmf d mc ms).frames + 1 ≤ R.frames ∧ 8 + (maxL + 11) + (rmf d mc ms).locals ≤ R.locals)
    (hn : As.length = n) (hl : ls.size = nL) (hst : st0 = As.reverse ++ .ref b :: rest) (hW : (rest.map fun v => v.category).sum ≤ 8) (hdg : decode cc pc = .ok (.invokespecial index, 3)) (hf : cells + mc ≤ R.cells ∧ slots + ms ≤ R.slots) :
    va_Run p l e R s m args below meth c H locs cells slots mc ms (F0 m pc ls st0) rest (Qc (va_A w H.size) (Value.ref b :: As).toArray) (va_A w H.size) :=
  va_runI (As := As) (rest := rest) ⟨hx, hb, hml, hown, hg⟩ (hM H.size) (cwI n hg (gw_in m5) rfl rfl rfl (hg _ m4) (hg _ m1) (hg _ m2) hy hd hR) (hpre hK hN hP hD _) rfl hn hl hst (lv_room (m := m) (pc := pc) (ls := ls) (rest := st0) hW) hdg hf
theorem rIN (hx : p.tables.exec = Jvm.exec) (hb : c.code = cc) (hml : c.maxLocals = nL) (hown : s.vm.findClass own = some m.cls) (hg : ∀ w ∈ GW, w.before args s = true) (hN : NW s) (hK : va_K D vwCl tys s) (hP : va_P D vwCl w H) (hD : va_D A w)
    (hM : CT l D tys y (.code y bytes maxL none) d mc ms w (.ref b :: As) Qc) (m5 : Cond.code y bytes maxL none ∈ GW) (m1 : Cond.methodLinkNest own index y host ∈ NLm) (m2 : Cond.instanceMethod y ∈ GW) (m4 : Cond.initialized y.cls ∈ GW) (hy : y.name = "<init>")
    (hd : y.cls ≠ "java/lang/invoke/MethodHandle" ∧ y.cls ≠ "java/lang/invoke/VarHandle" ∧ (parseMethodDescriptor y.desc).map (fun d => d.parameters.length) = some n) (hR : (rmf d mc ms).frames + 1 ≤ R.frames ∧ 8 + (maxL + 11) + (rmf d mc ms).locals ≤ R.locals)
    (hn : As.length = n) (hl : ls.size = nL) (hst : st0 = As.reverse ++ .ref b :: rest) (hW : (rest.map fun v => v.category).sum ≤ 8) (hdg : decode cc pc = .ok (.invokespecial index, 3)) (hf : cells + mc ≤ R.cells ∧ slots + ms ≤ R.slots) :
    va_Run p l e R s m args below meth c H locs cells slots mc ms (F0 m pc ls st0) rest (Qc (va_A w H.size) (Value.ref b :: As).toArray) (va_A w H.size) :=
  va_runIN (As := As) (rest := rest) (host := host) ⟨hx, hb, hml, hown, hg⟩ (hM H.size) ⟨va_cnB n hg (gw_in m5) rfl rfl rfl (hN _ m1) (hg _ m4) hd hR, hy, hg _ m2⟩ (hpre hK hN hP hD _) rfl hn hl hst (lv_room (m := m) (pc := pc) (ls := ls) (rest := st0) hW) hdg hf
theorem fr_all {H0 : Heap} (hD : va_D A w) (hS : va_S A H0 H locs) (hA : ∀ q, H0.size ≤ q → A q) : ∀ q, va_A w H.size q → A q := fun q h => by
  rcases h with ⟨k, e, h⟩ | h
  · exact hD.2 k (q, e) h
  · exact hA q (Nat.le_trans hS.1 h)
variable {H0 : Heap} {a9 : Array Value}
theorem kI {post : Int32 → va_W → Prop} (hr : va_Run p l e R s m args below meth c H locs cells slots mc ms (F0 m pc ls st0) rest (QI D tys post (va_A w H.size) a9) (va_A w H.size)) (hD : va_D A w) (hS : va_S A H0 H locs) (hA : ∀ q, H0.size ≤ q → A q)
    (kk : ∀ (r : Int32) (u : va_W) (H1 : Heap) (locs1 : List Loc), post r u → va_P D vwCl u H1 → va_D A u → va_S A H0 H1 locs1 → W p l e R s m args below meth c H1 locs1 (cells + mc) (slots + ms) Q (F0 m (pc + 3) ls (.int r :: rest))) : W p l e R s m args below meth c H locs cells slots Q (F0 m pc ls st0) :=
  va_calli hr hS (fun q _ h => fr_all hD hS hA q h) (fr_all hD hS hA) (fun r u t H1 locs1 ht hvm hw hB hz1 hk1 hS1 => kk r u H1 locs1 hw (by rw [← ht]; exact hB.1) (hB.2.2.weaken (fun k q _ h => fr_all hD hS hA q.1 h)) hS1)
theorem kL {post : Int64 → va_W → Prop} (hr : va_Run p l e R s m args below meth c H locs cells slots mc ms (F0 m pc ls st0) rest (QL D tys post (va_A w H.size) a9) (va_A w H.size)) (hD : va_D A w) (hS : va_S A H0 H locs) (hA : ∀ q, H0.size ≤ q → A q)
    (kk : ∀ (r : Int64) (u : va_W) (H1 : Heap) (locs1 : List Loc), post r u → va_P D vwCl u H1 → va_D A u → va_S A H0 H1 locs1 → W p l e R s m args below meth c H1 locs1 (cells + mc) (slots + ms) Q (F0 m (pc + 3) ls (.long r :: rest))) : W p l e R s m args below meth c H locs cells slots Q (F0 m pc ls st0) :=
  va_calll hr hS (fun q _ h => fr_all hD hS hA q h) (fr_all hD hS hA) (fun r u t H1 locs1 ht hvm hw hB hz1 hk1 hS1 => kk r u H1 locs1 hw (by rw [← ht]; exact hB.1) (hB.2.2.weaken (fun k q _ h => fr_all hD hS hA q.1 h)) hS1)
theorem kD {post : UInt64 → va_W → Prop} (hr : va_Run p l e R s m args below meth c H locs cells slots mc ms (F0 m pc ls st0) rest (QD D tys post (va_A w H.size) a9) (va_A w H.size)) (hD : va_D A w) (hS : va_S A H0 H locs) (hA : ∀ q, H0.size ≤ q → A q)
    (kk : ∀ (r : UInt64) (u : va_W) (H1 : Heap) (locs1 : List Loc), post r u → va_P D vwCl u H1 → va_D A u → va_S A H0 H1 locs1 → W p l e R s m args below meth c H1 locs1 (cells + mc) (slots + ms) Q (F0 m (pc + 3) ls (.double r :: rest))) : W p l e R s m args below meth c H locs cells slots Q (F0 m pc ls st0) :=
  va_calld hr hS (fun q _ h => fr_all hD hS hA q h) (fr_all hD hS hA) (fun r u t H1 locs1 ht hvm hw hB hz1 hk1 hS1 => kk r u H1 locs1 hw (by rw [← ht]; exact hB.1) (hB.2.2.weaken (fun k q _ h => fr_all hD hS hA q.1 h)) hS1)
theorem kV {post : va_W → Prop} (hr : va_Run p l e R s m args below meth c H locs cells slots mc ms (F0 m pc ls st0) rest (QV D tys post (va_A w H.size) a9) (va_A w H.size)) (hD : va_D A w) (hS : va_S A H0 H locs) (hA : ∀ q, H0.size ≤ q → A q)
    (kk : ∀ (u : va_W) (H1 : Heap) (locs1 : List Loc), post u → va_P D vwCl u H1 → va_D A u → va_S A H0 H1 locs1 → W p l e R s m args below meth c H1 locs1 (cells + mc) (slots + ms) Q (F0 m (pc + 3) ls rest)) : W p l e R s m args below meth c H locs cells slots Q (F0 m pc ls st0) :=
  va_callv hr hS (fun q _ h => fr_all hD hS hA q h) (fr_all hD hS hA) (fun u t H1 locs1 ht hvm hw hB hz1 hk1 hS1 => kk u H1 locs1 hw (by rw [← ht]; exact hB.1) (hB.2.2.weaken (fun k q _ h => fr_all hD hS hA q.1 h)) hS1)
theorem kR {post : Nat → va_W → Prop} (hr : va_Run p l e R s m args below meth c H locs cells slots mc ms (F0 m pc ls st0) rest (QR D tys post (va_A w H.size) a9) (va_A w H.size)) (hD : va_D A w) (hS : va_S A H0 H locs) (hA : ∀ q, H0.size ≤ q → A q)
    (kk : ∀ (ra : Nat) (u : va_W) (H1 : Heap) (locs1 : List Loc), post ra u → va_P D vwCl u H1 → va_D A u → va_S A H0 H1 locs1 → W p l e R s m args below meth c H1 locs1 (cells + mc) (slots + ms) Q (F0 m (pc + 3) ls (.ref ra :: rest))) : W p l e R s m args below meth c H locs cells slots Q (F0 m pc ls st0) :=
  va_callr hr hS (fun q _ h => fr_all hD hS hA q h) (fr_all hD hS hA) (fun u ra t H1 locs1 ht hvm _ hB hz1 hk1 hS1 => kk ra u H1 locs1 hB.1 (by rw [← ht]; exact hB.2.1) (hB.2.2.2.weaken (fun k q _ h => fr_all hD hS hA q.1 h)) hS1)
/-- a loop that counts up -/
theorem w_loop {σ : Type} (Inv : Nat → σ → Heap → List Loc → Array Slot → Prop) (N : Nat)
    (hx : ∀ (u : σ) (H : Heap) (locs : List Loc) (ls : Array Slot), Inv N u H locs ls → W p l e R s m args below meth c H locs cells slots Q (F0 m pc ls []))
    (hs : ∀ (i : Nat) (u : σ) (H : Heap) (locs : List Loc) (ls : Array Slot), i < N → Inv i u H locs ls → (∀ (u' : σ) (H' : Heap) (locs' : List Loc) (ls' : Array Slot), Inv (i + 1) u' H' locs' ls' → W p l e R s m args below meth c H' locs' cells slots Q (F0 m pc ls' [])) → W p l e R s m args below meth c H locs cells slots Q (F0 m pc ls []))
    (i : Nat) (u : σ) (hi : i ≤ N) (h : Inv i u H locs ls) : W p l e R s m args below meth c H locs cells slots Q (F0 m pc ls []) := by
  obtain ⟨k, hk⟩ : ∃ k, N = i + k := ⟨N - i, by omega⟩
  induction k generalizing i u H locs ls with
  | zero =>
    have e9 : N = i := by omega
    subst e9
    exact hx u H locs ls h
  | succ k ih =>
    exact hs i u H locs ls (by omega) h (fun u' H' locs' ls' h' => ih (i + 1) u' (by omega) h' (by omega))
end XR
section XN
variable {p : Program} {l : Launch} {e : Env} {R : Room} {s : State} {m : MethodId} {args : Array Value} {below : List Frame} {meth : Method} {c : Code} {H : Heap} {locs : List Loc} {cells slots : Nat} {Q : State → Prop}
variable {cc : ByteArray} {pc : Nat} {ls : Array Slot} {rest : List Value} {D : va_G} {cl : List vw_C} {A : Nat → Prop} {a : Nat} {tys : List (ClassId × FieldType)} {ws : va_W} {H0 : Heap}
/-- a new array of a class that is known -/
theorem my_newa (hexec : p.tables.exec = Jvm.exec) (hb : c.code = cc) {atype : ArrayType} (harr : (Cond.arrayClass (newarray.typeOf atype)).before args s = true) {ty : FieldType} (hty : newarray.typeOf atype = ty) (hK : va_K D cl tys s) (hP : va_P D cl ws H) (hD : va_D A ws) (hS : va_S A H0 H locs) (hA : ∀ q, H0.size ≤ q → A q) (t0 : Nat) {c0 : ClassId} (ht : tys[t0]? = some (c0, ty)) (hRA : ∀ c1, va_RA s c1 ty → s.vm.findClass ("[" ++ ty.toString) = some c1)
    {n : Int32} {N' : Nat} {a0 : vp_A} (ha : ∀ cA : ClassId, vp_cell cA a0 = arrV cA N' (fun _ => defaultValue ty)) (hn : ¬ n < 0) (hN : n.toNatClampNeg = N') (hbytes : N' * componentBytes ty ≤ 536870912) (hcells : cells + 1 ≤ R.cells) (hslots : slots + N' ≤ R.slots) (hdg : decode cc pc = .ok (.newarray atype, 2))
    (kk : ∀ (q : Nat) (H1 : Heap), va_P D cl (ws ++ [(q, .inl (c0, a0))]) H1 → va_D A (ws ++ [(q, .inl (c0, a0))]) → va_S A H0 H1 locs →
      W p l e R s m args below meth c H1 locs (cells + 1) (slots + N') Q (F0 m (pc + 2) ls (.ref q :: rest))) : W p l e R s m args below meth c H locs cells slots Q (F0 m pc ls (.int n :: rest)) := by
  refine va_newa hexec hb harr hty hK hP hD hS hA ha hn hN hbytes hcells hslots hdg (fun q cA H1 hK1 hP1 hD1 hS1 => ?_)
  have h1 := hRA _ (hK1.2 tys.length (cA, ty) (by simp)).2
  have h2 := hRA _ (hK.2 t0 _ ht).2
  have h3 : cA = c0 := Option.some.inj (h1.symm.trans h2)
  subst h3
  exact kk q H1 hP1 hD1 hS1
end XN
end
section
/-! ===== the class, once more, as functions: an object is its int fields, its long fields, its int rows, its long rows ===== -/
abbrev Ob : Type := (Nat → Int32) × (Nat → Int64) × (Nat → Nat → Int32) × (Nat → Nat → Int64)
def gi (o : Ob) (k : Nat) : Int32 := o.1 k
def gl (o : Ob) (k : Nat) : Int64 := o.2.1 k
def gA (o : Ob) (k : Nat) : Nat → Int32 := o.2.2.1 k
def gB (o : Ob) (k : Nat) : Nat → Int64 := o.2.2.2 k
def si (o : Ob) (k : Nat) (v : Int32) : Ob := (va_up o.1 k v, o.2.1, o.2.2.1, o.2.2.2)
def sl (o : Ob) (k : Nat) (v : Int64) : Ob := (o.1, va_up o.2.1 k v, o.2.2.1, o.2.2.2)
def sA (o : Ob) (k : Nat) (v : Nat → Int32) : Ob := (o.1, o.2.1, va_up o.2.2.1 k v, o.2.2.2)
def sB (o : Ob) (k : Nat) (v : Nat → Int64) : Ob := (o.1, o.2.1, o.2.2.1, va_up o.2.2.2 k v)
def rd (f : Nat → Int32) (n : Nat) (i : Int32) : Int32 := if i < 0 then 0 else if i < nI n then f i.toNatClampNeg else 0
def rdL (f : Nat → Int64) (n : Nat) (i : Int32) : Int64 := if i < 0 then 0 else if i < nI n then f i.toNatClampNeg else 0
def wr (f : Nat → Int32) (n : Nat) (i : Int32) (v : Int32) : Nat → Int32 := if i < 0 then f else if i < nI n then upd f i.toNatClampNeg v else f
def wrL (f : Nat → Int64) (n : Nat) (i : Int32) (v : Int64) : Nat → Int64 := if i < 0 then f else if i < nI n then vp_updL f i.toNatClampNeg v else f
def b2i (b : Bool) : Int32 := cond b 1 0
def nN (x : Int32) : Nat := x.toInt.toNat
def us (x : Int64) (k : Int32) : Int64 := (x.toUInt64 >>> (k.toInt64.toUInt64 &&& Int64.toUInt64 63)).toInt64
def sh (x : Int64) (k : Int32) : Int64 := x <<< (k.toInt64 &&& 63)
def lp {σ : Type} (f : Nat → σ → σ) (n : Nat) (s : σ) : σ := Nat.rec s (fun k r => f k r) n
def lpW {σ : Type} (c : σ → Bool) (f : σ → σ) (n : Nat) (s : σ) : σ := Nat.rec s (fun _ r => if c r then f r else r) n
def fnd (p : Nat → Bool) (n : Nat) : Nat := Nat.rec 0 (fun k r => if r < k then r else if p k then k else k + 1) n
-- small ones
def bitL (n : Int32) : Int64 := sh 1 n
def hs (x : Int64) (n : Int32) : Bool := decide (¬ (us x n &&& 1) = 0)
def bc1 (x : Int64) : Int64 := x - (us x 1 &&& 6148914691236517205)
def bc2 (x : Int64) : Int64 := (x &&& 3689348814741910323) + (us x 2 &&& 3689348814741910323)
def bc3 (x : Int64) : Int64 := (x + us x 4) &&& 1085102592571150095
def bc4 (x : Int64) : Int64 := x + us x 8
def bc5 (x : Int64) : Int64 := x + us x 16
def bc6 (x : Int64) : Int64 := x + us x 32
def bc (x : Int64) : Int32 := (bc6 (bc5 (bc4 (bc3 (bc2 (bc1 x)))))).toInt32 &&& 127
def lowest (x : Int64) : Int32 := bc ((x &&& (-x)) - 1)
def jmp (k : Int32) : Bool := decide (k = 1) || decide (k = 2)
def isT (k : Int32) : Bool := decide (¬ k < 0) && decide (¬ 40 < k)
def imax (x y : Int32) : Int32 := if x < y then y else x
def imin (x y : Int32) : Int32 := if y < x then y else x
def spStep (next : Nat → Int64) (without : Int64) (p : Int64 × Int64) : Int64 × Int64 :=
  (p.1 ||| ((rdL next 40 (lowest p.2) &&& (p.1 ^^^ (-1))) &&& (without ^^^ (-1))), (p.2 &&& (bitL (lowest p.2) ^^^ (-1))) ||| ((rdL next 40 (lowest p.2) &&& (p.1 ^^^ (-1))) &&& (without ^^^ (-1))))
def spGo (p : Int64 × Int64) : Bool := decide (¬ p.2 = 0)
def spread (next : Nat → Int64) (set without : Int64) : Int64 :=
  (lpW spGo (spStep next without) 41 (set &&& (without ^^^ (-1)), set &&& (without ^^^ (-1)))).1
def mixI (d : Int64) (v : Int32) : Int64 := d * 31 + v.toInt64
def mixZ (d : Int64) (b : Bool) : Int64 := d * 31 + cond b 1 0
/- Code: int rows 0 kind, 1 target, 2 sets, 3 uses; ints 0 count -/
def coCopy (co : Ob) (source goal : Int32) : Ob :=
  sA (sA (sA (sA co 0 (wr (gA co 0) 40 goal (rd (gA co 0) 40 source))) 1 (wr (gA co 1) 40 goal (rd (gA co 1) 40 source))) 2 (wr (gA co 2) 40 goal (rd (gA co 2) 40 source))) 3 (wr (gA co 3) 40 goal (rd (gA co 3) 40 source))
/- Flow: int rows 0 home, 1 first, 2 last, 3 from, 4 to, 5 firstEdge; long rows 0 next; ints 0 blockCount, 1 edgeCount, 2 fresh; longs 0 reached -/
def leadA (co : Ob) (i : Nat) (l : Int64) : Int64 := if rd (gA co 0) 40 (nI i) = 0 then l else l ||| bitL (nI i + 1)
def leadStep (co : Ob) (i : Nat) (l : Int64) : Int64 := if jmp (rd (gA co 0) 40 (nI i)) then leadA co i l ||| bitL (rd (gA co 1) 40 (nI i)) else leadA co i l
def leaders (co : Ob) : Int64 := lp (leadStep co) (nN (gi co 0)) 1
def cutA (ld : Int64) (i : Nat) (fl : Ob) : Ob := if hs ld (nI i) then si (sA fl 1 (wr (gA fl 1) 40 (gi fl 0) (nI i))) 0 (gi fl 0 + 1) else fl
def cutB (i : Nat) (fl : Ob) : Ob := sA (sA fl 0 (wr (gA fl 0) 40 (nI i) (gi fl 0 - 1))) 2 (wr (gA fl 2) 40 (gi fl 0 - 1) (nI i))
def cutStep (ld : Int64) (i : Nat) (fl : Ob) : Ob := cutB i (cutA ld i fl)
def cut (fl : Ob) (count : Int32) (ld : Int64) : Ob := lp (cutStep ld) (nN count) (si fl 0 0)
def joinG (fl : Ob) (instr count : Int32) : Int32 := if instr < count then rd (gA fl 0) 40 instr else 40
def joinP (fl : Ob) (block goal : Int32) : Ob :=
  si (sA (sA (sB fl 0 (wrL (gB fl 0) 40 block (rdL (gB fl 0) 40 block ||| bitL goal))) 3 (wr (gA fl 3) 80 (gi fl 1) block)) 4 (wr (gA fl 4) 80 (gi fl 1) (if goal = 40 then -1 else goal))) 1 (gi fl 1 + 1)
def join (fl : Ob) (block instr count : Int32) : Ob := if hs (rdL (gB fl 0) 40 block) (joinG fl instr count) then fl else joinP fl block (joinG fl instr count)
def leaveA (co fl : Ob) (block e k : Int32) : Ob := if k = 0 then join fl block (e + 1) (gi co 0) else if k = 1 then join fl block (e + 1) (gi co 0) else fl
def leaveB (co fl : Ob) (block e k : Int32) : Ob := if jmp k then join fl block (rd (gA co 1) 40 e) (gi co 0) else fl
def leaveC (co fl : Ob) (block k : Int32) : Ob := if k = 3 then join fl block (gi co 0) (gi co 0) else fl
def leaveK (co fl : Ob) (block : Int32) : Int32 := rd (gA co 0) 40 (rd (gA fl 2) 40 block)
def leave (co fl : Ob) (block : Int32) : Ob :=
  leaveC co (leaveB co (leaveA co fl block (rd (gA fl 2) 40 block) (leaveK co fl block)) block (rd (gA fl 2) 40 block) (leaveK co fl block)) block (leaveK co fl block)
def partStep (co : Ob) (b : Nat) (fl : Ob) : Ob := leave co (sB (sA fl 5 (wr (gA fl 5) 41 (nI b) (gi fl 1))) 0 (wrL (gB fl 0) 40 (nI b) 0)) (nI b)
def partL (co fl : Ob) : Ob := lp (partStep co) (nN (gi (cut fl (gi co 0) (leaders co)) 0)) (si (cut fl (gi co 0) (leaders co)) 1 0)
def partE (fl : Ob) : Ob := sA fl 5 (wr (gA fl 5) 41 (gi fl 0) (gi fl 1))
def part (co fl : Ob) : Ob := sl (partE (partL co fl)) 0 (if 0 < gi (partL co fl) 0 then spread (gB (partL co fl) 0) 1 (bitL 40) else 0)
def windStep (fl : Ob) (e : Nat) (many : Int32) : Int32 := if hs (gl fl 0) (rd (gA fl 3) 80 (nI e)) then many + 1 else many
def windings (fl : Ob) : Int32 := if gi fl 0 = 0 then 0 else lp (windStep fl) (nN (gi fl 1)) 0 - bc (gl fl 0) - 1 + 2
/- Ranks: long rows 0 ruled, 1 loop, 2 previous, 3 onward; ints 0 loopCount, 1 tame, 2 fresh -/
def ruledBy (fl : Ob) (b : Int32) : Int64 := gl fl 0 &&& (spread (gB fl 0) 1 (bitL b) ^^^ (-1))
def rankA (fl : Ob) (b : Nat) (ra : Ob) : Ob :=
  sB (sB (sB ra 0 (wrL (gB ra 0) 40 (nI b) (if hs (gl fl 0) (nI b) then ruledBy fl (nI b) else 0))) 2 (wrL (gB ra 2) 40 (nI b) 0)) 1 (wrL (gB ra 1) 40 (nI b) 0)
def rules (ra : Ob) (one other : Int32) : Bool := hs (rdL (gB ra 0) 40 one) other
def sortA (b : Nat) (ra : Ob) : Ob := sB ra 3 (wrL (gB ra 3) 40 (nI b) 0)
def sortC (ra : Ob) (f t : Int32) : Ob := sB ra 2 (wrL (gB ra 2) 40 t (rdL (gB ra 2) 40 t ||| bitL f))
def sortD (ra : Ob) (f t : Int32) : Ob := if rules ra t f then sortC ra f t else sB (sortC ra f t) 3 (wrL (gB ra 3) 40 f (rdL (gB ra 3) 40 f ||| bitL t))
def sortB (fl : Ob) (e : Nat) (ra : Ob) : Ob :=
  if rd (gA fl 4) 80 (nI e) < 0 then ra else if hs (gl fl 0) (rd (gA fl 3) 80 (nI e)) then sortD ra (rd (gA fl 3) 80 (nI e)) (rd (gA fl 4) 80 (nI e)) else ra
def sortEdges (fl ra : Ob) : Ob := lp (sortB fl) (nN (gi fl 1)) (lp sortA 40 ra)
def clEnds (ra : Ob) (h : Int32) : Int64 := rdL (gB ra 2) 40 h &&& rdL (gB ra 0) 40 h
def closeLoop (ra : Ob) (h : Int32) : Ob :=
  if clEnds ra h = 0 then ra else si (sB ra 1 (wrL (gB ra 1) 40 h (bitL h ||| spread (gB ra 2) (clEnds ra h) (bitL h)))) 0 (gi ra 0 + 1)
def rankT (b : Nat) (ra : Ob) : Ob := if hs (spread (gB ra 3) (rdL (gB ra 3) 40 (nI b)) 0) (nI b) then si ra 1 0 else ra
def rankB (b : Nat) (ra : Ob) : Ob := rankT b (closeLoop ra (nI b))
def rank (fl ra : Ob) : Ob := lp rankB (nN (gi fl 0)) (si (si (sortEdges fl (lp (rankA fl) 40 ra)) 0 0) 1 1)
def nearStep (ra : Ob) (b : Int32) (d : Nat) (p : Int32 × Int32) : Int32 × Int32 :=
  if nI d = b then p else if rules ra (nI d) b then (if bc (rdL (gB ra 0) 40 (nI d)) < p.2 then (nI d, bc (rdL (gB ra 0) 40 (nI d))) else p) else p
def nearest (ra : Ob) (b : Int32) : Int32 := (lp (nearStep ra b) 40 (-1, 41)).1
def goesBack (ra fl : Ob) (e : Int32) : Bool := if rd (gA fl 4) 80 e < 0 then false else rules ra (rd (gA fl 4) 80 e) (rd (gA fl 3) 80 e)
def depStep (ra : Ob) (b : Int32) (h : Nat) (many : Int32) : Int32 := if hs (rdL (gB ra 1) 40 (nI h)) b then many + 1 else many
def depth (ra : Ob) (b : Int32) : Int32 := lp (depStep ra b) 40 0
/- Lives: int rows 0 live; ints 0 vainCount, 1 fresh -/
def ahead (co : Ob) (i now : Int32) : Int32 :=
  (if rd (gA co 2) 40 i < 0 then now else now &&& ((1 <<< (rd (gA co 2) 40 i &&& 31)) ^^^ (-1))) ||| rd (gA co 3) 40 i
def behStep (fl li : Ob) (b : Int32) (k : Nat) (now : Int32) : Int32 := if hs (rdL (gB fl 0) 40 b) (nI k) then now ||| rd (gA li 0) 40 (nI k) else now
def behind (fl li : Ob) (b : Int32) : Int32 := lp (behStep fl li b) (nN (gi fl 0)) 0
def scanN (fl : Ob) (b : Int32) : Nat := ((rd (gA fl 2) 40 b).toInt - (rd (gA fl 1) 40 b).toInt + 1).toNat
def scan (co fl : Ob) (b now : Int32) : Int32 := lp (fun j now => ahead co (rd (gA fl 2) 40 b - nI j) now) (scanN fl b) now
def passB (co fl : Ob) (b : Int32) (p : Ob × Bool) : Ob × Bool :=
  (sA p.1 0 (wr (gA p.1 0) 40 b (scan co fl b (behind fl p.1 b))), p.2 || decide (¬ scan co fl b (behind fl p.1 b) = rd (gA p.1 0) 40 b))
def passStep (co fl : Ob) (j : Nat) (p : Ob × Bool) : Ob × Bool := if hs (gl fl 0) (gi fl 0 - 1 - nI j) then passB co fl (gi fl 0 - 1 - nI j) p else p
def passUp (co fl li : Ob) : Ob × Bool := lp (passStep co fl) (nN (gi fl 0)) (li, false)
def vainStep (co fl : Ob) (b : Int32) (j : Nat) (p : Int32 × Int32) : Int32 × Int32 :=
  (if rd (gA co 2) 40 (rd (gA fl 2) 40 b - nI j) < 0 then p.1 else if hs p.2.toInt64 (rd (gA co 2) 40 (rd (gA fl 2) 40 b - nI j)) then p.1 else p.1 + 1, ahead co (rd (gA fl 2) 40 b - nI j) p.2)
def vainIn (co fl li : Ob) (b : Int32) : Int32 := (lp (vainStep co fl b) (scanN fl b) (0, behind fl li b)).1
def liInit (b : Nat) (li : Ob) : Ob := sA li 0 (wr (gA li 0) 40 (nI b) 0)
def foV (co fl : Ob) (b : Nat) (li : Ob) : Ob := if hs (gl fl 0) (nI b) then si li 0 (gi li 0 + vainIn co fl li (nI b)) else li
def foP (co fl li : Ob) : Ob := (lpW (fun p : Ob × Bool => p.2) (fun p => passUp co fl p.1) 41 (lp liInit 40 li, true)).1
def follow (co fl li : Ob) : Ob := lp (foV co fl) (nN (gi fl 0)) (si (foP co fl li) 0 0)
/- Reduction: long rows 0 next; int rows 0 home, 1 rule, 2 node, 3 entry; longs 0 nodes; ints 0 stepCount, 1 fresh -/
def reInit (fl : Ob) (b : Nat) (re : Ob) : Ob :=
  sA (sB re 0 (wrL (gB re 0) 40 (nI b) (if hs (gl re 0) (nI b) then rdL (gB fl 0) 40 (nI b) else 0))) 0 (wr (gA re 0) 40 (nI b) (if hs (gl re 0) (nI b) then nI b else -1))
def feA (re : Ob) (n : Nat) (p : Int64 × Int64) : Int64 × Int64 := (p.1 ||| rdL (gB re 0) 40 (nI n), p.2 ||| (p.1 &&& rdL (gB re 0) 40 (nI n)))
def feC (n : Nat) (re : Ob) : Ob := sA re 3 (wr (gA re 3) 41 (nI n) (-1))
def feB (mine : Int64) (n : Nat) (b : Nat) (re : Ob) : Ob := if hs mine (nI b) then sA re 3 (wr (gA re 3) 41 (nI b) (nI n)) else re
def feN (only : Int64) (n : Nat) (re : Ob) : Ob := lp (feB (rdL (gB re 0) 40 (nI n) &&& only) n) 40 re
def feOnly (re : Ob) : Int64 := (lp (feA re) 40 (0, bitL 40 ||| 1)).1 &&& ((lp (feA re) 40 (0, bitL 40 ||| 1)).2 ^^^ (-1))
def findEntries (re : Ob) : Ob := lp (feN (feOnly re)) 40 (lp feC 41 re)
def isSingle (re : Ob) (a b c : Int32) : Bool := decide (rd (gA re 3) 41 b = a) && decide (rdL (gB re 0) 40 b = bitL c)
def isDouble (re : Ob) (a b c : Int32) : Bool :=
  decide (rd (gA re 3) 41 b = a) && (decide (rd (gA re 3) 41 c = a) && (decide (bc (rdL (gB re 0) 40 b) = 1) && (decide (rdL (gB re 0) 40 b = rdL (gB re 0) 40 c) && decide ((rdL (gB re 0) 40 b &&& (bitL a ||| bitL b ||| bitL c)) = 0))))
def rfC (out : Int64) : Int32 := lowest (out &&& (bitL (lowest out) ^^^ (-1)))
def ruleTwo (re : Ob) (a b c : Int32) : Int32 := if isSingle re a b c then 2 else if isSingle re a c b then 2 else if isDouble re a b c then 3 else -1
def ruleFor (re : Ob) (a : Int32) : Int32 :=
  if hs (rdL (gB re 0) 40 a) a then 0
  else if bc (rdL (gB re 0) 40 a) = 1 then (if rd (gA re 3) 41 (lowest (rdL (gB re 0) 40 a)) = a then 1 else -1)
  else if bc (rdL (gB re 0) 40 a) = 2 then ruleTwo re a (lowest (rdL (gB re 0) 40 a)) (rfC (rdL (gB re 0) 40 a))
  else -1
def mgA (members : Int64) (n : Nat) (p : Ob × Int64) : Ob × Int64 :=
  if hs members (nI n) then (sB p.1 0 (wrL (gB p.1 0) 40 (nI n) 0), p.2 ||| rdL (gB p.1 0) 40 (nI n)) else p
def mgC (members : Int64) (name : Int32) (n : Nat) (re : Ob) : Ob :=
  if (rdL (gB re 0) 40 (nI n) &&& members) = 0 then re else sB re 0 (wrL (gB re 0) 40 (nI n) ((rdL (gB re 0) 40 (nI n) &&& (members ^^^ (-1))) ||| bitL name))
def mgD (members : Int64) (name : Int32) (n : Nat) (re : Ob) : Ob :=
  if rd (gA re 0) 40 (nI n) < 0 then re else if hs members (rd (gA re 0) 40 (nI n)) then sA re 0 (wr (gA re 0) 40 (nI n) name) else re
def mgB (members : Int64) (name : Int32) (n : Nat) (re : Ob) : Ob := mgD members name n (mgC members name n re)
def mgN (p : Ob × Int64) (members : Int64) (name : Int32) (circles : Bool) : Ob :=
  sl (sB p.1 0 (wrL (gB p.1 0) 40 name ((p.2 &&& (members ^^^ (-1))) ||| (if circles then bitL name else 0)))) 0 ((gl p.1 0 &&& (members ^^^ (-1))) ||| bitL name)
def merge (re : Ob) (members : Int64) (name : Int32) (circles : Bool) : Ob := lp (mgB members name) 40 (mgN (lp (mgA members) 40 (re, 0)) members name circles)
def apM (re : Ob) (found a : Int32) (out : Int64) : Int64 :=
  if found = 2 then (bitL a ||| out) &&& (bitL (if isSingle re a (lowest out) (rfC out) then rfC out else lowest out) ^^^ (-1)) else bitL a ||| out
def apC (re : Ob) (found a : Int32) (out : Int64) : Bool := decide (found = 1) && hs (rdL (gB re 0) 40 (lowest out)) a
def apply (re : Ob) (found a : Int32) : Ob :=
  if found = 0 then sB re 0 (wrL (gB re 0) 40 a (rdL (gB re 0) 40 a &&& (bitL a ^^^ (-1))))
  else merge re (apM re found a (rdL (gB re 0) 40 a)) (lowest (apM re found a (rdL (gB re 0) 40 a))) (apC re found a (rdL (gB re 0) 40 a))
def foundAt (re : Ob) (n : Nat) : Int32 := if hs (gl re 0) (nI n) then ruleFor re (nI n) else -1
def isFound (re : Ob) (n : Nat) : Bool := decide (¬ foundAt re n = -1)
def tsPut (re : Ob) (n : Nat) : Ob :=
  si (sA (sA re 1 (wr (gA re 1) 120 (gi re 0) (foundAt re n))) 2 (wr (gA re 2) 120 (gi re 0) (nI n))) 0 (gi re 0 + 1)
def takeF (re : Ob) (k : Nat) : Ob × Bool := if k < 40 then (apply (tsPut re k) (foundAt re k) (nI k), true) else (re, false)
def takeStep (re : Ob) : Ob × Bool := takeF (findEntries re) (fnd (isFound (findEntries re)) 40)
def reduce (fl re : Ob) : Ob := (lpW (fun p : Ob × Bool => p.2) (fun p => takeStep p.1) 120 (lp (reInit fl) 40 (si (sl re 0 (gl fl 0)) 0 0), true)).1
/- Walk: int rows 0 came, 1 upper, 2 lower, 3 open, 4 edge; ints 0 cameCount, 1 openCount; longs 0 seen, 1 stillGoing -/
def enter (fl wa : Ob) (b : Int32) : Ob :=
  sl (sl (sA (si (sA (si (sA wa 0 (wr (gA wa 0) 40 (gi wa 0) b)) 0 (gi wa 0 + 1)) 3 (wr (gA wa 3) 40 (gi wa 1) b)) 1 (gi wa 1 + 1)) 4 (wr (gA wa 4) 40 b (rd (gA fl 5) 41 b))) 0 (gl wa 0 ||| bitL b)) 1 (gl wa 1 ||| bitL b)
def goE (wa : Ob) (block : Int32) : Int32 := rd (gA wa 4) 40 block
def goM (wa : Ob) (block e goal : Int32) : Ob :=
  sA (sA (sA wa 4 (wr (gA wa 4) 40 block (e + 1))) 1 (wr (gA wa 1) 80 e (if hs (gl wa 1) goal then goal else block))) 2 (wr (gA wa 2) 80 e (if hs (gl wa 1) goal then block else goal))
def goD (fl wa : Ob) (block e goal : Int32) : Ob := if hs (gl wa 0) goal then goM wa block e goal else enter fl (goM wa block e goal) goal
def goF (fl wa : Ob) (block e goal : Int32) : Ob :=
  if goal < 0 then sA wa 4 (wr (gA wa 4) 40 block (e + 1)) else if goal = block then sA wa 4 (wr (gA wa 4) 40 block (e + 1)) else goD fl wa block e goal
def goOn (fl wa : Ob) (block : Int32) : Ob :=
  if goE wa block < rd (gA fl 5) 41 (block + 1) then goF fl wa block (goE wa block) (rd (gA fl 4) 80 (goE wa block))
  else sl (si wa 1 (gi wa 1 - 1)) 1 (gl wa 1 &&& (bitL block ^^^ (-1)))
def gtInit (e : Nat) (wa : Ob) : Ob := sA (sA wa 1 (wr (gA wa 1) 80 (nI e) (-1))) 2 (wr (gA wa 2) 80 (nI e) (-1))
def gtZero (wa : Ob) : Ob := lp gtInit 80 (sl (sl (si (si wa 0 0) 1 0) 0 0) 1 0)
def gtStart (fl wa : Ob) : Ob := if 0 < gi fl 0 then enter fl (gtZero wa) 0 else gtZero wa
def gtGo (wa : Ob) : Bool := decide (0 < gi wa 1)
def gtStep (fl wa : Ob) : Ob := goOn fl wa (rd (gA wa 3) 40 (gi wa 1 - 1))
def goThrough (fl wa : Ob) : Ob := lpW gtGo (gtStep fl) 120 (gtStart fl wa)
def draws (wa : Ob) (e : Int32) : Bool := decide (¬ rd (gA wa 1) 80 e < 0)
def turns (fl wa : Ob) (e : Int32) : Bool := draws wa e && decide (rd (gA wa 1) 80 e = rd (gA fl 4) 80 e)
/- Picture: int rows 0 layer, 1 start, 2 firstBend, 3 edgeOf, 4 order, 5 place, 6 kept, 7 sum, 8 lines, 9 above, 10 below; ints 0 edgeCount, 1 layerCount, 2 sweeps, 3 fresh -/
def topE (wa pi : Ob) (e : Int32) : Int32 := rd (gA pi 0) 40 (rd (gA wa 1) 80 e)
def botE (wa pi : Ob) (e : Int32) : Int32 := rd (gA pi 0) 40 (rd (gA wa 2) 80 e)
def pdPut (wa pi : Ob) (e : Int32) : Ob := sA pi 0 (wr (gA pi 0) 40 (rd (gA wa 2) 80 e) (topE wa pi e + 1))
def pdStep (wa : Ob) (e : Nat) (p : Ob × Bool) : Ob × Bool :=
  if draws wa (nI e) then (if topE wa p.1 (nI e) < botE wa p.1 (nI e) then p else (pdPut wa p.1 (nI e), true)) else p
def pushDown (wa pi : Ob) : Ob × Bool := lp (pdStep wa) (nN (gi pi 0)) (pi, false)
def slInit (wa : Ob) (b : Nat) (pi : Ob) : Ob := sA pi 0 (wr (gA pi 0) 40 (nI b) (if hs (gl wa 0) (nI b) then 0 else -1))
def slMax (b : Nat) (pi : Ob) : Ob := si pi 1 (imax (gi pi 1) (rd (gA pi 0) 40 (nI b) + 1))
def slPush (wa pi : Ob) : Ob := (lpW (fun p : Ob × Bool => p.2) (fun p => pushDown wa p.1) 40 (lp (slInit wa) 40 pi, true)).1
def setLayers (wa pi : Ob) : Ob := lp slMax 40 (si (slPush wa pi) 1 0)
def bendCount (wa pi : Ob) (e : Int32) : Int32 := if draws wa e then botE wa pi e - topE wa pi e - 1 else -1
def nbIn (e : Nat) (_k : Nat) (p : Ob × Int32) : Ob × Int32 := (sA p.1 3 (wr (gA p.1 3) 1600 p.2 (nI e)), p.2 + 1)
def nbPut (e : Nat) (p : Ob × Int32) : Ob := sA p.1 2 (wr (gA p.1 2) 80 (nI e) p.2)
def nbStep (wa : Ob) (e : Nat) (p : Ob × Int32) : Ob × Int32 := lp (nbIn e) (nN (bendCount wa (nbPut e p) (nI e))) (nbPut e p, p.2)
def numberBends (wa pi : Ob) : Ob := (lp (nbStep wa) (nN (gi pi 0)) (pi, 40)).1
def putPoint (pi : Ob) (l ix pt : Int32) : Ob := sA (sA pi 4 (wr (gA pi 4) 1600 ix pt)) 5 (wr (gA pi 5) 1600 pt (ix - rd (gA pi 1) 41 l))
def pointOn (wa pi : Ob) (e l : Int32) : Int32 :=
  if l = topE wa pi e then rd (gA wa 1) 80 e else if l = botE wa pi e then rd (gA wa 2) 80 e else rd (gA pi 2) 80 e + l - topE wa pi e - 1
def fiA (wa : Ob) (l : Int32) (i : Nat) (p : Ob × Int32) : Ob × Int32 :=
  if rd (gA p.1 0) 40 (rd (gA wa 0) 40 (nI i)) = l then (putPoint p.1 l p.2 (rd (gA wa 0) 40 (nI i)), p.2 + 1) else p
def fiB (wa : Ob) (l : Int32) (e : Nat) (p : Ob × Int32) : Ob × Int32 :=
  if draws wa (nI e) then (if topE wa p.1 (nI e) < l then (if l < botE wa p.1 (nI e) then (putPoint p.1 l p.2 (pointOn wa p.1 (nI e) l), p.2 + 1) else p) else p) else p
def fill (wa pi : Ob) (l filled : Int32) : Ob × Int32 := lp (fiB wa l) (nN (gi pi 0)) (lp (fiA wa l) (nN (gi wa 0)) (pi, filled))
def drStep (wa : Ob) (l : Nat) (p : Ob × Int32) : Ob × Int32 := fill wa (sA p.1 1 (wr (gA p.1 1) 41 (nI l) p.2)) (nI l) p.2
def drNum (fl wa pi : Ob) : Ob := numberBends (goThrough fl wa) (setLayers (goThrough fl wa) (si (si pi 0 (gi fl 1)) 2 0))
def drFill (fl wa pi : Ob) : Ob × Int32 := lp (drStep (goThrough fl wa)) (nN (gi (drNum fl wa pi) 1)) (drNum fl wa pi, 0)
def draw (fl wa pi : Ob) : Ob := sA (drFill fl wa pi).1 1 (wr (gA (drFill fl wa pi).1 1) 41 (gi (drFill fl wa pi).1 1) (drFill fl wa pi).2)
def sizeOf (pi : Ob) (l : Int32) : Int32 := rd (gA pi 1) 41 (l + 1) - rd (gA pi 1) 41 l
def shPt (pi : Ob) (l spot : Int32) : Int32 := rd (gA pi 4) 1600 (rd (gA pi 1) 41 l + spot)
def shownAt (pi : Ob) (l spot : Int32) : Int32 := if shPt pi l spot < 40 then shPt pi l spot else -1 - rd (gA pi 3) 1600 (shPt pi l spot)
def placeB (pi : Ob) (b : Int32) : Int32 := if rd (gA pi 0) 40 b < 0 then -1 else rd (gA pi 5) 1600 b
def placeBend (pi : Ob) (e bend : Int32) : Int32 := rd (gA pi 5) 1600 (rd (gA pi 2) 80 e + bend)
def msStep (wa pi : Ob) (e : Nat) (p : Int32 × Int32) : Int32 × Int32 := if draws wa (nI e) then (p.1 + 1, p.2 + (botE wa pi (nI e) - topE wa pi (nI e))) else p
def msAll (wa pi : Ob) : Int32 × Int32 := lp (msStep wa pi) (nN (gi pi 0)) (0, 0)
def leaves (wa pi : Ob) (e l : Int32) : Bool := draws wa e && (decide (¬ l < topE wa pi e) && decide (l < botE wa pi e))
def cuA (wa : Ob) (l : Int32) (e : Nat) (p : Ob × Int32) : Ob × Int32 :=
  if leaves wa p.1 (nI e) l then (sA (sA p.1 9 (wr (gA p.1 9) 80 p.2 (rd (gA p.1 5) 1600 (pointOn wa p.1 (nI e) l)))) 10 (wr (gA p.1 10) 80 p.2 (rd (gA p.1 5) 1600 (pointOn wa p.1 (nI e) (l + 1)))), p.2 + 1) else p
def cuB (pi : Ob) (i : Nat) (j : Nat) (many : Int32) : Int32 :=
  if (rd (gA pi 9) 80 (nI i) - rd (gA pi 9) 80 (nI j)) * (rd (gA pi 10) 80 (nI i) - rd (gA pi 10) 80 (nI j)) < 0 then many + 1 else many
def cuC (pi : Ob) (i : Nat) (many : Int32) : Int32 := lp (cuB pi i) i many
def cuP (wa pi : Ob) (l : Int32) : Ob × Int32 := lp (cuA wa l) (nN (gi pi 0)) (pi, 0)
def crossN (wa pi : Ob) (l : Int32) : Int32 := lp (cuC (cuP wa pi l).1) (nN (cuP wa pi l).2) 0
def ccStep (wa : Ob) (l : Nat) (p : Ob × Int32) : Ob × Int32 := ((cuP wa p.1 (nI l)).1, p.2 + crossN wa p.1 (nI l))
def countCross (wa pi : Ob) : Ob × Int32 := lp (ccStep wa) (nN (gi pi 1 - 1)) (pi, 0)
def weA (i : Nat) (pi : Ob) : Ob := sA (sA pi 7 (wr (gA pi 7) 120 (nI i) 0)) 8 (wr (gA pi 8) 120 (nI i) 0)
def weSpot (wa pi : Ob) (l : Int32) (e : Nat) : Int32 := rd (gA pi 5) 1600 (pointOn wa pi (nI e) l)
def weB (wa : Ob) (l other over : Int32) (e : Nat) (pi : Ob) : Ob :=
  if leaves wa pi (nI e) over then
    sA (sA pi 7 (wr (gA pi 7) 120 (weSpot wa pi l e) (rd (gA pi 7) 120 (weSpot wa pi l e) + weSpot wa pi other e))) 8 (wr (gA pi 8) 120 (weSpot wa pi l e) (rd (gA pi 8) 120 (weSpot wa pi l e) + 1))
  else pi
def weC (i : Nat) (pi : Ob) : Ob := if rd (gA pi 8) 120 (nI i) = 0 then sA (sA pi 7 (wr (gA pi 7) 120 (nI i) (nI i))) 8 (wr (gA pi 8) 120 (nI i) 1) else pi
def weigh (wa pi : Ob) (l other size : Int32) : Ob := lp weC (nN size) (lp (weB wa l other (imin l other)) (nN (gi pi 0)) (lp weA (nN size) pi))
def isAhead (pi : Ob) (point other : Int32) : Bool :=
  decide (rd (gA pi 7) 120 (rd (gA pi 5) 1600 point) * rd (gA pi 8) 120 (rd (gA pi 5) 1600 other) < rd (gA pi 7) 120 (rd (gA pi 5) 1600 other) * rd (gA pi 8) 120 (rd (gA pi 5) 1600 point))
def slidePut (base : Int32) (k : Nat) (pi : Ob) : Ob := sA pi 4 (wr (gA pi 4) 1600 (base + nI (k + 1)) (rd (gA pi 4) 1600 (base + nI (k + 1) - 1)))
def slide (base point : Int32) (k : Nat) : Ob → Ob × Nat :=
  Nat.rec (fun pi => (pi, 0)) (fun k r pi => if isAhead pi point (rd (gA pi 4) 1600 (base + nI (k + 1) - 1)) then r (slidePut base k pi) else (pi, k + 1)) k
def arPoint (base : Int32) (i : Nat) (pi : Ob) : Int32 := rd (gA pi 4) 1600 (base + nI i)
def arStep (base : Int32) (j : Nat) (pi : Ob) : Ob :=
  sA (slide base (arPoint base (j + 1) pi) (j + 1) pi).1 4 (wr (gA (slide base (arPoint base (j + 1) pi) (j + 1) pi).1 4) 1600 (base + nI (slide base (arPoint base (j + 1) pi) (j + 1) pi).2) (arPoint base (j + 1) pi))
def arPut (l base : Int32) (i : Nat) (pi : Ob) : Ob := putPoint pi l (base + nI i) (rd (gA pi 4) 1600 (base + nI i))
def arrange (wa pi : Ob) (l other : Int32) : Ob :=
  lp (arPut l (rd (gA pi 1) 41 l)) (nN (sizeOf pi l)) (lp (arStep (rd (gA pi 1) 41 l)) (nN (sizeOf pi l) - 1) (weigh wa pi l other (sizeOf pi l)))
def soK (wa : Ob) (down : Bool) (j : Nat) (pi : Ob) : Ob :=
  if down then arrange wa pi (nI (j + 1)) (nI (j + 1) - 1) else arrange wa pi (gi pi 1 - 1 - nI (j + 1)) (gi pi 1 - nI (j + 1))
def soDown (pi : Ob) : Bool := decide ((gi pi 2 &&& 1) = 0)
def soAll (wa pi : Ob) : Ob := lp (soK wa (soDown pi)) (nN (gi pi 1) - 1) pi
def soStep (wa : Ob) (_i : Nat) (pi : Ob) : Ob := si (soAll wa pi) 2 (gi (soAll wa pi) 2 + 1)
def sweepOften (wa pi : Ob) (many : Int32) : Ob := lp (soStep wa) (nN many) pi
def toKeep (i : Nat) (pi : Ob) : Ob := sA pi 6 (wr (gA pi 6) 1600 (nI i) (rd (gA pi 4) 1600 (nI i)))
def toAll (pi : Ob) : Ob := lp toKeep (nN (rd (gA pi 1) 41 (gi pi 1))) pi
def toB (l a : Int32) (j : Nat) (pi : Ob) : Ob := putPoint pi l (a + nI j) (rd (gA pi 6) 1600 (a + nI j))
def toL (l : Nat) (pi : Ob) : Ob := lp (toB (nI l) (rd (gA pi 1) 41 (nI l))) ((rd (gA pi 1) 41 (nI l + 1)).toInt - (rd (gA pi 1) 41 (nI l)).toInt).toNat pi
def toQ (wa pi : Ob) (many : Int32) : Ob × Int32 := countCross wa (sweepOften wa (toAll pi) many)
def tryOut (wa pi : Ob) (many : Int32) : Ob := si (lp toL (nN (gi (toQ wa pi many).1 1)) (toQ wa pi many).1) 2 (gi pi 2)

def XW (ad : Nat → Nat) (cI cJ : ClassId) (co fl ra li re wa pi : Ob) : va_W := [(ad 0, .inr (7, [.ref (ad 1), .ref (ad 2), .ref (ad 3), .ref (ad 4), .ref (ad 5), .ref (ad 6)])), (ad 1, .inr (0, [.ref (ad 8), .ref (ad 9), .ref (ad 10), .ref (ad 11), .int (gi co 0)])), (ad 2, .inr (1, [.ref (ad 12), .ref (ad 13), .ref (ad 14), .ref (ad 15), .ref (ad 16), .ref (ad 17), .ref (ad 18), .int (gi fl 0), .int (gi fl 1), .long (gl fl 0), .int (gi fl 2)])), (ad 3, .inr (4, [.ref (ad 19), .ref (ad 20), .ref (ad 21), .ref (ad 22), .int (gi ra 0), .int (gi ra 1), .int (gi ra 2)])), (ad 4, .inr (2, [.ref (ad 23), .int (gi li 0), .int (gi li 1)])), (ad 5, .inr (5, [.ref (ad 24), .ref (ad 25), .ref (ad 26), .ref (ad 27), .ref (ad 28), .long (gl re 0), .int (gi re 0), .int (gi re 1)])), (ad 6, .inr (3, [.ref (ad 7), .ref (ad 34), .ref (ad 35), .ref (ad 36), .ref (ad 37), .ref (ad 38), .ref (ad 39), .ref (ad 40), .ref (ad 41), .ref (ad 42), .ref (ad 43), .ref (ad 44), .int (gi pi 0), .int (gi pi 1), .int (gi pi 2), .int (gi pi 3)])), (ad 7, .inr (6, [.ref (ad 29), .ref (ad 30), .ref (ad 31), .ref (ad 32), .ref (ad 33), .int (gi wa 0), .int (gi wa 1), .long (gl wa 0), .long (gl wa 1)])), (ad 8, .inl (cI, 40, .inl (gA co 0))), (ad 9, .inl (cI, 40, .inl (gA co 1))), (ad 10, .inl (cI, 40, .inl (gA co 2))), (ad 11, .inl (cI, 40, .inl (gA co 3))), (ad 12, .inl (cI, 40, .inl (gA fl 0))), (ad 13, .inl (cI, 40, .inl (gA fl 1))), (ad 14, .inl (cI, 40, .inl (gA fl 2))), (ad 15, .inl (cI, 80, .inl (gA fl 3))), (ad 16, .inl (cI, 80, .inl (gA fl 4))), (ad 17, .inl (cI, 41, .inl (gA fl 5))), (ad 18, .inl (cJ, 40, .inr (.inl (gB fl 0)))), (ad 19, .inl (cJ, 40, .inr (.inl (gB ra 0)))), (ad 20, .inl (cJ, 40, .inr (.inl (gB ra 1)))), (ad 21, .inl (cJ, 40, .inr (.inl (gB ra 2)))), (ad 22, .inl (cJ, 40, .inr (.inl (gB ra 3)))), (ad 23, .inl (cI, 40, .inl (gA li 0))), (ad 24, .inl (cJ, 40, .inr (.inl (gB re 0)))), (ad 25, .inl (cI, 40, .inl (gA re 0))), (ad 26, .inl (cI, 120, .inl (gA re 1))), (ad 27, .inl (cI, 120, .inl (gA re 2))), (ad 28, .inl (cI, 41, .inl (gA re 3))), (ad 29, .inl (cI, 40, .inl (gA wa 0))), (ad 30, .inl (cI, 80, .inl (gA wa 1))), (ad 31, .inl (cI, 80, .inl (gA wa 2))), (ad 32, .inl (cI, 40, .inl (gA wa 3))), (ad 33, .inl (cI, 40, .inl (gA wa 4))), (ad 34, .inl (cI, 40, .inl (gA pi 0))), (ad 35, .inl (cI, 41, .inl (gA pi 1))), (ad 36, .inl (cI, 80, .inl (gA pi 2))), (ad 37, .inl (cI, 1600, .inl (gA pi 3))), (ad 38, .inl (cI, 1600, .inl (gA pi 4))), (ad 39, .inl (cI, 1600, .inl (gA pi 5))), (ad 40, .inl (cI, 1600, .inl (gA pi 6))), (ad 41, .inl (cI, 120, .inl (gA pi 7))), (ad 42, .inl (cI, 120, .inl (gA pi 8))), (ad 43, .inl (cI, 80, .inl (gA pi 9))), (ad 44, .inl (cI, 80, .inl (gA pi 10)))]
theorem gi_sl (o : Ob) (k j : Nat) (v : Int64) : gi (sl o k v) j = gi o j := rfl
theorem gi_sA (o : Ob) (k j : Nat) (v : Nat → Int32) : gi (sA o k v) j = gi o j := rfl
theorem gi_sB (o : Ob) (k j : Nat) (v : Nat → Int64) : gi (sB o k v) j = gi o j := rfl
theorem gi_si_s (o : Ob) (k : Nat) (v : Int32) : gi (si o k v) k = v := if_pos rfl
theorem gi_si_n (o : Ob) (k j : Nat) (v : Int32) (h : (j == k) = false) : gi (si o k v) j = gi o j := if_neg (fun z => by subst z; simp at h)
theorem gl_si (o : Ob) (k j : Nat) (v : Int32) : gl (si o k v) j = gl o j := rfl
theorem gl_sA (o : Ob) (k j : Nat) (v : Nat → Int32) : gl (sA o k v) j = gl o j := rfl
theorem gl_sB (o : Ob) (k j : Nat) (v : Nat → Int64) : gl (sB o k v) j = gl o j := rfl
theorem gl_sl_s (o : Ob) (k : Nat) (v : Int64) : gl (sl o k v) k = v := if_pos rfl
theorem gl_sl_n (o : Ob) (k j : Nat) (v : Int64) (h : (j == k) = false) : gl (sl o k v) j = gl o j := if_neg (fun z => by subst z; simp at h)
theorem gA_si (o : Ob) (k j : Nat) (v : Int32) : gA (si o k v) j = gA o j := rfl
theorem gA_sl (o : Ob) (k j : Nat) (v : Int64) : gA (sl o k v) j = gA o j := rfl
theorem gA_sB (o : Ob) (k j : Nat) (v : Nat → Int64) : gA (sB o k v) j = gA o j := rfl
theorem gA_sA_s (o : Ob) (k : Nat) (v : Nat → Int32) : gA (sA o k v) k = v := if_pos rfl
theorem gA_sA_n (o : Ob) (k j : Nat) (v : Nat → Int32) (h : (j == k) = false) : gA (sA o k v) j = gA o j := if_neg (fun z => by subst z; simp at h)
theorem gB_si (o : Ob) (k j : Nat) (v : Int32) : gB (si o k v) j = gB o j := rfl
theorem gB_sl (o : Ob) (k j : Nat) (v : Int64) : gB (sl o k v) j = gB o j := rfl
theorem gB_sA (o : Ob) (k j : Nat) (v : Nat → Int32) : gB (sA o k v) j = gB o j := rfl
theorem gB_sB_s (o : Ob) (k : Nat) (v : Nat → Int64) : gB (sB o k v) k = v := if_pos rfl
theorem gB_sB_n (o : Ob) (k j : Nat) (v : Nat → Int64) (h : (j == k) = false) : gB (sB o k v) j = gB o j := if_neg (fun z => by subst z; simp at h)

abbrev TY (cI cJ : ClassId) : List (ClassId × FieldType) := [(cI, .int), (cJ, .long)]
theorem xw_eq {ad : Nat → Nat} {cI cJ : ClassId} {co fl ra li re wa pi co2 fl2 ra2 li2 re2 wa2 pi2 : Ob} (h1 : co = co2) (h2 : fl = fl2) (h3 : ra = ra2) (h4 : li = li2) (h5 : re = re2) (h6 : wa = wa2) (h7 : pi = pi2) : XW ad cI cJ co fl ra li re wa pi = XW ad cI cJ co2 fl2 ra2 li2 re2 wa2 pi2 := by
  rw [h1, h2, h3, h4, h5, h6, h7]
theorem i_ge {x y : Int32} (h : y ≤ x) : ¬ x < y := fun z => by
  rw [Int32.lt_iff_toInt_lt] at z
  rw [Int32.le_iff_toInt_le] at h
  omega
theorem i_nge {x y : Int32} (h : ¬ y ≤ x) : x < y := by
  rw [Int32.le_iff_toInt_le] at h
  rw [Int32.lt_iff_toInt_lt]
  omega
theorem i_ge' {x y : Int32} (h : ¬ x < y) : y ≤ x := by
  rw [Int32.lt_iff_toInt_lt] at h
  rw [Int32.le_iff_toInt_le]
  omega
theorem b2i_tt : b2i true = 1 := rfl
theorem b2i_ff : b2i false = 0 := rfl
theorem b2i_0 {b : Bool} (h : b2i b = 0) : ¬ b = true := by
  cases b
  · decide
  · exact absurd h (by decide)
theorem b2i_1 {b : Bool} (h : ¬ b2i b = 0) : b = true := by
  cases b
  · exact absurd rfl h
  · rfl
theorem bf_of {b : Bool} (h : ¬ b = true) : b = false := by
  cases b
  · rfl
  · exact absurd rfl h
theorem nar_b2i {b : Bool} : narrow .boolean (.int (b2i b)) = .int (b2i b) := by cases b <;> rfl
theorem lcmp_0 {x y : Int64} (h : lg_cmp x y = 0) : x = y := by
  unfold lg_cmp at h
  by_cases h1 : x > y
  · rw [if_pos h1] at h; exact absurd h (by decide)
  · rw [if_neg h1] at h
    by_cases h2 : x = y
    · exact h2
    · rw [if_neg h2] at h; exact absurd h (by decide)
theorem lcmp_1 {x y : Int64} (h : ¬ lg_cmp x y = 0) : ¬ x = y := fun z => h (by
  subst z
  unfold lg_cmp
  by_cases h1 : x > x
  · exact absurd h1 (Int64.lt_irrefl)
  · rw [if_neg h1, if_pos rfl])
theorem lp_go {σ : Type} {f : Nat → σ → σ} {i : Nat} {s p : σ} (h : p = lp f i s) : f i p = lp f (i + 1) s := by subst h; rfl
theorem lpW_go {σ : Type} {c : σ → Bool} {f : σ → σ} {i : Nat} {s p : σ} (h : p = lpW c f i s) (hc : c p = true) : f p = lpW c f (i + 1) s := by
  subst h
  show _ = (if c (lpW c f i s) = true then f (lpW c f i s) else lpW c f i s)
  rw [if_pos hc]
theorem lpW_same {σ : Type} {c : σ → Bool} {f : σ → σ} {s : σ} (hc : c s = false) (n : Nat) : lpW c f n s = s := by
  induction n with
  | zero => rfl
  | succ n ih =>
    show (if c (lpW c f n s) = true then f (lpW c f n s) else lpW c f n s) = s
    rw [ih, if_neg (by rw [hc]; decide)]
theorem lpW_stop {σ : Type} {c : σ → Bool} {f : σ → σ} {i n : Nat} {s p : σ} (h : p = lpW c f i s) (hc : c p = false) (hn : i ≤ n) : p = lpW c f n s := by
  subst h
  obtain ⟨k, rfl⟩ : ∃ k, n = i + k := ⟨n - i, by omega⟩
  induction k with
  | zero => rfl
  | succ k ih =>
    show _ = (if c (lpW c f (i + k) s) = true then f (lpW c f (i + k) s) else lpW c f (i + k) s)
    rw [← ih (by omega), if_neg (by rw [hc]; decide)]
theorem nN_lt (b : Int32) : nN b < 2 ^ 31 := by
  have h := b.toInt_lt
  unfold nN
  omega
theorem lp_out (b : Int32) : b ≤ nI (nN b) := by
  rw [Int32.le_iff_toInt_le, nI_toInt (nN_lt b)]
  unfold nN
  omega
theorem lp_in {b : Int32} {i : Nat} (h : i < nN b) : ¬ b ≤ nI i := by
  have h2 := nN_lt b
  rw [Int32.le_iff_toInt_le, nI_toInt (by omega)]
  unfold nN at h
  omega
theorem nI_01 : nI (0 + 1) = 1 := rfl
theorem sub_nI0 (x : Int32) : x - nI 0 = x := by
  apply Int32.toBitVec_inj.mp
  rw [Int32.toBitVec_sub]
  show x.toBitVec - 0#32 = x.toBitVec
  simp
theorem add_nI0 (x : Int32) : x + nI 0 = x := by
  apply Int32.toBitVec_inj.mp
  rw [Int32.toBitVec_add]
  show x.toBitVec + 0#32 = x.toBitVec
  simp
theorem add_nI1 (x : Int32) (i : Nat) : x + nI i + 1 = x + nI (i + 1) := by
  rw [← nI_1 i, Int32.add_assoc]
theorem sub_nI1 (x : Int32) (i : Nat) : x - nI i + (-1) = x - nI (i + 1) := by
  rw [← nI_1 i, Int32.sub_eq_add_neg, Int32.sub_eq_add_neg, Int32.neg_add, Int32.sub_eq_add_neg, Int32.add_assoc]
theorem set_same {w : va_W} {q0 : Nat} {e : Nat × va_E} (hq : w[q0]? = some e) : w.set q0 e = w := by
  obtain ⟨h, e9⟩ := List.getElem?_eq_some_iff.mp hq
  apply List.ext_getElem?
  intro j
  by_cases hj : j = q0
  · subst hj
    rw [List.getElem?_set_self h, hq]
  · rw [List.getElem?_set_ne (Ne.symm hj)]
theorem vp_yes {i : Int32} {n : Nat} (hn : n < 2 ^ 31) (h0 : ¬ i < 0) (h : i < nI n) : vp_in i n := by
  rw [vp_in_iff]
  rw [Int32.lt_iff_toInt_lt, nI_toInt hn] at h
  rw [Int32.lt_iff_toInt_lt, Int32.toInt_zero] at h0
  omega
end
section
theorem dX7_at_0 : decode cX7_at 0 = .ok (.aload_n 0, 1) := by decide +kernel
theorem dX7_at_1 : decode cX7_at 1 = .ok (.ifnull 19, 3) := by decide +kernel
theorem dX7_at_4 : decode cX7_at 4 = .ok (.iload_n 1, 1) := by decide +kernel
theorem dX7_at_5 : decode cX7_at 5 = .ok (.ifCond .lt 15, 3) := by decide +kernel
theorem dX7_at_8 : decode cX7_at 8 = .ok (.iload_n 1, 1) := by decide +kernel
theorem dX7_at_9 : decode cX7_at 9 = .ok (.aload_n 0, 1) := by decide +kernel
theorem dX7_at_10 : decode cX7_at 10 = .ok (.arraylength, 1) := by decide +kernel
theorem dX7_at_11 : decode cX7_at 11 = .ok (.if_icmp .ge 9, 3) := by decide +kernel
theorem dX7_at_14 : decode cX7_at 14 = .ok (.aload_n 0, 1) := by decide +kernel
theorem dX7_at_15 : decode cX7_at 15 = .ok (.iload_n 1, 1) := by decide +kernel
theorem dX7_at_16 : decode cX7_at 16 = .ok (.iaload, 1) := by decide +kernel
theorem dX7_at_17 : decode cX7_at 17 = .ok (.goto 4, 3) := by decide +kernel
theorem dX7_at_20 : decode cX7_at 20 = .ok (.iconst 0, 1) := by decide +kernel
theorem dX7_at_21 : decode cX7_at 21 = .ok (.ireturn, 1) := by decide +kernel
theorem dX7_at__0 : decode cX7_at_ 0 = .ok (.aload_n 0, 1) := by decide +kernel
theorem dX7_at__1 : decode cX7_at_ 1 = .ok (.ifnull 19, 3) := by decide +kernel
theorem dX7_at__4 : decode cX7_at_ 4 = .ok (.iload_n 1, 1) := by decide +kernel
theorem dX7_at__5 : decode cX7_at_ 5 = .ok (.ifCond .lt 15, 3) := by decide +kernel
theorem dX7_at__8 : decode cX7_at_ 8 = .ok (.iload_n 1, 1) := by decide +kernel
theorem dX7_at__9 : decode cX7_at_ 9 = .ok (.aload_n 0, 1) := by decide +kernel
theorem dX7_at__10 : decode cX7_at_ 10 = .ok (.arraylength, 1) := by decide +kernel
theorem dX7_at__11 : decode cX7_at_ 11 = .ok (.if_icmp .ge 9, 3) := by decide +kernel
theorem dX7_at__14 : decode cX7_at_ 14 = .ok (.aload_n 0, 1) := by decide +kernel
theorem dX7_at__15 : decode cX7_at_ 15 = .ok (.iload_n 1, 1) := by decide +kernel
theorem dX7_at__16 : decode cX7_at_ 16 = .ok (.laload, 1) := by decide +kernel
theorem dX7_at__17 : decode cX7_at_ 17 = .ok (.goto 4, 3) := by decide +kernel
theorem dX7_at__20 : decode cX7_at_ 20 = .ok (.lconst 0, 1) := by decide +kernel
theorem dX7_at__21 : decode cX7_at_ 21 = .ok (.lreturn, 1) := by decide +kernel
theorem dX7_put_0 : decode cX7_put 0 = .ok (.aload_n 0, 1) := by decide +kernel
theorem dX7_put_1 : decode cX7_put 1 = .ok (.ifnull 17, 3) := by decide +kernel
theorem dX7_put_4 : decode cX7_put 4 = .ok (.iload_n 1, 1) := by decide +kernel
theorem dX7_put_5 : decode cX7_put 5 = .ok (.ifCond .lt 13, 3) := by decide +kernel
theorem dX7_put_8 : decode cX7_put 8 = .ok (.iload_n 1, 1) := by decide +kernel
theorem dX7_put_9 : decode cX7_put 9 = .ok (.aload_n 0, 1) := by decide +kernel
theorem dX7_put_10 : decode cX7_put 10 = .ok (.arraylength, 1) := by decide +kernel
theorem dX7_put_11 : decode cX7_put 11 = .ok (.if_icmp .ge 7, 3) := by decide +kernel
theorem dX7_put_14 : decode cX7_put 14 = .ok (.aload_n 0, 1) := by decide +kernel
theorem dX7_put_15 : decode cX7_put 15 = .ok (.iload_n 1, 1) := by decide +kernel
theorem dX7_put_16 : decode cX7_put 16 = .ok (.iload_n 2, 1) := by decide +kernel
theorem dX7_put_17 : decode cX7_put 17 = .ok (.iastore, 1) := by decide +kernel
theorem dX7_put_18 : decode cX7_put 18 = .ok (.return_, 1) := by decide +kernel
theorem dX7_put__0 : decode cX7_put_ 0 = .ok (.aload_n 0, 1) := by decide +kernel
theorem dX7_put__1 : decode cX7_put_ 1 = .ok (.ifnull 17, 3) := by decide +kernel
theorem dX7_put__4 : decode cX7_put_ 4 = .ok (.iload_n 1, 1) := by decide +kernel
theorem dX7_put__5 : decode cX7_put_ 5 = .ok (.ifCond .lt 13, 3) := by decide +kernel
theorem dX7_put__8 : decode cX7_put_ 8 = .ok (.iload_n 1, 1) := by decide +kernel
theorem dX7_put__9 : decode cX7_put_ 9 = .ok (.aload_n 0, 1) := by decide +kernel
theorem dX7_put__10 : decode cX7_put_ 10 = .ok (.arraylength, 1) := by decide +kernel
theorem dX7_put__11 : decode cX7_put_ 11 = .ok (.if_icmp .ge 7, 3) := by decide +kernel
theorem dX7_put__14 : decode cX7_put_ 14 = .ok (.aload_n 0, 1) := by decide +kernel
theorem dX7_put__15 : decode cX7_put_ 15 = .ok (.iload_n 1, 1) := by decide +kernel
theorem dX7_put__16 : decode cX7_put_ 16 = .ok (.lload_n 2, 1) := by decide +kernel
theorem dX7_put__17 : decode cX7_put_ 17 = .ok (.lastore, 1) := by decide +kernel
theorem dX7_put__18 : decode cX7_put_ 18 = .ok (.return_, 1) := by decide +kernel
theorem dX7_bit_0 : decode cX7_bit 0 = .ok (.lconst 1, 1) := by decide +kernel
theorem dX7_bit_1 : decode cX7_bit 1 = .ok (.iload_n 0, 1) := by decide +kernel
theorem dX7_bit_2 : decode cX7_bit 2 = .ok (.lshl, 1) := by decide +kernel
theorem dX7_bit_3 : decode cX7_bit 3 = .ok (.lreturn, 1) := by decide +kernel
theorem dX7_has_0 : decode cX7_has 0 = .ok (.lload_n 0, 1) := by decide +kernel
theorem dX7_has_1 : decode cX7_has 1 = .ok (.iload_n 2, 1) := by decide +kernel
theorem dX7_has_2 : decode cX7_has 2 = .ok (.lushr, 1) := by decide +kernel
theorem dX7_has_3 : decode cX7_has 3 = .ok (.lconst 1, 1) := by decide +kernel
theorem dX7_has_4 : decode cX7_has 4 = .ok (.land, 1) := by decide +kernel
theorem dX7_has_5 : decode cX7_has 5 = .ok (.lconst 0, 1) := by decide +kernel
theorem dX7_has_6 : decode cX7_has 6 = .ok (.lcmp, 1) := by decide +kernel
theorem dX7_has_7 : decode cX7_has 7 = .ok (.ifCond .eq 7, 3) := by decide +kernel
theorem dX7_has_10 : decode cX7_has 10 = .ok (.iconst 1, 1) := by decide +kernel
theorem dX7_has_11 : decode cX7_has 11 = .ok (.goto 4, 3) := by decide +kernel
theorem dX7_has_14 : decode cX7_has 14 = .ok (.iconst 0, 1) := by decide +kernel
theorem dX7_has_15 : decode cX7_has 15 = .ok (.ireturn, 1) := by decide +kernel
theorem dJ13_bitCount_95d88_0 : decode cJ13_bitCount_95d88 0 = .ok (.lload_n 0, 1) := by decide +kernel
theorem dJ13_bitCount_95d88_1 : decode cJ13_bitCount_95d88 1 = .ok (.lload_n 0, 1) := by decide +kernel
theorem dJ13_bitCount_95d88_2 : decode cJ13_bitCount_95d88 2 = .ok (.iconst 1, 1) := by decide +kernel
theorem dJ13_bitCount_95d88_3 : decode cJ13_bitCount_95d88 3 = .ok (.lushr, 1) := by decide +kernel
theorem dJ13_bitCount_95d88_4 : decode cJ13_bitCount_95d88 4 = .ok (.ldc2_w 314, 3) := by decide +kernel
theorem dJ13_bitCount_95d88_7 : decode cJ13_bitCount_95d88 7 = .ok (.land, 1) := by decide +kernel
theorem dJ13_bitCount_95d88_8 : decode cJ13_bitCount_95d88 8 = .ok (.lsub, 1) := by decide +kernel
theorem dJ13_bitCount_95d88_9 : decode cJ13_bitCount_95d88 9 = .ok (.lstore_n 0, 1) := by decide +kernel
theorem dJ13_bitCount_95d88_10 : decode cJ13_bitCount_95d88 10 = .ok (.lload_n 0, 1) := by decide +kernel
theorem dJ13_bitCount_95d88_11 : decode cJ13_bitCount_95d88 11 = .ok (.ldc2_w 316, 3) := by decide +kernel
theorem dJ13_bitCount_95d88_14 : decode cJ13_bitCount_95d88 14 = .ok (.land, 1) := by decide +kernel
theorem dJ13_bitCount_95d88_15 : decode cJ13_bitCount_95d88 15 = .ok (.lload_n 0, 1) := by decide +kernel
theorem dJ13_bitCount_95d88_16 : decode cJ13_bitCount_95d88 16 = .ok (.iconst 2, 1) := by decide +kernel
theorem dJ13_bitCount_95d88_17 : decode cJ13_bitCount_95d88 17 = .ok (.lushr, 1) := by decide +kernel
theorem dJ13_bitCount_95d88_18 : decode cJ13_bitCount_95d88 18 = .ok (.ldc2_w 316, 3) := by decide +kernel
theorem dJ13_bitCount_95d88_21 : decode cJ13_bitCount_95d88 21 = .ok (.land, 1) := by decide +kernel
theorem dJ13_bitCount_95d88_22 : decode cJ13_bitCount_95d88 22 = .ok (.ladd, 1) := by decide +kernel
theorem dJ13_bitCount_95d88_23 : decode cJ13_bitCount_95d88 23 = .ok (.lstore_n 0, 1) := by decide +kernel
theorem dJ13_bitCount_95d88_24 : decode cJ13_bitCount_95d88 24 = .ok (.lload_n 0, 1) := by decide +kernel
theorem dJ13_bitCount_95d88_25 : decode cJ13_bitCount_95d88 25 = .ok (.lload_n 0, 1) := by decide +kernel
theorem dJ13_bitCount_95d88_26 : decode cJ13_bitCount_95d88 26 = .ok (.iconst 4, 1) := by decide +kernel
theorem dJ13_bitCount_95d88_27 : decode cJ13_bitCount_95d88 27 = .ok (.lushr, 1) := by decide +kernel
theorem dJ13_bitCount_95d88_28 : decode cJ13_bitCount_95d88 28 = .ok (.ladd, 1) := by decide +kernel
theorem dJ13_bitCount_95d88_29 : decode cJ13_bitCount_95d88 29 = .ok (.ldc2_w 318, 3) := by decide +kernel
theorem dJ13_bitCount_95d88_32 : decode cJ13_bitCount_95d88 32 = .ok (.land, 1) := by decide +kernel
theorem dJ13_bitCount_95d88_33 : decode cJ13_bitCount_95d88 33 = .ok (.lstore_n 0, 1) := by decide +kernel
theorem dJ13_bitCount_95d88_34 : decode cJ13_bitCount_95d88 34 = .ok (.lload_n 0, 1) := by decide +kernel
theorem dJ13_bitCount_95d88_35 : decode cJ13_bitCount_95d88 35 = .ok (.lload_n 0, 1) := by decide +kernel
theorem dJ13_bitCount_95d88_36 : decode cJ13_bitCount_95d88 36 = .ok (.bipush 8, 2) := by decide +kernel
theorem dJ13_bitCount_95d88_38 : decode cJ13_bitCount_95d88 38 = .ok (.lushr, 1) := by decide +kernel
theorem dJ13_bitCount_95d88_39 : decode cJ13_bitCount_95d88 39 = .ok (.ladd, 1) := by decide +kernel
theorem dJ13_bitCount_95d88_40 : decode cJ13_bitCount_95d88 40 = .ok (.lstore_n 0, 1) := by decide +kernel
theorem dJ13_bitCount_95d88_41 : decode cJ13_bitCount_95d88 41 = .ok (.lload_n 0, 1) := by decide +kernel
theorem dJ13_bitCount_95d88_42 : decode cJ13_bitCount_95d88 42 = .ok (.lload_n 0, 1) := by decide +kernel
theorem dJ13_bitCount_95d88_43 : decode cJ13_bitCount_95d88 43 = .ok (.bipush 16, 2) := by decide +kernel
theorem dJ13_bitCount_95d88_45 : decode cJ13_bitCount_95d88 45 = .ok (.lushr, 1) := by decide +kernel
theorem dJ13_bitCount_95d88_46 : decode cJ13_bitCount_95d88 46 = .ok (.ladd, 1) := by decide +kernel
theorem dJ13_bitCount_95d88_47 : decode cJ13_bitCount_95d88 47 = .ok (.lstore_n 0, 1) := by decide +kernel
theorem dJ13_bitCount_95d88_48 : decode cJ13_bitCount_95d88 48 = .ok (.lload_n 0, 1) := by decide +kernel
theorem dJ13_bitCount_95d88_49 : decode cJ13_bitCount_95d88 49 = .ok (.lload_n 0, 1) := by decide +kernel
theorem dJ13_bitCount_95d88_50 : decode cJ13_bitCount_95d88 50 = .ok (.bipush 32, 2) := by decide +kernel
theorem dJ13_bitCount_95d88_52 : decode cJ13_bitCount_95d88 52 = .ok (.lushr, 1) := by decide +kernel
theorem dJ13_bitCount_95d88_53 : decode cJ13_bitCount_95d88 53 = .ok (.ladd, 1) := by decide +kernel
theorem dJ13_bitCount_95d88_54 : decode cJ13_bitCount_95d88 54 = .ok (.lstore_n 0, 1) := by decide +kernel
theorem dJ13_bitCount_95d88_55 : decode cJ13_bitCount_95d88 55 = .ok (.lload_n 0, 1) := by decide +kernel
theorem dJ13_bitCount_95d88_56 : decode cJ13_bitCount_95d88 56 = .ok (.l2i, 1) := by decide +kernel
theorem dJ13_bitCount_95d88_57 : decode cJ13_bitCount_95d88 57 = .ok (.bipush 127, 2) := by decide +kernel
theorem dJ13_bitCount_95d88_59 : decode cJ13_bitCount_95d88 59 = .ok (.iand, 1) := by decide +kernel
theorem dJ13_bitCount_95d88_60 : decode cJ13_bitCount_95d88 60 = .ok (.ireturn, 1) := by decide +kernel
theorem dX7_lowest_0 : decode cX7_lowest 0 = .ok (.lload_n 0, 1) := by decide +kernel
theorem dX7_lowest_1 : decode cX7_lowest 1 = .ok (.lload_n 0, 1) := by decide +kernel
theorem dX7_lowest_2 : decode cX7_lowest 2 = .ok (.lneg, 1) := by decide +kernel
theorem dX7_lowest_3 : decode cX7_lowest 3 = .ok (.land, 1) := by decide +kernel
theorem dX7_lowest_4 : decode cX7_lowest 4 = .ok (.lconst 1, 1) := by decide +kernel
theorem dX7_lowest_5 : decode cX7_lowest 5 = .ok (.lsub, 1) := by decide +kernel
theorem dX7_lowest_6 : decode cX7_lowest 6 = .ok (.invokestatic 188, 3) := by decide +kernel
theorem dX7_lowest_9 : decode cX7_lowest 9 = .ok (.ireturn, 1) := by decide +kernel
theorem dX7_jumps_0 : decode cX7_jumps 0 = .ok (.iload_n 0, 1) := by decide +kernel
theorem dX7_jumps_1 : decode cX7_jumps 1 = .ok (.iconst 1, 1) := by decide +kernel
theorem dX7_jumps_2 : decode cX7_jumps 2 = .ok (.if_icmp .eq 8, 3) := by decide +kernel
theorem dX7_jumps_5 : decode cX7_jumps 5 = .ok (.iload_n 0, 1) := by decide +kernel
theorem dX7_jumps_6 : decode cX7_jumps 6 = .ok (.iconst 2, 1) := by decide +kernel
theorem dX7_jumps_7 : decode cX7_jumps 7 = .ok (.if_icmp .ne 7, 3) := by decide +kernel
theorem dX7_jumps_10 : decode cX7_jumps 10 = .ok (.iconst 1, 1) := by decide +kernel
theorem dX7_jumps_11 : decode cX7_jumps 11 = .ok (.goto 4, 3) := by decide +kernel
theorem dX7_jumps_14 : decode cX7_jumps 14 = .ok (.iconst 0, 1) := by decide +kernel
theorem dX7_jumps_15 : decode cX7_jumps 15 = .ok (.ireturn, 1) := by decide +kernel
theorem dX7_isTarget_0 : decode cX7_isTarget 0 = .ok (.iload_n 0, 1) := by decide +kernel
theorem dX7_isTarget_1 : decode cX7_isTarget 1 = .ok (.ifCond .lt 13, 3) := by decide +kernel
theorem dX7_isTarget_4 : decode cX7_isTarget 4 = .ok (.iload_n 0, 1) := by decide +kernel
theorem dX7_isTarget_5 : decode cX7_isTarget 5 = .ok (.bipush 40, 2) := by decide +kernel
theorem dX7_isTarget_7 : decode cX7_isTarget 7 = .ok (.if_icmp .gt 7, 3) := by decide +kernel
theorem dX7_isTarget_10 : decode cX7_isTarget 10 = .ok (.iconst 1, 1) := by decide +kernel
theorem dX7_isTarget_11 : decode cX7_isTarget 11 = .ok (.goto 4, 3) := by decide +kernel
theorem dX7_isTarget_14 : decode cX7_isTarget 14 = .ok (.iconst 0, 1) := by decide +kernel
theorem dX7_isTarget_15 : decode cX7_isTarget 15 = .ok (.ireturn, 1) := by decide +kernel
theorem dX7_mix_0 : decode cX7_mix 0 = .ok (.lload_n 0, 1) := by decide +kernel
theorem dX7_mix_1 : decode cX7_mix 1 = .ok (.ldc2_w 364, 3) := by decide +kernel
theorem dX7_mix_4 : decode cX7_mix 4 = .ok (.lmul, 1) := by decide +kernel
theorem dX7_mix_5 : decode cX7_mix 5 = .ok (.iload_n 2, 1) := by decide +kernel
theorem dX7_mix_6 : decode cX7_mix 6 = .ok (.i2l, 1) := by decide +kernel
theorem dX7_mix_7 : decode cX7_mix 7 = .ok (.ladd, 1) := by decide +kernel
theorem dX7_mix_8 : decode cX7_mix 8 = .ok (.lreturn, 1) := by decide +kernel
theorem dX7_mix__0 : decode cX7_mix_ 0 = .ok (.lload_n 0, 1) := by decide +kernel
theorem dX7_mix__1 : decode cX7_mix_ 1 = .ok (.ldc2_w 364, 3) := by decide +kernel
theorem dX7_mix__4 : decode cX7_mix_ 4 = .ok (.lmul, 1) := by decide +kernel
theorem dX7_mix__5 : decode cX7_mix_ 5 = .ok (.iload_n 2, 1) := by decide +kernel
theorem dX7_mix__6 : decode cX7_mix_ 6 = .ok (.ifCond .eq 7, 3) := by decide +kernel
theorem dX7_mix__9 : decode cX7_mix_ 9 = .ok (.lconst 1, 1) := by decide +kernel
theorem dX7_mix__10 : decode cX7_mix_ 10 = .ok (.goto 4, 3) := by decide +kernel
theorem dX7_mix__13 : decode cX7_mix_ 13 = .ok (.lconst 0, 1) := by decide +kernel
theorem dX7_mix__14 : decode cX7_mix_ 14 = .ok (.ladd, 1) := by decide +kernel
theorem dX7_mix__15 : decode cX7_mix_ 15 = .ok (.lreturn, 1) := by decide +kernel
theorem mw_0 : Cond.laysFinal "OrielChart$Code" "OrielChart$Code" "kind" "[I" ∈ GW := gw_mem (inT1 _ (List.mem_of_getElem? (i := 46) rfl)) rfl
theorem mw_1 : Cond.laysFinal "OrielChart$Code" "OrielChart$Code" "target" "[I" ∈ GW := gw_mem (inT1 _ (List.mem_of_getElem? (i := 48) rfl)) rfl
theorem mw_2 : Cond.laysFinal "OrielChart$Code" "OrielChart$Code" "sets" "[I" ∈ GW := gw_mem (inT1 _ (List.mem_of_getElem? (i := 50) rfl)) rfl
theorem mw_3 : Cond.laysFinal "OrielChart$Code" "OrielChart$Code" "uses" "[I" ∈ GW := gw_mem (inT1 _ (List.mem_of_getElem? (i := 52) rfl)) rfl
theorem mw_4 : Cond.lays "OrielChart$Code" "OrielChart$Code" "count" "I" ∈ GW := gw_mem (inT1 _ (List.mem_of_getElem? (i := 54) rfl)) rfl
theorem mw_5 : Cond.laysFinal "OrielChart$Flow" "OrielChart$Flow" "home" "[I" ∈ GW := gw_mem (inT1 _ (List.mem_of_getElem? (i := 99) rfl)) rfl
theorem mw_6 : Cond.laysFinal "OrielChart$Flow" "OrielChart$Flow" "first" "[I" ∈ GW := gw_mem (inT1 _ (List.mem_of_getElem? (i := 101) rfl)) rfl
theorem mw_7 : Cond.laysFinal "OrielChart$Flow" "OrielChart$Flow" "last" "[I" ∈ GW := gw_mem (inT1 _ (List.mem_of_getElem? (i := 103) rfl)) rfl
theorem mw_8 : Cond.laysFinal "OrielChart$Flow" "OrielChart$Flow" "from" "[I" ∈ GW := gw_mem (inT1 _ (List.mem_of_getElem? (i := 105) rfl)) rfl
theorem mw_9 : Cond.laysFinal "OrielChart$Flow" "OrielChart$Flow" "to" "[I" ∈ GW := gw_mem (inT1 _ (List.mem_of_getElem? (i := 107) rfl)) rfl
theorem mw_10 : Cond.laysFinal "OrielChart$Flow" "OrielChart$Flow" "firstEdge" "[I" ∈ GW := gw_mem (inT1 _ (List.mem_of_getElem? (i := 109) rfl)) rfl
theorem mw_11 : Cond.laysFinal "OrielChart$Flow" "OrielChart$Flow" "next" "[J" ∈ GW := gw_mem (inT1 _ (List.mem_of_getElem? (i := 111) rfl)) rfl
theorem mw_12 : Cond.lays "OrielChart$Flow" "OrielChart$Flow" "blockCount" "I" ∈ GW := gw_mem (inT1 _ (List.mem_of_getElem? (i := 113) rfl)) rfl
theorem mw_13 : Cond.lays "OrielChart$Flow" "OrielChart$Flow" "edgeCount" "I" ∈ GW := gw_mem (inT1 _ (List.mem_of_getElem? (i := 115) rfl)) rfl
theorem mw_14 : Cond.lays "OrielChart$Flow" "OrielChart$Flow" "reached" "J" ∈ GW := gw_mem (inT1 _ (List.mem_of_getElem? (i := 117) rfl)) rfl
theorem mw_15 : Cond.lays "OrielChart$Flow" "OrielChart$Flow" "fresh" "Z" ∈ GW := gw_mem (inT1 _ (List.mem_of_getElem? (i := 119) rfl)) rfl
theorem mw_16 : Cond.laysFinal "OrielChart$Lives" "OrielChart$Lives" "live" "[I" ∈ GW := gw_mem (inT1 _ (List.mem_of_getElem? (i := 165) rfl)) rfl
theorem mw_17 : Cond.lays "OrielChart$Lives" "OrielChart$Lives" "vainCount" "I" ∈ GW := gw_mem (inT1 _ (List.mem_of_getElem? (i := 167) rfl)) rfl
theorem mw_18 : Cond.lays "OrielChart$Lives" "OrielChart$Lives" "fresh" "Z" ∈ GW := gw_mem (inT1 _ (List.mem_of_getElem? (i := 169) rfl)) rfl
theorem mw_19 : Cond.laysFinal "OrielChart$Picture" "OrielChart$Picture" "walk" "LOrielChart$Walk;" ∈ GW := gw_mem (inT2 _ (List.mem_of_getElem? (i := 33) rfl)) rfl
theorem mw_20 : Cond.laysFinal "OrielChart$Picture" "OrielChart$Picture" "layer" "[I" ∈ GW := gw_mem (inT2 _ (List.mem_of_getElem? (i := 35) rfl)) rfl
theorem mw_21 : Cond.laysFinal "OrielChart$Picture" "OrielChart$Picture" "start" "[I" ∈ GW := gw_mem (inT2 _ (List.mem_of_getElem? (i := 37) rfl)) rfl
theorem mw_22 : Cond.laysFinal "OrielChart$Picture" "OrielChart$Picture" "firstBend" "[I" ∈ GW := gw_mem (inT2 _ (List.mem_of_getElem? (i := 39) rfl)) rfl
theorem mw_23 : Cond.laysFinal "OrielChart$Picture" "OrielChart$Picture" "edgeOf" "[I" ∈ GW := gw_mem (inT2 _ (List.mem_of_getElem? (i := 41) rfl)) rfl
theorem mw_24 : Cond.laysFinal "OrielChart$Picture" "OrielChart$Picture" "order" "[I" ∈ GW := gw_mem (inT2 _ (List.mem_of_getElem? (i := 43) rfl)) rfl
theorem mw_25 : Cond.laysFinal "OrielChart$Picture" "OrielChart$Picture" "place" "[I" ∈ GW := gw_mem (inT2 _ (List.mem_of_getElem? (i := 45) rfl)) rfl
theorem mw_26 : Cond.laysFinal "OrielChart$Picture" "OrielChart$Picture" "kept" "[I" ∈ GW := gw_mem (inT2 _ (List.mem_of_getElem? (i := 47) rfl)) rfl
theorem mw_27 : Cond.laysFinal "OrielChart$Picture" "OrielChart$Picture" "sum" "[I" ∈ GW := gw_mem (inT2 _ (List.mem_of_getElem? (i := 49) rfl)) rfl
theorem mw_28 : Cond.laysFinal "OrielChart$Picture" "OrielChart$Picture" "lines" "[I" ∈ GW := gw_mem (inT2 _ (List.mem_of_getElem? (i := 51) rfl)) rfl
theorem mw_29 : Cond.laysFinal "OrielChart$Picture" "OrielChart$Picture" "above" "[I" ∈ GW := gw_mem (inT2 _ (List.mem_of_getElem? (i := 53) rfl)) rfl
theorem mw_30 : Cond.laysFinal "OrielChart$Picture" "OrielChart$Picture" "below" "[I" ∈ GW := gw_mem (inT2 _ (List.mem_of_getElem? (i := 55) rfl)) rfl
theorem mw_31 : Cond.lays "OrielChart$Picture" "OrielChart$Picture" "edgeCount" "I" ∈ GW := gw_mem (inT2 _ (List.mem_of_getElem? (i := 57) rfl)) rfl
theorem mw_32 : Cond.lays "OrielChart$Picture" "OrielChart$Picture" "layerCount" "I" ∈ GW := gw_mem (inT2 _ (List.mem_of_getElem? (i := 59) rfl)) rfl
theorem mw_33 : Cond.lays "OrielChart$Picture" "OrielChart$Picture" "sweeps" "I" ∈ GW := gw_mem (inT2 _ (List.mem_of_getElem? (i := 61) rfl)) rfl
theorem mw_34 : Cond.lays "OrielChart$Picture" "OrielChart$Picture" "fresh" "Z" ∈ GW := gw_mem (inT2 _ (List.mem_of_getElem? (i := 63) rfl)) rfl
theorem mw_35 : Cond.laysFinal "OrielChart$Ranks" "OrielChart$Ranks" "ruled" "[J" ∈ GW := gw_mem (inT1 _ (List.mem_of_getElem? (i := 139) rfl)) rfl
theorem mw_36 : Cond.laysFinal "OrielChart$Ranks" "OrielChart$Ranks" "loop" "[J" ∈ GW := gw_mem (inT1 _ (List.mem_of_getElem? (i := 141) rfl)) rfl
theorem mw_37 : Cond.laysFinal "OrielChart$Ranks" "OrielChart$Ranks" "previous" "[J" ∈ GW := gw_mem (inT1 _ (List.mem_of_getElem? (i := 143) rfl)) rfl
theorem mw_38 : Cond.laysFinal "OrielChart$Ranks" "OrielChart$Ranks" "onward" "[J" ∈ GW := gw_mem (inT1 _ (List.mem_of_getElem? (i := 145) rfl)) rfl
theorem mw_39 : Cond.lays "OrielChart$Ranks" "OrielChart$Ranks" "loopCount" "I" ∈ GW := gw_mem (inT1 _ (List.mem_of_getElem? (i := 147) rfl)) rfl
theorem mw_40 : Cond.lays "OrielChart$Ranks" "OrielChart$Ranks" "tame" "Z" ∈ GW := gw_mem (inT1 _ (List.mem_of_getElem? (i := 149) rfl)) rfl
theorem mw_41 : Cond.lays "OrielChart$Ranks" "OrielChart$Ranks" "fresh" "Z" ∈ GW := gw_mem (inT1 _ (List.mem_of_getElem? (i := 151) rfl)) rfl
theorem mw_42 : Cond.laysFinal "OrielChart$Reduction" "OrielChart$Reduction" "next" "[J" ∈ GW := gw_mem (inT1 _ (List.mem_of_getElem? (i := 191) rfl)) rfl
theorem mw_43 : Cond.laysFinal "OrielChart$Reduction" "OrielChart$Reduction" "home" "[I" ∈ GW := gw_mem (inT1 _ (List.mem_of_getElem? (i := 193) rfl)) rfl
theorem mw_44 : Cond.laysFinal "OrielChart$Reduction" "OrielChart$Reduction" "rule" "[I" ∈ GW := gw_mem (inT1 _ (List.mem_of_getElem? (i := 195) rfl)) rfl
theorem mw_45 : Cond.laysFinal "OrielChart$Reduction" "OrielChart$Reduction" "node" "[I" ∈ GW := gw_mem (inT1 _ (List.mem_of_getElem? (i := 197) rfl)) rfl
theorem mw_46 : Cond.laysFinal "OrielChart$Reduction" "OrielChart$Reduction" "entry" "[I" ∈ GW := gw_mem (inT1 _ (List.mem_of_getElem? (i := 199) rfl)) rfl
theorem mw_47 : Cond.lays "OrielChart$Reduction" "OrielChart$Reduction" "nodes" "J" ∈ GW := gw_mem (inT1 _ (List.mem_of_getElem? (i := 201) rfl)) rfl
theorem mw_48 : Cond.lays "OrielChart$Reduction" "OrielChart$Reduction" "stepCount" "I" ∈ GW := gw_mem (inT1 _ (List.mem_of_getElem? (i := 203) rfl)) rfl
theorem mw_49 : Cond.lays "OrielChart$Reduction" "OrielChart$Reduction" "fresh" "Z" ∈ GW := gw_mem (inT1 _ (List.mem_of_getElem? (i := 205) rfl)) rfl
theorem mw_50 : Cond.laysFinal "OrielChart$Walk" "OrielChart$Walk" "came" "[I" ∈ GW := gw_mem (inT1 _ (List.mem_of_getElem? (i := 234) rfl)) rfl
theorem mw_51 : Cond.laysFinal "OrielChart$Walk" "OrielChart$Walk" "upper" "[I" ∈ GW := gw_mem (inT1 _ (List.mem_of_getElem? (i := 236) rfl)) rfl
theorem mw_52 : Cond.laysFinal "OrielChart$Walk" "OrielChart$Walk" "lower" "[I" ∈ GW := gw_mem (inT1 _ (List.mem_of_getElem? (i := 238) rfl)) rfl
theorem mw_53 : Cond.laysFinal "OrielChart$Walk" "OrielChart$Walk" "open" "[I" ∈ GW := gw_mem (inT2 _ (List.mem_of_getElem? (i := 0) rfl)) rfl
theorem mw_54 : Cond.laysFinal "OrielChart$Walk" "OrielChart$Walk" "edge" "[I" ∈ GW := gw_mem (inT2 _ (List.mem_of_getElem? (i := 2) rfl)) rfl
theorem mw_55 : Cond.lays "OrielChart$Walk" "OrielChart$Walk" "cameCount" "I" ∈ GW := gw_mem (inT2 _ (List.mem_of_getElem? (i := 4) rfl)) rfl
theorem mw_56 : Cond.lays "OrielChart$Walk" "OrielChart$Walk" "openCount" "I" ∈ GW := gw_mem (inT2 _ (List.mem_of_getElem? (i := 6) rfl)) rfl
theorem mw_57 : Cond.lays "OrielChart$Walk" "OrielChart$Walk" "seen" "J" ∈ GW := gw_mem (inT2 _ (List.mem_of_getElem? (i := 8) rfl)) rfl
theorem mw_58 : Cond.lays "OrielChart$Walk" "OrielChart$Walk" "stillGoing" "J" ∈ GW := gw_mem (inT2 _ (List.mem_of_getElem? (i := 10) rfl)) rfl
theorem mw_59 : Cond.laysFinal "OrielChart" "OrielChart" "code" "LOrielChart$Code;" ∈ GW := gw_mem (inT2 _ (List.mem_of_getElem? (i := 72) rfl)) rfl
theorem mw_60 : Cond.laysFinal "OrielChart" "OrielChart" "flow" "LOrielChart$Flow;" ∈ GW := gw_mem (inT2 _ (List.mem_of_getElem? (i := 74) rfl)) rfl
theorem mw_61 : Cond.laysFinal "OrielChart" "OrielChart" "ranks" "LOrielChart$Ranks;" ∈ GW := gw_mem (inT2 _ (List.mem_of_getElem? (i := 76) rfl)) rfl
theorem mw_62 : Cond.laysFinal "OrielChart" "OrielChart" "lives" "LOrielChart$Lives;" ∈ GW := gw_mem (inT2 _ (List.mem_of_getElem? (i := 78) rfl)) rfl
theorem mw_63 : Cond.laysFinal "OrielChart" "OrielChart" "reduction" "LOrielChart$Reduction;" ∈ GW := gw_mem (inT2 _ (List.mem_of_getElem? (i := 80) rfl)) rfl
theorem mw_64 : Cond.laysFinal "OrielChart" "OrielChart" "picture" "LOrielChart$Picture;" ∈ GW := gw_mem (inT2 _ (List.mem_of_getElem? (i := 82) rfl)) rfl
theorem mw_65 : Cond.constantLong RJ13 314 (6148914691236517205) ∈ GW := gw_mem (inT2 _ (List.mem_of_getElem? (i := 147) rfl)) rfl
theorem mw_66 : Cond.constantLong RJ13 316 (3689348814741910323) ∈ GW := gw_mem (inT2 _ (List.mem_of_getElem? (i := 148) rfl)) rfl
theorem mw_67 : Cond.constantLong RJ13 318 (1085102592571150095) ∈ GW := gw_mem (inT2 _ (List.mem_of_getElem? (i := 149) rfl)) rfl
theorem mw_68 : Cond.code yJ13_bitCount_95d88 cJ13_bitCount_95d88 2 (some Jvm.ClassFile.FieldType.int) ∈ GW := gw_mem (inT2 _ (List.mem_of_getElem? (i := 146) rfl)) rfl
theorem mw_69 : Cond.methodLink RX7 188 yJ13_bitCount_95d88 ∈ GW := gw_mem (inT2 _ (List.mem_of_getElem? (i := 144) rfl)) rfl
theorem mw_70 : Cond.static yJ13_bitCount_95d88 ∈ GW := gw_mem (inT2 _ (List.mem_of_getElem? (i := 145) rfl)) rfl
theorem mw_71 : Cond.initialized RJ13 ∈ GW := gw_mem (inT1 _ (List.mem_of_getElem? (i := 9) rfl)) rfl
theorem mw_72 : Cond.constantLong RX7 364 (31) ∈ GW := gw_mem (inT3 _ (List.mem_of_getElem? (i := 89) rfl)) rfl
theorem pd_J13_bitCount_95d88 : yJ13_bitCount_95d88.cls ≠ "java/lang/invoke/MethodHandle" ∧ yJ13_bitCount_95d88.cls ≠ "java/lang/invoke/VarHandle" ∧ (parseMethodDescriptor yJ13_bitCount_95d88.desc).map (fun d => d.parameters.length) = some 1 := by decide +kernel
set_option maxRecDepth 20000 in
theorem inGX0 : ∀ w ∈ u_ws RX0 TX0 5, w ∈ GW := List.forall_mem_cons.mpr ⟨mw_0, List.forall_mem_cons.mpr ⟨mw_1, List.forall_mem_cons.mpr ⟨mw_2, List.forall_mem_cons.mpr ⟨mw_3, List.forall_mem_cons.mpr ⟨mw_4, fun _ h => absurd h List.not_mem_nil⟩⟩⟩⟩⟩
set_option maxRecDepth 20000 in
theorem inGX1 : ∀ w ∈ u_ws RX1 TX1 11, w ∈ GW := List.forall_mem_cons.mpr ⟨mw_5, List.forall_mem_cons.mpr ⟨mw_6, List.forall_mem_cons.mpr ⟨mw_7, List.forall_mem_cons.mpr ⟨mw_8, List.forall_mem_cons.mpr ⟨mw_9, List.forall_mem_cons.mpr ⟨mw_10, List.forall_mem_cons.mpr ⟨mw_11, List.forall_mem_cons.mpr ⟨mw_12, List.forall_mem_cons.mpr ⟨mw_13, List.forall_mem_cons.mpr ⟨mw_14, List.forall_mem_cons.mpr ⟨mw_15, fun _ h => absurd h List.not_mem_nil⟩⟩⟩⟩⟩⟩⟩⟩⟩⟩⟩
set_option maxRecDepth 20000 in
theorem inGX2 : ∀ w ∈ u_ws RX2 TX2 3, w ∈ GW := List.forall_mem_cons.mpr ⟨mw_16, List.forall_mem_cons.mpr ⟨mw_17, List.forall_mem_cons.mpr ⟨mw_18, fun _ h => absurd h List.not_mem_nil⟩⟩⟩
set_option maxRecDepth 20000 in
theorem inGX3 : ∀ w ∈ u_ws RX3 TX3 16, w ∈ GW := List.forall_mem_cons.mpr ⟨mw_19, List.forall_mem_cons.mpr ⟨mw_20, List.forall_mem_cons.mpr ⟨mw_21, List.forall_mem_cons.mpr ⟨mw_22, List.forall_mem_cons.mpr ⟨mw_23, List.forall_mem_cons.mpr ⟨mw_24, List.forall_mem_cons.mpr ⟨mw_25, List.forall_mem_cons.mpr ⟨mw_26, List.forall_mem_cons.mpr ⟨mw_27, List.forall_mem_cons.mpr ⟨mw_28, List.forall_mem_cons.mpr ⟨mw_29, List.forall_mem_cons.mpr ⟨mw_30, List.forall_mem_cons.mpr ⟨mw_31, List.forall_mem_cons.mpr ⟨mw_32, List.forall_mem_cons.mpr ⟨mw_33, List.forall_mem_cons.mpr ⟨mw_34, fun _ h => absurd h List.not_mem_nil⟩⟩⟩⟩⟩⟩⟩⟩⟩⟩⟩⟩⟩⟩⟩⟩
set_option maxRecDepth 20000 in
theorem inGX4 : ∀ w ∈ u_ws RX4 TX4 7, w ∈ GW := List.forall_mem_cons.mpr ⟨mw_35, List.forall_mem_cons.mpr ⟨mw_36, List.forall_mem_cons.mpr ⟨mw_37, List.forall_mem_cons.mpr ⟨mw_38, List.forall_mem_cons.mpr ⟨mw_39, List.forall_mem_cons.mpr ⟨mw_40, List.forall_mem_cons.mpr ⟨mw_41, fun _ h => absurd h List.not_mem_nil⟩⟩⟩⟩⟩⟩⟩
set_option maxRecDepth 20000 in
theorem inGX5 : ∀ w ∈ u_ws RX5 TX5 8, w ∈ GW := List.forall_mem_cons.mpr ⟨mw_42, List.forall_mem_cons.mpr ⟨mw_43, List.forall_mem_cons.mpr ⟨mw_44, List.forall_mem_cons.mpr ⟨mw_45, List.forall_mem_cons.mpr ⟨mw_46, List.forall_mem_cons.mpr ⟨mw_47, List.forall_mem_cons.mpr ⟨mw_48, List.forall_mem_cons.mpr ⟨mw_49, fun _ h => absurd h List.not_mem_nil⟩⟩⟩⟩⟩⟩⟩⟩
set_option maxRecDepth 20000 in
theorem inGX6 : ∀ w ∈ u_ws RX6 TX6 9, w ∈ GW := List.forall_mem_cons.mpr ⟨mw_50, List.forall_mem_cons.mpr ⟨mw_51, List.forall_mem_cons.mpr ⟨mw_52, List.forall_mem_cons.mpr ⟨mw_53, List.forall_mem_cons.mpr ⟨mw_54, List.forall_mem_cons.mpr ⟨mw_55, List.forall_mem_cons.mpr ⟨mw_56, List.forall_mem_cons.mpr ⟨mw_57, List.forall_mem_cons.mpr ⟨mw_58, fun _ h => absurd h List.not_mem_nil⟩⟩⟩⟩⟩⟩⟩⟩⟩
set_option maxRecDepth 20000 in
theorem inGX7 : ∀ w ∈ u_ws RX7 TX7 6, w ∈ GW := List.forall_mem_cons.mpr ⟨mw_59, List.forall_mem_cons.mpr ⟨mw_60, List.forall_mem_cons.mpr ⟨mw_61, List.forall_mem_cons.mpr ⟨mw_62, List.forall_mem_cons.mpr ⟨mw_63, List.forall_mem_cons.mpr ⟨mw_64, fun _ h => absurd h List.not_mem_nil⟩⟩⟩⟩⟩⟩
set_option maxHeartbeats 4000000 in
set_option maxRecDepth 100000 in
theorem c_at (l : Launch) (D : va_G) (cI cJ : ClassId) (w : va_W) (q0 a n : Nat) (f : Nat → Int32) (i : Int32) (hq : w[q0]? = some (a, .inl (cI, n, .inl f))) (hn : n < 2 ^ 31) : CT l D (TY cI cJ) yX7_at (.code yX7_at cX7_at 2 (some Jvm.ClassFile.FieldType.int)) 0 0 0 w [.ref a, .int i] (QI D (TY cI cJ) (fun r u => r = rd f n i ∧ u = w)) := by
  refine ent (by decide) (Nat.le_of_ble_eq_true rfl) ?_
  intro p e s m below meth c ls A hx hb hr hg hown hml hlocks hnm hP hK hD hS hA hN hl
  have hl : lv_has ls 2 [(0, .ref a), (1, .int i)] := hl
  refine lv_aload_n hx hb dX7_at_0 rfl (lv_at hl 0 rfl) ?_
  refine lv_ifnull hx hb dX7_at_1 ?_
  refine lv_iload_n hx hb dX7_at_4 rfl (lv_at hl 1 rfl) ?_
  refine lv_if_lt (tgt := 20) hx hb dX7_at_5 (by decide) (fun c_5 => ?_) (fun c_5 => ?_)
  · refine lv_iconst (v := 0) hx hb dX7_at_20 (by decide) ?_
    exact W.iret (v := 0) hx hb hr (fun t ht hW => ⟨⟨0, w, rfl, ⟨(show 0 = rd f n i from (by first | (simp only [rd, if_pos c_5, decide_eq_true c_5, decide_eq_false (not_not_intro c_5), gi_sl, gi_sA, gi_sB, gi_si_s, gi_si_n, gl_si, gl_sA, gl_sB, gl_sl_s, gl_sl_n, gA_si, gA_sl, gA_sB, gA_sA_s, gA_sA_n, gB_si, gB_sl, gB_sA, gB_sB_s, gB_sB_n, Nat.reduceBEq, if_true, if_false, eq_self, Bool.false_eq_true, reduceCtorEq, not_true_eq_false, not_false_eq_true, decide_true, decide_false, cond_true, cond_false, Bool.true_and, Bool.false_and, Bool.and_true, Bool.and_false, Bool.true_or, Bool.false_or, Bool.or_true, Bool.or_false, b2i_tt, b2i_ff]; done) | (simp only [rd, if_pos c_5, decide_eq_true c_5, decide_eq_false (not_not_intro c_5), gi_sl, gi_sA, gi_sB, gi_si_s, gi_si_n, gl_si, gl_sA, gl_sB, gl_sl_s, gl_sl_n, gA_si, gA_sl, gA_sB, gA_sA_s, gA_sA_n, gB_si, gB_sl, gB_sA, gB_sB_s, gB_sB_n, Nat.reduceBEq, if_true, if_false, eq_self, Bool.false_eq_true, reduceCtorEq, not_true_eq_false, not_false_eq_true, decide_true, decide_false, cond_true, cond_false, Bool.true_and, Bool.false_and, Bool.and_true, Bool.and_false, Bool.true_or, Bool.false_or, Bool.or_true, Bool.or_false, b2i_tt, b2i_ff]; rfl) | (simp [rd, c_5, gi_sl, gi_sA, gi_sB, gi_si_s, gi_si_n, gl_si, gl_sA, gl_sB, gl_sl_s, gl_sl_n, gA_si, gA_sl, gA_sB, gA_sA_s, gA_sA_n, gB_si, gB_sl, gB_sA, gB_sB_s, gB_sB_n, Nat.reduceBEq]; done))), rfl⟩, ⟨by rw [ht]; exact hP, va_K.moved hW.alike hK, hD⟩⟩, hS.F ht⟩) hS.2.2 dX7_at_21
  · refine lv_iload_n hx hb dX7_at_8 rfl (lv_at hl 1 rfl) ?_
    refine lv_aload_n hx hb dX7_at_9 rfl (lv_at hl 0 rfl) ?_
    refine va_alen (v := (nI n)) hx hb hK hP q0 0 hq rfl rfl dX7_at_10 ?_
    refine lv_icmp_ge (tgt := 20) hx hb dX7_at_11 (by decide) (fun c_11 => ?_) (fun c_11 => ?_)
    · have c_11 : ¬ i < (nI n) := i_ge c_11
      refine lv_iconst (v := 0) hx hb dX7_at_20 (by decide) ?_
      exact W.iret (v := 0) hx hb hr (fun t ht hW => ⟨⟨0, w, rfl, ⟨(show 0 = rd f n i from (by first | (simp only [rd, if_neg c_5, decide_eq_false c_5, decide_eq_true c_5, if_pos c_5, if_neg c_11, decide_eq_false c_11, decide_eq_true c_11, if_pos c_11, gi_sl, gi_sA, gi_sB, gi_si_s, gi_si_n, gl_si, gl_sA, gl_sB, gl_sl_s, gl_sl_n, gA_si, gA_sl, gA_sB, gA_sA_s, gA_sA_n, gB_si, gB_sl, gB_sA, gB_sB_s, gB_sB_n, Nat.reduceBEq, if_true, if_false, eq_self, Bool.false_eq_true, reduceCtorEq, not_true_eq_false, not_false_eq_true, decide_true, decide_false, cond_true, cond_false, Bool.true_and, Bool.false_and, Bool.and_true, Bool.and_false, Bool.true_or, Bool.false_or, Bool.or_true, Bool.or_false, b2i_tt, b2i_ff]; done) | (simp only [rd, if_neg c_5, decide_eq_false c_5, decide_eq_true c_5, if_pos c_5, if_neg c_11, decide_eq_false c_11, decide_eq_true c_11, if_pos c_11, gi_sl, gi_sA, gi_sB, gi_si_s, gi_si_n, gl_si, gl_sA, gl_sB, gl_sl_s, gl_sl_n, gA_si, gA_sl, gA_sB, gA_sA_s, gA_sA_n, gB_si, gB_sl, gB_sA, gB_sB_s, gB_sB_n, Nat.reduceBEq, if_true, if_false, eq_self, Bool.false_eq_true, reduceCtorEq, not_true_eq_false, not_false_eq_true, decide_true, decide_false, cond_true, cond_false, Bool.true_and, Bool.false_and, Bool.and_true, Bool.and_false, Bool.true_or, Bool.false_or, Bool.or_true, Bool.or_false, b2i_tt, b2i_ff]; rfl) | (simp [rd, c_5, c_11, gi_sl, gi_sA, gi_sB, gi_si_s, gi_si_n, gl_si, gl_sA, gl_sB, gl_sl_s, gl_sl_n, gA_si, gA_sl, gA_sB, gA_sA_s, gA_sA_n, gB_si, gB_sl, gB_sA, gB_sB_s, gB_sB_n, Nat.reduceBEq]; done))), rfl⟩, ⟨by rw [ht]; exact hP, va_K.moved hW.alike hK, hD⟩⟩, hS.F ht⟩) hS.2.2 dX7_at_21
    · have c_11 : i < (nI n) := i_nge c_11
      refine lv_aload_n hx hb dX7_at_14 rfl (lv_at hl 0 rfl) ?_
      refine lv_iload_n hx hb dX7_at_15 rfl (lv_at hl 1 rfl) ?_
      refine va_iald hx hb hK hP q0 0 hq rfl (vp_yes hn c_5 c_11) dX7_at_16 ?_
      refine lv_goto (tgt := 21) hx hb dX7_at_17 (by decide) ?_
      exact W.iret (v := (f (i : Int32).toNatClampNeg)) hx hb hr (fun t ht hW => ⟨⟨(f (i : Int32).toNatClampNeg), w, rfl, ⟨(show (f (i : Int32).toNatClampNeg) = rd f n i from (by first | (simp only [rd, if_neg c_5, decide_eq_false c_5, decide_eq_true c_5, if_pos c_5, if_pos c_11, decide_eq_true c_11, decide_eq_false (not_not_intro c_11), gi_sl, gi_sA, gi_sB, gi_si_s, gi_si_n, gl_si, gl_sA, gl_sB, gl_sl_s, gl_sl_n, gA_si, gA_sl, gA_sB, gA_sA_s, gA_sA_n, gB_si, gB_sl, gB_sA, gB_sB_s, gB_sB_n, Nat.reduceBEq, if_true, if_false, eq_self, Bool.false_eq_true, reduceCtorEq, not_true_eq_false, not_false_eq_true, decide_true, decide_false, cond_true, cond_false, Bool.true_and, Bool.false_and, Bool.and_true, Bool.and_false, Bool.true_or, Bool.false_or, Bool.or_true, Bool.or_false, b2i_tt, b2i_ff]; done) | (simp only [rd, if_neg c_5, decide_eq_false c_5, decide_eq_true c_5, if_pos c_5, if_pos c_11, decide_eq_true c_11, decide_eq_false (not_not_intro c_11), gi_sl, gi_sA, gi_sB, gi_si_s, gi_si_n, gl_si, gl_sA, gl_sB, gl_sl_s, gl_sl_n, gA_si, gA_sl, gA_sB, gA_sA_s, gA_sA_n, gB_si, gB_sl, gB_sA, gB_sB_s, gB_sB_n, Nat.reduceBEq, if_true, if_false, eq_self, Bool.false_eq_true, reduceCtorEq, not_true_eq_false, not_false_eq_true, decide_true, decide_false, cond_true, cond_false, Bool.true_and, Bool.false_and, Bool.and_true, Bool.and_false, Bool.true_or, Bool.false_or, Bool.or_true, Bool.or_false, b2i_tt, b2i_ff]; rfl) | (simp [rd, c_5, c_11, gi_sl, gi_sA, gi_sB, gi_si_s, gi_si_n, gl_si, gl_sA, gl_sB, gl_sl_s, gl_sl_n, gA_si, gA_sl, gA_sB, gA_sA_s, gA_sA_n, gB_si, gB_sl, gB_sA, gB_sB_s, gB_sB_n, Nat.reduceBEq]; done))), rfl⟩, ⟨by rw [ht]; exact hP, va_K.moved hW.alike hK, hD⟩⟩, hS.F ht⟩) hS.2.2 dX7_at_21
set_option maxHeartbeats 4000000 in
set_option maxRecDepth 100000 in
theorem c_atL (l : Launch) (D : va_G) (cI cJ : ClassId) (w : va_W) (q0 a n : Nat) (f : Nat → Int64) (i : Int32) (hq : w[q0]? = some (a, .inl (cJ, n, .inr (.inl f)))) (hn : n < 2 ^ 31) : CT l D (TY cI cJ) yX7_at_ (.code yX7_at_ cX7_at_ 2 (some Jvm.ClassFile.FieldType.long)) 0 0 0 w [.ref a, .int i] (QL D (TY cI cJ) (fun r u => r = rdL f n i ∧ u = w)) := by
  refine ent (by decide) (Nat.le_of_ble_eq_true rfl) ?_
  intro p e s m below meth c ls A hx hb hr hg hown hml hlocks hnm hP hK hD hS hA hN hl
  have hl : lv_has ls 2 [(0, .ref a), (1, .int i)] := hl
  refine lv_aload_n hx hb dX7_at__0 rfl (lv_at hl 0 rfl) ?_
  refine lv_ifnull hx hb dX7_at__1 ?_
  refine lv_iload_n hx hb dX7_at__4 rfl (lv_at hl 1 rfl) ?_
  refine lv_if_lt (tgt := 20) hx hb dX7_at__5 (by decide) (fun c_5 => ?_) (fun c_5 => ?_)
  · refine lv_lconst (v := 0) hx hb dX7_at__20 (by decide) ?_
    exact W.lret (v := 0) hx hb hr (fun t ht hW => ⟨⟨0, w, rfl, ⟨(show 0 = rdL f n i from (by first | (simp only [rdL, if_pos c_5, decide_eq_true c_5, decide_eq_false (not_not_intro c_5), gi_sl, gi_sA, gi_sB, gi_si_s, gi_si_n, gl_si, gl_sA, gl_sB, gl_sl_s, gl_sl_n, gA_si, gA_sl, gA_sB, gA_sA_s, gA_sA_n, gB_si, gB_sl, gB_sA, gB_sB_s, gB_sB_n, Nat.reduceBEq, if_true, if_false, eq_self, Bool.false_eq_true, reduceCtorEq, not_true_eq_false, not_false_eq_true, decide_true, decide_false, cond_true, cond_false, Bool.true_and, Bool.false_and, Bool.and_true, Bool.and_false, Bool.true_or, Bool.false_or, Bool.or_true, Bool.or_false, b2i_tt, b2i_ff]; done) | (simp only [rdL, if_pos c_5, decide_eq_true c_5, decide_eq_false (not_not_intro c_5), gi_sl, gi_sA, gi_sB, gi_si_s, gi_si_n, gl_si, gl_sA, gl_sB, gl_sl_s, gl_sl_n, gA_si, gA_sl, gA_sB, gA_sA_s, gA_sA_n, gB_si, gB_sl, gB_sA, gB_sB_s, gB_sB_n, Nat.reduceBEq, if_true, if_false, eq_self, Bool.false_eq_true, reduceCtorEq, not_true_eq_false, not_false_eq_true, decide_true, decide_false, cond_true, cond_false, Bool.true_and, Bool.false_and, Bool.and_true, Bool.and_false, Bool.true_or, Bool.false_or, Bool.or_true, Bool.or_false, b2i_tt, b2i_ff]; rfl) | (simp [rdL, c_5, gi_sl, gi_sA, gi_sB, gi_si_s, gi_si_n, gl_si, gl_sA, gl_sB, gl_sl_s, gl_sl_n, gA_si, gA_sl, gA_sB, gA_sA_s, gA_sA_n, gB_si, gB_sl, gB_sA, gB_sB_s, gB_sB_n, Nat.reduceBEq]; done))), rfl⟩, ⟨by rw [ht]; exact hP, va_K.moved hW.alike hK, hD⟩⟩, hS.F ht⟩) hS.2.2 dX7_at__21
  · refine lv_iload_n hx hb dX7_at__8 rfl (lv_at hl 1 rfl) ?_
    refine lv_aload_n hx hb dX7_at__9 rfl (lv_at hl 0 rfl) ?_
    refine va_alen (v := (nI n)) hx hb hK hP q0 1 hq rfl rfl dX7_at__10 ?_
    refine lv_icmp_ge (tgt := 20) hx hb dX7_at__11 (by decide) (fun c_11 => ?_) (fun c_11 => ?_)
    · have c_11 : ¬ i < (nI n) := i_ge c_11
      refine lv_lconst (v := 0) hx hb dX7_at__20 (by decide) ?_
      exact W.lret (v := 0) hx hb hr (fun t ht hW => ⟨⟨0, w, rfl, ⟨(show 0 = rdL f n i from (by first | (simp only [rdL, if_neg c_5, decide_eq_false c_5, decide_eq_true c_5, if_pos c_5, if_neg c_11, decide_eq_false c_11, decide_eq_true c_11, if_pos c_11, gi_sl, gi_sA, gi_sB, gi_si_s, gi_si_n, gl_si, gl_sA, gl_sB, gl_sl_s, gl_sl_n, gA_si, gA_sl, gA_sB, gA_sA_s, gA_sA_n, gB_si, gB_sl, gB_sA, gB_sB_s, gB_sB_n, Nat.reduceBEq, if_true, if_false, eq_self, Bool.false_eq_true, reduceCtorEq, not_true_eq_false, not_false_eq_true, decide_true, decide_false, cond_true, cond_false, Bool.true_and, Bool.false_and, Bool.and_true, Bool.and_false, Bool.true_or, Bool.false_or, Bool.or_true, Bool.or_false, b2i_tt, b2i_ff]; done) | (simp only [rdL, if_neg c_5, decide_eq_false c_5, decide_eq_true c_5, if_pos c_5, if_neg c_11, decide_eq_false c_11, decide_eq_true c_11, if_pos c_11, gi_sl, gi_sA, gi_sB, gi_si_s, gi_si_n, gl_si, gl_sA, gl_sB, gl_sl_s, gl_sl_n, gA_si, gA_sl, gA_sB, gA_sA_s, gA_sA_n, gB_si, gB_sl, gB_sA, gB_sB_s, gB_sB_n, Nat.reduceBEq, if_true, if_false, eq_self, Bool.false_eq_true, reduceCtorEq, not_true_eq_false, not_false_eq_true, decide_true, decide_false, cond_true, cond_false, Bool.true_and, Bool.false_and, Bool.and_true, Bool.and_false, Bool.true_or, Bool.false_or, Bool.or_true, Bool.or_false, b2i_tt, b2i_ff]; rfl) | (simp [rdL, c_5, c_11, gi_sl, gi_sA, gi_sB, gi_si_s, gi_si_n, gl_si, gl_sA, gl_sB, gl_sl_s, gl_sl_n, gA_si, gA_sl, gA_sB, gA_sA_s, gA_sA_n, gB_si, gB_sl, gB_sA, gB_sB_s, gB_sB_n, Nat.reduceBEq]; done))), rfl⟩, ⟨by rw [ht]; exact hP, va_K.moved hW.alike hK, hD⟩⟩, hS.F ht⟩) hS.2.2 dX7_at__21
    · have c_11 : i < (nI n) := i_nge c_11
      refine lv_aload_n hx hb dX7_at__14 rfl (lv_at hl 0 rfl) ?_
      refine lv_iload_n hx hb dX7_at__15 rfl (lv_at hl 1 rfl) ?_
      refine va_lald hx hb hK hP q0 1 hq rfl (vp_yes hn c_5 c_11) dX7_at__16 ?_
      refine lv_goto (tgt := 21) hx hb dX7_at__17 (by decide) ?_
      exact W.lret (v := (f (i : Int32).toNatClampNeg)) hx hb hr (fun t ht hW => ⟨⟨(f (i : Int32).toNatClampNeg), w, rfl, ⟨(show (f (i : Int32).toNatClampNeg) = rdL f n i from (by first | (simp only [rdL, if_neg c_5, decide_eq_false c_5, decide_eq_true c_5, if_pos c_5, if_pos c_11, decide_eq_true c_11, decide_eq_false (not_not_intro c_11), gi_sl, gi_sA, gi_sB, gi_si_s, gi_si_n, gl_si, gl_sA, gl_sB, gl_sl_s, gl_sl_n, gA_si, gA_sl, gA_sB, gA_sA_s, gA_sA_n, gB_si, gB_sl, gB_sA, gB_sB_s, gB_sB_n, Nat.reduceBEq, if_true, if_false, eq_self, Bool.false_eq_true, reduceCtorEq, not_true_eq_false, not_false_eq_true, decide_true, decide_false, cond_true, cond_false, Bool.true_and, Bool.false_and, Bool.and_true, Bool.and_false, Bool.true_or, Bool.false_or, Bool.or_true, Bool.or_false, b2i_tt, b2i_ff]; done) | (simp only [rdL, if_neg c_5, decide_eq_false c_5, decide_eq_true c_5, if_pos c_5, if_pos c_11, decide_eq_true c_11, decide_eq_false (not_not_intro c_11), gi_sl, gi_sA, gi_sB, gi_si_s, gi_si_n, gl_si, gl_sA, gl_sB, gl_sl_s, gl_sl_n, gA_si, gA_sl, gA_sB, gA_sA_s, gA_sA_n, gB_si, gB_sl, gB_sA, gB_sB_s, gB_sB_n, Nat.reduceBEq, if_true, if_false, eq_self, Bool.false_eq_true, reduceCtorEq, not_true_eq_false, not_false_eq_true, decide_true, decide_false, cond_true, cond_false, Bool.true_and, Bool.false_and, Bool.and_true, Bool.and_false, Bool.true_or, Bool.false_or, Bool.or_true, Bool.or_false, b2i_tt, b2i_ff]; rfl) | (simp [rdL, c_5, c_11, gi_sl, gi_sA, gi_sB, gi_si_s, gi_si_n, gl_si, gl_sA, gl_sB, gl_sl_s, gl_sl_n, gA_si, gA_sl, gA_sB, gA_sA_s, gA_sA_n, gB_si, gB_sl, gB_sA, gB_sB_s, gB_sB_n, Nat.reduceBEq]; done))), rfl⟩, ⟨by rw [ht]; exact hP, va_K.moved hW.alike hK, hD⟩⟩, hS.F ht⟩) hS.2.2 dX7_at__21
set_option maxHeartbeats 4000000 in
set_option maxRecDepth 100000 in
theorem c_put (l : Launch) (D : va_G) (cI cJ : ClassId) (w : va_W) (q0 a n : Nat) (f : Nat → Int32) (i : Int32) (v : Int32) (hq : w[q0]? = some (a, .inl (cI, n, .inl f))) (hn : n < 2 ^ 31) : CT l D (TY cI cJ) yX7_put (.code yX7_put cX7_put 3 (none : Option FieldType)) 0 0 0 w [.ref a, .int i, .int v] (QV D (TY cI cJ) (fun u => u = w.set q0 (a, .inl (cI, n, .inl (wr f n i v))))) := by
  refine ent (by decide) (Nat.le_of_ble_eq_true rfl) ?_
  intro p e s m below meth c ls A hx hb hr hg hown hml hlocks hnm hP hK hD hS hA hN hl
  have hl : lv_has ls 3 [(0, .ref a), (1, .int i), (2, .int v)] := hl
  refine lv_aload_n hx hb dX7_put_0 rfl (lv_at hl 0 rfl) ?_
  refine lv_ifnull hx hb dX7_put_1 ?_
  refine lv_iload_n hx hb dX7_put_4 rfl (lv_at hl 1 rfl) ?_
  refine lv_if_lt (tgt := 18) hx hb dX7_put_5 (by decide) (fun c_5 => ?_) (fun c_5 => ?_)
  · exact W.vret hx hb hr (fun t ht hW => ⟨⟨w, rfl, (by rw [show wr f n i v = f from (by first | (simp only [wr, if_pos c_5, decide_eq_true c_5, decide_eq_false (not_not_intro c_5), gi_sl, gi_sA, gi_sB, gi_si_s, gi_si_n, gl_si, gl_sA, gl_sB, gl_sl_s, gl_sl_n, gA_si, gA_sl, gA_sB, gA_sA_s, gA_sA_n, gB_si, gB_sl, gB_sA, gB_sB_s, gB_sB_n, Nat.reduceBEq, if_true, if_false, eq_self, Bool.false_eq_true, reduceCtorEq, not_true_eq_false, not_false_eq_true, decide_true, decide_false, cond_true, cond_false, Bool.true_and, Bool.false_and, Bool.and_true, Bool.and_false, Bool.true_or, Bool.false_or, Bool.or_true, Bool.or_false, b2i_tt, b2i_ff]; done) | (simp only [wr, if_pos c_5, decide_eq_true c_5, decide_eq_false (not_not_intro c_5), gi_sl, gi_sA, gi_sB, gi_si_s, gi_si_n, gl_si, gl_sA, gl_sB, gl_sl_s, gl_sl_n, gA_si, gA_sl, gA_sB, gA_sA_s, gA_sA_n, gB_si, gB_sl, gB_sA, gB_sB_s, gB_sB_n, Nat.reduceBEq, if_true, if_false, eq_self, Bool.false_eq_true, reduceCtorEq, not_true_eq_false, not_false_eq_true, decide_true, decide_false, cond_true, cond_false, Bool.true_and, Bool.false_and, Bool.and_true, Bool.and_false, Bool.true_or, Bool.false_or, Bool.or_true, Bool.or_false, b2i_tt, b2i_ff]; rfl) | (simp [wr, c_5, gi_sl, gi_sA, gi_sB, gi_si_s, gi_si_n, gl_si, gl_sA, gl_sB, gl_sl_s, gl_sl_n, gA_si, gA_sl, gA_sB, gA_sA_s, gA_sA_n, gB_si, gB_sl, gB_sA, gB_sB_s, gB_sB_n, Nat.reduceBEq]; done))]; exact (set_same hq).symm), ⟨by rw [ht]; exact hP, va_K.moved hW.alike hK, hD⟩⟩, hS.F ht⟩) hS.2.2 dX7_put_18
  · refine lv_iload_n hx hb dX7_put_8 rfl (lv_at hl 1 rfl) ?_
    refine lv_aload_n hx hb dX7_put_9 rfl (lv_at hl 0 rfl) ?_
    refine va_alen (v := (nI n)) hx hb hK hP q0 0 hq rfl rfl dX7_put_10 ?_
    refine lv_icmp_ge (tgt := 18) hx hb dX7_put_11 (by decide) (fun c_11 => ?_) (fun c_11 => ?_)
    · have c_11 : ¬ i < (nI n) := i_ge c_11
      exact W.vret hx hb hr (fun t ht hW => ⟨⟨w, rfl, (by rw [show wr f n i v = f from (by first | (simp only [wr, if_neg c_5, decide_eq_false c_5, decide_eq_true c_5, if_pos c_5, if_neg c_11, decide_eq_false c_11, decide_eq_true c_11, if_pos c_11, gi_sl, gi_sA, gi_sB, gi_si_s, gi_si_n, gl_si, gl_sA, gl_sB, gl_sl_s, gl_sl_n, gA_si, gA_sl, gA_sB, gA_sA_s, gA_sA_n, gB_si, gB_sl, gB_sA, gB_sB_s, gB_sB_n, Nat.reduceBEq, if_true, if_false, eq_self, Bool.false_eq_true, reduceCtorEq, not_true_eq_false, not_false_eq_true, decide_true, decide_false, cond_true, cond_false, Bool.true_and, Bool.false_and, Bool.and_true, Bool.and_false, Bool.true_or, Bool.false_or, Bool.or_true, Bool.or_false, b2i_tt, b2i_ff]; done) | (simp only [wr, if_neg c_5, decide_eq_false c_5, decide_eq_true c_5, if_pos c_5, if_neg c_11, decide_eq_false c_11, decide_eq_true c_11, if_pos c_11, gi_sl, gi_sA, gi_sB, gi_si_s, gi_si_n, gl_si, gl_sA, gl_sB, gl_sl_s, gl_sl_n, gA_si, gA_sl, gA_sB, gA_sA_s, gA_sA_n, gB_si, gB_sl, gB_sA, gB_sB_s, gB_sB_n, Nat.reduceBEq, if_true, if_false, eq_self, Bool.false_eq_true, reduceCtorEq, not_true_eq_false, not_false_eq_true, decide_true, decide_false, cond_true, cond_false, Bool.true_and, Bool.false_and, Bool.and_true, Bool.and_false, Bool.true_or, Bool.false_or, Bool.or_true, Bool.or_false, b2i_tt, b2i_ff]; rfl) | (simp [wr, c_5, c_11, gi_sl, gi_sA, gi_sB, gi_si_s, gi_si_n, gl_si, gl_sA, gl_sB, gl_sl_s, gl_sl_n, gA_si, gA_sl, gA_sB, gA_sA_s, gA_sA_n, gB_si, gB_sl, gB_sA, gB_sB_s, gB_sB_n, Nat.reduceBEq]; done))]; exact (set_same hq).symm), ⟨by rw [ht]; exact hP, va_K.moved hW.alike hK, hD⟩⟩, hS.F ht⟩) hS.2.2 dX7_put_18
    · have c_11 : i < (nI n) := i_nge c_11
      refine lv_aload_n hx hb dX7_put_14 rfl (lv_at hl 0 rfl) ?_
      refine lv_iload_n hx hb dX7_put_15 rfl (lv_at hl 1 rfl) ?_
      refine lv_iload_n hx hb dX7_put_16 rfl (lv_at hl 2 rfl) ?_
      refine va_iast hx hb hK hP hD hS q0 0 hq rfl (vp_yes hn c_5 c_11) dX7_put_17 (fun H locs hP hD hS => ?_)
      have hP : va_P D vwCl (w.set q0 (a, .inl (cI, n, .inl (upd f (i : Int32).toNatClampNeg v)))) H := hP
      have hD : va_D A (w.set q0 (a, .inl (cI, n, .inl (upd f (i : Int32).toNatClampNeg v)))) := hD
      exact W.vret hx hb hr (fun t ht hW => ⟨⟨(w.set q0 (a, .inl (cI, n, .inl (upd f (i : Int32).toNatClampNeg v)))), rfl, (by rw [show wr f n i v = upd f i.toNatClampNeg v from (by first | (simp only [wr, if_neg c_5, decide_eq_false c_5, decide_eq_true c_5, if_pos c_5, if_pos c_11, decide_eq_true c_11, decide_eq_false (not_not_intro c_11), gi_sl, gi_sA, gi_sB, gi_si_s, gi_si_n, gl_si, gl_sA, gl_sB, gl_sl_s, gl_sl_n, gA_si, gA_sl, gA_sB, gA_sA_s, gA_sA_n, gB_si, gB_sl, gB_sA, gB_sB_s, gB_sB_n, Nat.reduceBEq, if_true, if_false, eq_self, Bool.false_eq_true, reduceCtorEq, not_true_eq_false, not_false_eq_true, decide_true, decide_false, cond_true, cond_false, Bool.true_and, Bool.false_and, Bool.and_true, Bool.and_false, Bool.true_or, Bool.false_or, Bool.or_true, Bool.or_false, b2i_tt, b2i_ff]; done) | (simp only [wr, if_neg c_5, decide_eq_false c_5, decide_eq_true c_5, if_pos c_5, if_pos c_11, decide_eq_true c_11, decide_eq_false (not_not_intro c_11), gi_sl, gi_sA, gi_sB, gi_si_s, gi_si_n, gl_si, gl_sA, gl_sB, gl_sl_s, gl_sl_n, gA_si, gA_sl, gA_sB, gA_sA_s, gA_sA_n, gB_si, gB_sl, gB_sA, gB_sB_s, gB_sB_n, Nat.reduceBEq, if_true, if_false, eq_self, Bool.false_eq_true, reduceCtorEq, not_true_eq_false, not_false_eq_true, decide_true, decide_false, cond_true, cond_false, Bool.true_and, Bool.false_and, Bool.and_true, Bool.and_false, Bool.true_or, Bool.false_or, Bool.or_true, Bool.or_false, b2i_tt, b2i_ff]; rfl) | (simp [wr, c_5, c_11, gi_sl, gi_sA, gi_sB, gi_si_s, gi_si_n, gl_si, gl_sA, gl_sB, gl_sl_s, gl_sl_n, gA_si, gA_sl, gA_sB, gA_sA_s, gA_sA_n, gB_si, gB_sl, gB_sA, gB_sB_s, gB_sB_n, Nat.reduceBEq]; done))]), ⟨by rw [ht]; exact hP, va_K.moved hW.alike hK, hD⟩⟩, hS.F ht⟩) hS.2.2 dX7_put_18
set_option maxHeartbeats 4000000 in
set_option maxRecDepth 100000 in
theorem c_putL (l : Launch) (D : va_G) (cI cJ : ClassId) (w : va_W) (q0 a n : Nat) (f : Nat → Int64) (i : Int32) (v : Int64) (hq : w[q0]? = some (a, .inl (cJ, n, .inr (.inl f)))) (hn : n < 2 ^ 31) : CT l D (TY cI cJ) yX7_put_ (.code yX7_put_ cX7_put_ 4 (none : Option FieldType)) 0 0 0 w [.ref a, .int i, .long v] (QV D (TY cI cJ) (fun u => u = w.set q0 (a, .inl (cJ, n, .inr (.inl (wrL f n i v)))))) := by
  refine ent (by decide) (Nat.le_of_ble_eq_true rfl) ?_
  intro p e s m below meth c ls A hx hb hr hg hown hml hlocks hnm hP hK hD hS hA hN hl
  have hl : lv_has ls 4 [(0, .ref a), (1, .int i), (2, .long v)] := hl
  refine lv_aload_n hx hb dX7_put__0 rfl (lv_at hl 0 rfl) ?_
  refine lv_ifnull hx hb dX7_put__1 ?_
  refine lv_iload_n hx hb dX7_put__4 rfl (lv_at hl 1 rfl) ?_
  refine lv_if_lt (tgt := 18) hx hb dX7_put__5 (by decide) (fun c_5 => ?_) (fun c_5 => ?_)
  · exact W.vret hx hb hr (fun t ht hW => ⟨⟨w, rfl, (by rw [show wrL f n i v = f from (by first | (simp only [wrL, if_pos c_5, decide_eq_true c_5, decide_eq_false (not_not_intro c_5), gi_sl, gi_sA, gi_sB, gi_si_s, gi_si_n, gl_si, gl_sA, gl_sB, gl_sl_s, gl_sl_n, gA_si, gA_sl, gA_sB, gA_sA_s, gA_sA_n, gB_si, gB_sl, gB_sA, gB_sB_s, gB_sB_n, Nat.reduceBEq, if_true, if_false, eq_self, Bool.false_eq_true, reduceCtorEq, not_true_eq_false, not_false_eq_true, decide_true, decide_false, cond_true, cond_false, Bool.true_and, Bool.false_and, Bool.and_true, Bool.and_false, Bool.true_or, Bool.false_or, Bool.or_true, Bool.or_false, b2i_tt, b2i_ff]; done) | (simp only [wrL, if_pos c_5, decide_eq_true c_5, decide_eq_false (not_not_intro c_5), gi_sl, gi_sA, gi_sB, gi_si_s, gi_si_n, gl_si, gl_sA, gl_sB, gl_sl_s, gl_sl_n, gA_si, gA_sl, gA_sB, gA_sA_s, gA_sA_n, gB_si, gB_sl, gB_sA, gB_sB_s, gB_sB_n, Nat.reduceBEq, if_true, if_false, eq_self, Bool.false_eq_true, reduceCtorEq, not_true_eq_false, not_false_eq_true, decide_true, decide_false, cond_true, cond_false, Bool.true_and, Bool.false_and, Bool.and_true, Bool.and_false, Bool.true_or, Bool.false_or, Bool.or_true, Bool.or_false, b2i_tt, b2i_ff]; rfl) | (simp [wrL, c_5, gi_sl, gi_sA, gi_sB, gi_si_s, gi_si_n, gl_si, gl_sA, gl_sB, gl_sl_s, gl_sl_n, gA_si, gA_sl, gA_sB, gA_sA_s, gA_sA_n, gB_si, gB_sl, gB_sA, gB_sB_s, gB_sB_n, Nat.reduceBEq]; done))]; exact (set_same hq).symm), ⟨by rw [ht]; exact hP, va_K.moved hW.alike hK, hD⟩⟩, hS.F ht⟩) hS.2.2 dX7_put__18
  · refine lv_iload_n hx hb dX7_put__8 rfl (lv_at hl 1 rfl) ?_
    refine lv_aload_n hx hb dX7_put__9 rfl (lv_at hl 0 rfl) ?_
    refine va_alen (v := (nI n)) hx hb hK hP q0 1 hq rfl rfl dX7_put__10 ?_
    refine lv_icmp_ge (tgt := 18) hx hb dX7_put__11 (by decide) (fun c_11 => ?_) (fun c_11 => ?_)
    · have c_11 : ¬ i < (nI n) := i_ge c_11
      exact W.vret hx hb hr (fun t ht hW => ⟨⟨w, rfl, (by rw [show wrL f n i v = f from (by first | (simp only [wrL, if_neg c_5, decide_eq_false c_5, decide_eq_true c_5, if_pos c_5, if_neg c_11, decide_eq_false c_11, decide_eq_true c_11, if_pos c_11, gi_sl, gi_sA, gi_sB, gi_si_s, gi_si_n, gl_si, gl_sA, gl_sB, gl_sl_s, gl_sl_n, gA_si, gA_sl, gA_sB, gA_sA_s, gA_sA_n, gB_si, gB_sl, gB_sA, gB_sB_s, gB_sB_n, Nat.reduceBEq, if_true, if_false, eq_self, Bool.false_eq_true, reduceCtorEq, not_true_eq_false, not_false_eq_true, decide_true, decide_false, cond_true, cond_false, Bool.true_and, Bool.false_and, Bool.and_true, Bool.and_false, Bool.true_or, Bool.false_or, Bool.or_true, Bool.or_false, b2i_tt, b2i_ff]; done) | (simp only [wrL, if_neg c_5, decide_eq_false c_5, decide_eq_true c_5, if_pos c_5, if_neg c_11, decide_eq_false c_11, decide_eq_true c_11, if_pos c_11, gi_sl, gi_sA, gi_sB, gi_si_s, gi_si_n, gl_si, gl_sA, gl_sB, gl_sl_s, gl_sl_n, gA_si, gA_sl, gA_sB, gA_sA_s, gA_sA_n, gB_si, gB_sl, gB_sA, gB_sB_s, gB_sB_n, Nat.reduceBEq, if_true, if_false, eq_self, Bool.false_eq_true, reduceCtorEq, not_true_eq_false, not_false_eq_true, decide_true, decide_false, cond_true, cond_false, Bool.true_and, Bool.false_and, Bool.and_true, Bool.and_false, Bool.true_or, Bool.false_or, Bool.or_true, Bool.or_false, b2i_tt, b2i_ff]; rfl) | (simp [wrL, c_5, c_11, gi_sl, gi_sA, gi_sB, gi_si_s, gi_si_n, gl_si, gl_sA, gl_sB, gl_sl_s, gl_sl_n, gA_si, gA_sl, gA_sB, gA_sA_s, gA_sA_n, gB_si, gB_sl, gB_sA, gB_sB_s, gB_sB_n, Nat.reduceBEq]; done))]; exact (set_same hq).symm), ⟨by rw [ht]; exact hP, va_K.moved hW.alike hK, hD⟩⟩, hS.F ht⟩) hS.2.2 dX7_put__18
    · have c_11 : i < (nI n) := i_nge c_11
      refine lv_aload_n hx hb dX7_put__14 rfl (lv_at hl 0 rfl) ?_
      refine lv_iload_n hx hb dX7_put__15 rfl (lv_at hl 1 rfl) ?_
      refine lv_lload_n hx hb dX7_put__16 rfl (lv_at hl 2 rfl) ?_
      refine va_last hx hb hK hP hD hS q0 1 hq rfl (vp_yes hn c_5 c_11) dX7_put__17 (fun H locs hP hD hS => ?_)
      have hP : va_P D vwCl (w.set q0 (a, .inl (cJ, n, .inr (.inl (vp_updL f (i : Int32).toNatClampNeg v))))) H := hP
      have hD : va_D A (w.set q0 (a, .inl (cJ, n, .inr (.inl (vp_updL f (i : Int32).toNatClampNeg v))))) := hD
      exact W.vret hx hb hr (fun t ht hW => ⟨⟨(w.set q0 (a, .inl (cJ, n, .inr (.inl (vp_updL f (i : Int32).toNatClampNeg v))))), rfl, (by rw [show wrL f n i v = vp_updL f i.toNatClampNeg v from (by first | (simp only [wrL, if_neg c_5, decide_eq_false c_5, decide_eq_true c_5, if_pos c_5, if_pos c_11, decide_eq_true c_11, decide_eq_false (not_not_intro c_11), gi_sl, gi_sA, gi_sB, gi_si_s, gi_si_n, gl_si, gl_sA, gl_sB, gl_sl_s, gl_sl_n, gA_si, gA_sl, gA_sB, gA_sA_s, gA_sA_n, gB_si, gB_sl, gB_sA, gB_sB_s, gB_sB_n, Nat.reduceBEq, if_true, if_false, eq_self, Bool.false_eq_true, reduceCtorEq, not_true_eq_false, not_false_eq_true, decide_true, decide_false, cond_true, cond_false, Bool.true_and, Bool.false_and, Bool.and_true, Bool.and_false, Bool.true_or, Bool.false_or, Bool.or_true, Bool.or_false, b2i_tt, b2i_ff]; done) | (simp only [wrL, if_neg c_5, decide_eq_false c_5, decide_eq_true c_5, if_pos c_5, if_pos c_11, decide_eq_true c_11, decide_eq_false (not_not_intro c_11), gi_sl, gi_sA, gi_sB, gi_si_s, gi_si_n, gl_si, gl_sA, gl_sB, gl_sl_s, gl_sl_n, gA_si, gA_sl, gA_sB, gA_sA_s, gA_sA_n, gB_si, gB_sl, gB_sA, gB_sB_s, gB_sB_n, Nat.reduceBEq, if_true, if_false, eq_self, Bool.false_eq_true, reduceCtorEq, not_true_eq_false, not_false_eq_true, decide_true, decide_false, cond_true, cond_false, Bool.true_and, Bool.false_and, Bool.and_true, Bool.and_false, Bool.true_or, Bool.false_or, Bool.or_true, Bool.or_false, b2i_tt, b2i_ff]; rfl) | (simp [wrL, c_5, c_11, gi_sl, gi_sA, gi_sB, gi_si_s, gi_si_n, gl_si, gl_sA, gl_sB, gl_sl_s, gl_sl_n, gA_si, gA_sl, gA_sB, gA_sA_s, gA_sA_n, gB_si, gB_sl, gB_sA, gB_sB_s, gB_sB_n, Nat.reduceBEq]; done))]), ⟨by rw [ht]; exact hP, va_K.moved hW.alike hK, hD⟩⟩, hS.F ht⟩) hS.2.2 dX7_put__18
set_option maxHeartbeats 4000000 in
set_option maxRecDepth 100000 in
theorem c_bit (l : Launch) (D : va_G) (cI cJ : ClassId) (w : va_W) (n : Int32) : CT l D (TY cI cJ) yX7_bit (.code yX7_bit cX7_bit 1 (some Jvm.ClassFile.FieldType.long)) 0 0 0 w [.int n] (QL D (TY cI cJ) (fun r u => r = (bitL n) ∧ u = w)) := by
  refine ent (by decide) (Nat.le_of_ble_eq_true rfl) ?_
  intro p e s m below meth c ls A hx hb hr hg hown hml hlocks hnm hP hK hD hS hA hN hl
  have hl : lv_has ls 1 [(0, .int n)] := hl
  refine lv_lconst (v := 1) hx hb dX7_bit_0 (by decide) ?_
  refine lv_iload_n hx hb dX7_bit_1 rfl (lv_at hl 0 rfl) ?_
  refine lv_lshl (v := (sh 1 n)) hx hb dX7_bit_2 rfl ?_
  exact W.lret (v := (sh 1 n)) hx hb hr (fun t ht hW => ⟨⟨(sh 1 n), w, rfl, ⟨(show (sh 1 n) = (bitL n) from (by first | with_reducible rfl | (simp only [bitL, gi_sl, gi_sA, gi_sB, gi_si_s, gi_si_n, gl_si, gl_sA, gl_sB, gl_sl_s, gl_sl_n, gA_si, gA_sl, gA_sB, gA_sA_s, gA_sA_n, gB_si, gB_sl, gB_sA, gB_sB_s, gB_sB_n, Nat.reduceBEq, if_true, if_false, eq_self, Bool.false_eq_true, reduceCtorEq, not_true_eq_false, not_false_eq_true, decide_true, decide_false, cond_true, cond_false, Bool.true_and, Bool.false_and, Bool.and_true, Bool.and_false, Bool.true_or, Bool.false_or, Bool.or_true, Bool.or_false, b2i_tt, b2i_ff]; done) | rfl)), rfl⟩, ⟨by rw [ht]; exact hP, va_K.moved hW.alike hK, hD⟩⟩, hS.F ht⟩) hS.2.2 dX7_bit_3
set_option maxHeartbeats 4000000 in
set_option maxRecDepth 100000 in
theorem c_has (l : Launch) (D : va_G) (cI cJ : ClassId) (w : va_W) (x : Int64) (n : Int32) : CT l D (TY cI cJ) yX7_has (.code yX7_has cX7_has 3 (some Jvm.ClassFile.FieldType.boolean)) 0 0 0 w [.long x, .int n] (QI D (TY cI cJ) (fun r u => r = (b2i (hs x n)) ∧ u = w)) := by
  refine ent (by decide) (Nat.le_of_ble_eq_true rfl) ?_
  intro p e s m below meth c ls A hx hb hr hg hown hml hlocks hnm hP hK hD hS hA hN hl
  have hl : lv_has ls 3 [(0, .long x), (2, .int n)] := hl
  refine lv_lload_n hx hb dX7_has_0 rfl (lv_at hl 0 rfl) ?_
  refine lv_iload_n hx hb dX7_has_1 rfl (lv_at hl 1 rfl) ?_
  refine lv_lushr (v := (us x n)) hx hb dX7_has_2 rfl ?_
  refine lv_lconst (v := 1) hx hb dX7_has_3 (by decide) ?_
  refine lv_land hx hb dX7_has_4 ?_
  refine lv_lconst (v := 0) hx hb dX7_has_5 (by decide) ?_
  refine W.lcmp hx hb dX7_has_6 ?_
  refine lv_if_eq (tgt := 14) hx hb dX7_has_7 (by decide) (fun c_7 => ?_) (fun c_7 => ?_)
  · have c_7 : ((us x n) &&& 1) = 0 := lcmp_0 c_7
    refine lv_iconst (v := 0) hx hb dX7_has_14 (by decide) ?_
    exact W.zret (v := 0) hx hb hr rfl (fun t ht hW => ⟨⟨0, w, rfl, ⟨(show (0 : Int32) = (b2i (hs x n)) from (by first | (simp only [hs, if_pos c_7, decide_eq_true c_7, decide_eq_false (not_not_intro c_7), gi_sl, gi_sA, gi_sB, gi_si_s, gi_si_n, gl_si, gl_sA, gl_sB, gl_sl_s, gl_sl_n, gA_si, gA_sl, gA_sB, gA_sA_s, gA_sA_n, gB_si, gB_sl, gB_sA, gB_sB_s, gB_sB_n, Nat.reduceBEq, if_true, if_false, eq_self, Bool.false_eq_true, reduceCtorEq, not_true_eq_false, not_false_eq_true, decide_true, decide_false, cond_true, cond_false, Bool.true_and, Bool.false_and, Bool.and_true, Bool.and_false, Bool.true_or, Bool.false_or, Bool.or_true, Bool.or_false, b2i_tt, b2i_ff]; done) | (simp only [hs, if_pos c_7, decide_eq_true c_7, decide_eq_false (not_not_intro c_7), gi_sl, gi_sA, gi_sB, gi_si_s, gi_si_n, gl_si, gl_sA, gl_sB, gl_sl_s, gl_sl_n, gA_si, gA_sl, gA_sB, gA_sA_s, gA_sA_n, gB_si, gB_sl, gB_sA, gB_sB_s, gB_sB_n, Nat.reduceBEq, if_true, if_false, eq_self, Bool.false_eq_true, reduceCtorEq, not_true_eq_false, not_false_eq_true, decide_true, decide_false, cond_true, cond_false, Bool.true_and, Bool.false_and, Bool.and_true, Bool.and_false, Bool.true_or, Bool.false_or, Bool.or_true, Bool.or_false, b2i_tt, b2i_ff]; rfl) | (simp [hs, c_7, gi_sl, gi_sA, gi_sB, gi_si_s, gi_si_n, gl_si, gl_sA, gl_sB, gl_sl_s, gl_sl_n, gA_si, gA_sl, gA_sB, gA_sA_s, gA_sA_n, gB_si, gB_sl, gB_sA, gB_sB_s, gB_sB_n, Nat.reduceBEq]; done))), rfl⟩, ⟨by rw [ht]; exact hP, va_K.moved hW.alike hK, hD⟩⟩, hS.F ht⟩) hS.2.2 dX7_has_15
  · have c_7 : ¬ ((us x n) &&& 1) = 0 := lcmp_1 c_7
    refine lv_iconst (v := 1) hx hb dX7_has_10 (by decide) ?_
    refine lv_goto (tgt := 15) hx hb dX7_has_11 (by decide) ?_
    exact W.zret (v := 1) hx hb hr rfl (fun t ht hW => ⟨⟨1, w, rfl, ⟨(show (1 : Int32) = (b2i (hs x n)) from (by first | (simp only [hs, if_neg c_7, decide_eq_false c_7, decide_eq_true c_7, if_pos c_7, gi_sl, gi_sA, gi_sB, gi_si_s, gi_si_n, gl_si, gl_sA, gl_sB, gl_sl_s, gl_sl_n, gA_si, gA_sl, gA_sB, gA_sA_s, gA_sA_n, gB_si, gB_sl, gB_sA, gB_sB_s, gB_sB_n, Nat.reduceBEq, if_true, if_false, eq_self, Bool.false_eq_true, reduceCtorEq, not_true_eq_false, not_false_eq_true, decide_true, decide_false, cond_true, cond_false, Bool.true_and, Bool.false_and, Bool.and_true, Bool.and_false, Bool.true_or, Bool.false_or, Bool.or_true, Bool.or_false, b2i_tt, b2i_ff]; done) | (simp only [hs, if_neg c_7, decide_eq_false c_7, decide_eq_true c_7, if_pos c_7, gi_sl, gi_sA, gi_sB, gi_si_s, gi_si_n, gl_si, gl_sA, gl_sB, gl_sl_s, gl_sl_n, gA_si, gA_sl, gA_sB, gA_sA_s, gA_sA_n, gB_si, gB_sl, gB_sA, gB_sB_s, gB_sB_n, Nat.reduceBEq, if_true, if_false, eq_self, Bool.false_eq_true, reduceCtorEq, not_true_eq_false, not_false_eq_true, decide_true, decide_false, cond_true, cond_false, Bool.true_and, Bool.false_and, Bool.and_true, Bool.and_false, Bool.true_or, Bool.false_or, Bool.or_true, Bool.or_false, b2i_tt, b2i_ff]; rfl) | (simp [hs, c_7, gi_sl, gi_sA, gi_sB, gi_si_s, gi_si_n, gl_si, gl_sA, gl_sB, gl_sl_s, gl_sl_n, gA_si, gA_sl, gA_sB, gA_sA_s, gA_sA_n, gB_si, gB_sl, gB_sA, gB_sB_s, gB_sB_n, Nat.reduceBEq]; done))), rfl⟩, ⟨by rw [ht]; exact hP, va_K.moved hW.alike hK, hD⟩⟩, hS.F ht⟩) hS.2.2 dX7_has_15
set_option maxHeartbeats 4000000 in
set_option maxRecDepth 100000 in
theorem c_bitCount (l : Launch) (D : va_G) (cI cJ : ClassId) (w : va_W) (x : Int64) : CT l D (TY cI cJ) yJ13_bitCount_95d88 (.code yJ13_bitCount_95d88 cJ13_bitCount_95d88 2 (some Jvm.ClassFile.FieldType.int)) 0 0 0 w [.long x] (QI D (TY cI cJ) (fun r u => r = (bc x) ∧ u = w)) := by
  refine ent (by decide) (Nat.le_of_ble_eq_true rfl) ?_
  intro p e s m below meth c ls A hx hb hr hg hown hml hlocks hnm hP hK hD hS hA hN hl
  have hl : lv_has ls 2 [(0, .long x)] := hl
  refine lv_lload_n hx hb dJ13_bitCount_95d88_0 rfl (lv_at hl 0 rfl) ?_
  refine lv_lload_n hx hb dJ13_bitCount_95d88_1 rfl (lv_at hl 0 rfl) ?_
  refine lv_iconst (v := 1) hx hb dJ13_bitCount_95d88_2 (by decide) ?_
  refine lv_lushr (v := (us x 1)) hx hb dJ13_bitCount_95d88_3 rfl ?_
  refine lv_ldc2 (v := 6148914691236517205) hx hb hown (hg _ mw_65) dJ13_bitCount_95d88_4 ?_
  refine lv_land hx hb dJ13_bitCount_95d88_7 ?_
  refine lv_lsub hx hb dJ13_bitCount_95d88_8 ?_
  refine lv_lstore_n (lv' := [(0, .long (x - ((us x 1) &&& 6148914691236517205)))]) hx hb dJ13_bitCount_95d88_9 rfl hl (by decide) rfl (fun ls hl => ?_)
  refine lv_lload_n hx hb dJ13_bitCount_95d88_10 rfl (lv_at hl 0 rfl) ?_
  refine lv_ldc2 (v := 3689348814741910323) hx hb hown (hg _ mw_66) dJ13_bitCount_95d88_11 ?_
  refine lv_land hx hb dJ13_bitCount_95d88_14 ?_
  refine lv_lload_n hx hb dJ13_bitCount_95d88_15 rfl (lv_at hl 0 rfl) ?_
  refine lv_iconst (v := 2) hx hb dJ13_bitCount_95d88_16 (by decide) ?_
  refine lv_lushr (v := (us (x - ((us x 1) &&& 6148914691236517205)) 2)) hx hb dJ13_bitCount_95d88_17 rfl ?_
  refine lv_ldc2 (v := 3689348814741910323) hx hb hown (hg _ mw_66) dJ13_bitCount_95d88_18 ?_
  refine lv_land hx hb dJ13_bitCount_95d88_21 ?_
  refine lv_ladd hx hb dJ13_bitCount_95d88_22 ?_
  refine lv_lstore_n (lv' := [(0, .long (((x - ((us x 1) &&& 6148914691236517205)) &&& 3689348814741910323) + ((us (x - ((us x 1) &&& 6148914691236517205)) 2) &&& 3689348814741910323)))]) hx hb dJ13_bitCount_95d88_23 rfl hl (by decide) rfl (fun ls hl => ?_)
  refine lv_lload_n hx hb dJ13_bitCount_95d88_24 rfl (lv_at hl 0 rfl) ?_
  refine lv_lload_n hx hb dJ13_bitCount_95d88_25 rfl (lv_at hl 0 rfl) ?_
  refine lv_iconst (v := 4) hx hb dJ13_bitCount_95d88_26 (by decide) ?_
  refine lv_lushr (v := (us (((x - ((us x 1) &&& 6148914691236517205)) &&& 3689348814741910323) + ((us (x - ((us x 1) &&& 6148914691236517205)) 2) &&& 3689348814741910323)) 4)) hx hb dJ13_bitCount_95d88_27 rfl ?_
  refine lv_ladd hx hb dJ13_bitCount_95d88_28 ?_
  refine lv_ldc2 (v := 1085102592571150095) hx hb hown (hg _ mw_67) dJ13_bitCount_95d88_29 ?_
  refine lv_land hx hb dJ13_bitCount_95d88_32 ?_
  refine lv_lstore_n (lv' := [(0, .long (((((x - ((us x 1) &&& 6148914691236517205)) &&& 3689348814741910323) + ((us (x - ((us x 1) &&& 6148914691236517205)) 2) &&& 3689348814741910323)) + (us (((x - ((us x 1) &&& 6148914691236517205)) &&& 3689348814741910323) + ((us (x - ((us x 1) &&& 6148914691236517205)) 2) &&& 3689348814741910323)) 4)) &&& 1085102592571150095))]) hx hb dJ13_bitCount_95d88_33 rfl hl (by decide) rfl (fun ls hl => ?_)
  refine lv_lload_n hx hb dJ13_bitCount_95d88_34 rfl (lv_at hl 0 rfl) ?_
  refine lv_lload_n hx hb dJ13_bitCount_95d88_35 rfl (lv_at hl 0 rfl) ?_
  refine lv_bipush (v := 8) hx hb dJ13_bitCount_95d88_36 (by decide) ?_
  refine lv_lushr (v := (us (((((x - ((us x 1) &&& 6148914691236517205)) &&& 3689348814741910323) + ((us (x - ((us x 1) &&& 6148914691236517205)) 2) &&& 3689348814741910323)) + (us (((x - ((us x 1) &&& 6148914691236517205)) &&& 3689348814741910323) + ((us (x - ((us x 1) &&& 6148914691236517205)) 2) &&& 3689348814741910323)) 4)) &&& 1085102592571150095) 8)) hx hb dJ13_bitCount_95d88_38 rfl ?_
  refine lv_ladd hx hb dJ13_bitCount_95d88_39 ?_
  refine lv_lstore_n (lv' := [(0, .long ((((((x - ((us x 1) &&& 6148914691236517205)) &&& 3689348814741910323) + ((us (x - ((us x 1) &&& 6148914691236517205)) 2) &&& 3689348814741910323)) + (us (((x - ((us x 1) &&& 6148914691236517205)) &&& 3689348814741910323) + ((us (x - ((us x 1) &&& 6148914691236517205)) 2) &&& 3689348814741910323)) 4)) &&& 1085102592571150095) + (us (((((x - ((us x 1) &&& 6148914691236517205)) &&& 3689348814741910323) + ((us (x - ((us x 1) &&& 6148914691236517205)) 2) &&& 3689348814741910323)) + (us (((x - ((us x 1) &&& 6148914691236517205)) &&& 3689348814741910323) + ((us (x - ((us x 1) &&& 6148914691236517205)) 2) &&& 3689348814741910323)) 4)) &&& 1085102592571150095) 8)))]) hx hb dJ13_bitCount_95d88_40 rfl hl (by decide) rfl (fun ls hl => ?_)
  refine lv_lload_n hx hb dJ13_bitCount_95d88_41 rfl (lv_at hl 0 rfl) ?_
  refine lv_lload_n hx hb dJ13_bitCount_95d88_42 rfl (lv_at hl 0 rfl) ?_
  refine lv_bipush (v := 16) hx hb dJ13_bitCount_95d88_43 (by decide) ?_
  refine lv_lushr (v := (us ((((((x - ((us x 1) &&& 6148914691236517205)) &&& 3689348814741910323) + ((us (x - ((us x 1) &&& 6148914691236517205)) 2) &&& 3689348814741910323)) + (us (((x - ((us x 1) &&& 6148914691236517205)) &&& 3689348814741910323) + ((us (x - ((us x 1) &&& 6148914691236517205)) 2) &&& 3689348814741910323)) 4)) &&& 1085102592571150095) + (us (((((x - ((us x 1) &&& 6148914691236517205)) &&& 3689348814741910323) + ((us (x - ((us x 1) &&& 6148914691236517205)) 2) &&& 3689348814741910323)) + (us (((x - ((us x 1) &&& 6148914691236517205)) &&& 3689348814741910323) + ((us (x - ((us x 1) &&& 6148914691236517205)) 2) &&& 3689348814741910323)) 4)) &&& 1085102592571150095) 8)) 16)) hx hb dJ13_bitCount_95d88_45 rfl ?_
  refine lv_ladd hx hb dJ13_bitCount_95d88_46 ?_
  refine lv_lstore_n (lv' := [(0, .long (((((((x - ((us x 1) &&& 6148914691236517205)) &&& 3689348814741910323) + ((us (x - ((us x 1) &&& 6148914691236517205)) 2) &&& 3689348814741910323)) + (us (((x - ((us x 1) &&& 6148914691236517205)) &&& 3689348814741910323) + ((us (x - ((us x 1) &&& 6148914691236517205)) 2) &&& 3689348814741910323)) 4)) &&& 1085102592571150095) + (us (((((x - ((us x 1) &&& 6148914691236517205)) &&& 3689348814741910323) + ((us (x - ((us x 1) &&& 6148914691236517205)) 2) &&& 3689348814741910323)) + (us (((x - ((us x 1) &&& 6148914691236517205)) &&& 3689348814741910323) + ((us (x - ((us x 1) &&& 6148914691236517205)) 2) &&& 3689348814741910323)) 4)) &&& 1085102592571150095) 8)) + (us ((((((x - ((us x 1) &&& 6148914691236517205)) &&& 3689348814741910323) + ((us (x - ((us x 1) &&& 6148914691236517205)) 2) &&& 3689348814741910323)) + (us (((x - ((us x 1) &&& 6148914691236517205)) &&& 3689348814741910323) + ((us (x - ((us x 1) &&& 6148914691236517205)) 2) &&& 3689348814741910323)) 4)) &&& 1085102592571150095) + (us (((((x - ((us x 1) &&& 6148914691236517205)) &&& 3689348814741910323) + ((us (x - ((us x 1) &&& 6148914691236517205)) 2) &&& 3689348814741910323)) + (us (((x - ((us x 1) &&& 6148914691236517205)) &&& 3689348814741910323) + ((us (x - ((us x 1) &&& 6148914691236517205)) 2) &&& 3689348814741910323)) 4)) &&& 1085102592571150095) 8)) 16)))]) hx hb dJ13_bitCount_95d88_47 rfl hl (by decide) rfl (fun ls hl => ?_)
  refine lv_lload_n hx hb dJ13_bitCount_95d88_48 rfl (lv_at hl 0 rfl) ?_
  refine lv_lload_n hx hb dJ13_bitCount_95d88_49 rfl (lv_at hl 0 rfl) ?_
  refine lv_bipush (v := 32) hx hb dJ13_bitCount_95d88_50 (by decide) ?_
  refine lv_lushr (v := (us (((((((x - ((us x 1) &&& 6148914691236517205)) &&& 3689348814741910323) + ((us (x - ((us x 1) &&& 6148914691236517205)) 2) &&& 3689348814741910323)) + (us (((x - ((us x 1) &&& 6148914691236517205)) &&& 3689348814741910323) + ((us (x - ((us x 1) &&& 6148914691236517205)) 2) &&& 3689348814741910323)) 4)) &&& 1085102592571150095) + (us (((((x - ((us x 1) &&& 6148914691236517205)) &&& 3689348814741910323) + ((us (x - ((us x 1) &&& 6148914691236517205)) 2) &&& 3689348814741910323)) + (us (((x - ((us x 1) &&& 6148914691236517205)) &&& 3689348814741910323) + ((us (x - ((us x 1) &&& 6148914691236517205)) 2) &&& 3689348814741910323)) 4)) &&& 1085102592571150095) 8)) + (us ((((((x - ((us x 1) &&& 6148914691236517205)) &&& 3689348814741910323) + ((us (x - ((us x 1) &&& 6148914691236517205)) 2) &&& 3689348814741910323)) + (us (((x - ((us x 1) &&& 6148914691236517205)) &&& 3689348814741910323) + ((us (x - ((us x 1) &&& 6148914691236517205)) 2) &&& 3689348814741910323)) 4)) &&& 1085102592571150095) + (us (((((x - ((us x 1) &&& 6148914691236517205)) &&& 3689348814741910323) + ((us (x - ((us x 1) &&& 6148914691236517205)) 2) &&& 3689348814741910323)) + (us (((x - ((us x 1) &&& 6148914691236517205)) &&& 3689348814741910323) + ((us (x - ((us x 1) &&& 6148914691236517205)) 2) &&& 3689348814741910323)) 4)) &&& 1085102592571150095) 8)) 16)) 32)) hx hb dJ13_bitCount_95d88_52 rfl ?_
  refine lv_ladd hx hb dJ13_bitCount_95d88_53 ?_
  refine lv_lstore_n (lv' := [(0, .long ((((((((x - ((us x 1) &&& 6148914691236517205)) &&& 3689348814741910323) + ((us (x - ((us x 1) &&& 6148914691236517205)) 2) &&& 3689348814741910323)) + (us (((x - ((us x 1) &&& 6148914691236517205)) &&& 3689348814741910323) + ((us (x - ((us x 1) &&& 6148914691236517205)) 2) &&& 3689348814741910323)) 4)) &&& 1085102592571150095) + (us (((((x - ((us x 1) &&& 6148914691236517205)) &&& 3689348814741910323) + ((us (x - ((us x 1) &&& 6148914691236517205)) 2) &&& 3689348814741910323)) + (us (((x - ((us x 1) &&& 6148914691236517205)) &&& 3689348814741910323) + ((us (x - ((us x 1) &&& 6148914691236517205)) 2) &&& 3689348814741910323)) 4)) &&& 1085102592571150095) 8)) + (us ((((((x - ((us x 1) &&& 6148914691236517205)) &&& 3689348814741910323) + ((us (x - ((us x 1) &&& 6148914691236517205)) 2) &&& 3689348814741910323)) + (us (((x - ((us x 1) &&& 6148914691236517205)) &&& 3689348814741910323) + ((us (x - ((us x 1) &&& 6148914691236517205)) 2) &&& 3689348814741910323)) 4)) &&& 1085102592571150095) + (us (((((x - ((us x 1) &&& 6148914691236517205)) &&& 3689348814741910323) + ((us (x - ((us x 1) &&& 6148914691236517205)) 2) &&& 3689348814741910323)) + (us (((x - ((us x 1) &&& 6148914691236517205)) &&& 3689348814741910323) + ((us (x - ((us x 1) &&& 6148914691236517205)) 2) &&& 3689348814741910323)) 4)) &&& 1085102592571150095) 8)) 16)) + (us (((((((x - ((us x 1) &&& 6148914691236517205)) &&& 3689348814741910323) + ((us (x - ((us x 1) &&& 6148914691236517205)) 2) &&& 3689348814741910323)) + (us (((x - ((us x 1) &&& 6148914691236517205)) &&& 3689348814741910323) + ((us (x - ((us x 1) &&& 6148914691236517205)) 2) &&& 3689348814741910323)) 4)) &&& 1085102592571150095) + (us (((((x - ((us x 1) &&& 6148914691236517205)) &&& 3689348814741910323) + ((us (x - ((us x 1) &&& 6148914691236517205)) 2) &&& 3689348814741910323)) + (us (((x - ((us x 1) &&& 6148914691236517205)) &&& 3689348814741910323) + ((us (x - ((us x 1) &&& 6148914691236517205)) 2) &&& 3689348814741910323)) 4)) &&& 1085102592571150095) 8)) + (us ((((((x - ((us x 1) &&& 6148914691236517205)) &&& 3689348814741910323) + ((us (x - ((us x 1) &&& 6148914691236517205)) 2) &&& 3689348814741910323)) + (us (((x - ((us x 1) &&& 6148914691236517205)) &&& 3689348814741910323) + ((us (x - ((us x 1) &&& 6148914691236517205)) 2) &&& 3689348814741910323)) 4)) &&& 1085102592571150095) + (us (((((x - ((us x 1) &&& 6148914691236517205)) &&& 3689348814741910323) + ((us (x - ((us x 1) &&& 6148914691236517205)) 2) &&& 3689348814741910323)) + (us (((x - ((us x 1) &&& 6148914691236517205)) &&& 3689348814741910323) + ((us (x - ((us x 1) &&& 6148914691236517205)) 2) &&& 3689348814741910323)) 4)) &&& 1085102592571150095) 8)) 16)) 32)))]) hx hb dJ13_bitCount_95d88_54 rfl hl (by decide) rfl (fun ls hl => ?_)
  refine lv_lload_n hx hb dJ13_bitCount_95d88_55 rfl (lv_at hl 0 rfl) ?_
  refine lv_l2i hx hb dJ13_bitCount_95d88_56 rfl ?_
  refine lv_bipush (v := 127) hx hb dJ13_bitCount_95d88_57 (by decide) ?_
  refine lv_iand hx hb dJ13_bitCount_95d88_59 ?_
  exact W.iret (v := (((((((((x - ((us x 1) &&& 6148914691236517205)) &&& 3689348814741910323) + ((us (x - ((us x 1) &&& 6148914691236517205)) 2) &&& 3689348814741910323)) + (us (((x - ((us x 1) &&& 6148914691236517205)) &&& 3689348814741910323) + ((us (x - ((us x 1) &&& 6148914691236517205)) 2) &&& 3689348814741910323)) 4)) &&& 1085102592571150095) + (us (((((x - ((us x 1) &&& 6148914691236517205)) &&& 3689348814741910323) + ((us (x - ((us x 1) &&& 6148914691236517205)) 2) &&& 3689348814741910323)) + (us (((x - ((us x 1) &&& 6148914691236517205)) &&& 3689348814741910323) + ((us (x - ((us x 1) &&& 6148914691236517205)) 2) &&& 3689348814741910323)) 4)) &&& 1085102592571150095) 8)) + (us ((((((x - ((us x 1) &&& 6148914691236517205)) &&& 3689348814741910323) + ((us (x - ((us x 1) &&& 6148914691236517205)) 2) &&& 3689348814741910323)) + (us (((x - ((us x 1) &&& 6148914691236517205)) &&& 3689348814741910323) + ((us (x - ((us x 1) &&& 6148914691236517205)) 2) &&& 3689348814741910323)) 4)) &&& 1085102592571150095) + (us (((((x - ((us x 1) &&& 6148914691236517205)) &&& 3689348814741910323) + ((us (x - ((us x 1) &&& 6148914691236517205)) 2) &&& 3689348814741910323)) + (us (((x - ((us x 1) &&& 6148914691236517205)) &&& 3689348814741910323) + ((us (x - ((us x 1) &&& 6148914691236517205)) 2) &&& 3689348814741910323)) 4)) &&& 1085102592571150095) 8)) 16)) + (us (((((((x - ((us x 1) &&& 6148914691236517205)) &&& 3689348814741910323) + ((us (x - ((us x 1) &&& 6148914691236517205)) 2) &&& 3689348814741910323)) + (us (((x - ((us x 1) &&& 6148914691236517205)) &&& 3689348814741910323) + ((us (x - ((us x 1) &&& 6148914691236517205)) 2) &&& 3689348814741910323)) 4)) &&& 1085102592571150095) + (us (((((x - ((us x 1) &&& 6148914691236517205)) &&& 3689348814741910323) + ((us (x - ((us x 1) &&& 6148914691236517205)) 2) &&& 3689348814741910323)) + (us (((x - ((us x 1) &&& 6148914691236517205)) &&& 3689348814741910323) + ((us (x - ((us x 1) &&& 6148914691236517205)) 2) &&& 3689348814741910323)) 4)) &&& 1085102592571150095) 8)) + (us ((((((x - ((us x 1) &&& 6148914691236517205)) &&& 3689348814741910323) + ((us (x - ((us x 1) &&& 6148914691236517205)) 2) &&& 3689348814741910323)) + (us (((x - ((us x 1) &&& 6148914691236517205)) &&& 3689348814741910323) + ((us (x - ((us x 1) &&& 6148914691236517205)) 2) &&& 3689348814741910323)) 4)) &&& 1085102592571150095) + (us (((((x - ((us x 1) &&& 6148914691236517205)) &&& 3689348814741910323) + ((us (x - ((us x 1) &&& 6148914691236517205)) 2) &&& 3689348814741910323)) + (us (((x - ((us x 1) &&& 6148914691236517205)) &&& 3689348814741910323) + ((us (x - ((us x 1) &&& 6148914691236517205)) 2) &&& 3689348814741910323)) 4)) &&& 1085102592571150095) 8)) 16)) 32)).toInt32 &&& 127)) hx hb hr (fun t ht hW => ⟨⟨(((((((((x - ((us x 1) &&& 6148914691236517205)) &&& 3689348814741910323) + ((us (x - ((us x 1) &&& 6148914691236517205)) 2) &&& 3689348814741910323)) + (us (((x - ((us x 1) &&& 6148914691236517205)) &&& 3689348814741910323) + ((us (x - ((us x 1) &&& 6148914691236517205)) 2) &&& 3689348814741910323)) 4)) &&& 1085102592571150095) + (us (((((x - ((us x 1) &&& 6148914691236517205)) &&& 3689348814741910323) + ((us (x - ((us x 1) &&& 6148914691236517205)) 2) &&& 3689348814741910323)) + (us (((x - ((us x 1) &&& 6148914691236517205)) &&& 3689348814741910323) + ((us (x - ((us x 1) &&& 6148914691236517205)) 2) &&& 3689348814741910323)) 4)) &&& 1085102592571150095) 8)) + (us ((((((x - ((us x 1) &&& 6148914691236517205)) &&& 3689348814741910323) + ((us (x - ((us x 1) &&& 6148914691236517205)) 2) &&& 3689348814741910323)) + (us (((x - ((us x 1) &&& 6148914691236517205)) &&& 3689348814741910323) + ((us (x - ((us x 1) &&& 6148914691236517205)) 2) &&& 3689348814741910323)) 4)) &&& 1085102592571150095) + (us (((((x - ((us x 1) &&& 6148914691236517205)) &&& 3689348814741910323) + ((us (x - ((us x 1) &&& 6148914691236517205)) 2) &&& 3689348814741910323)) + (us (((x - ((us x 1) &&& 6148914691236517205)) &&& 3689348814741910323) + ((us (x - ((us x 1) &&& 6148914691236517205)) 2) &&& 3689348814741910323)) 4)) &&& 1085102592571150095) 8)) 16)) + (us (((((((x - ((us x 1) &&& 6148914691236517205)) &&& 3689348814741910323) + ((us (x - ((us x 1) &&& 6148914691236517205)) 2) &&& 3689348814741910323)) + (us (((x - ((us x 1) &&& 6148914691236517205)) &&& 3689348814741910323) + ((us (x - ((us x 1) &&& 6148914691236517205)) 2) &&& 3689348814741910323)) 4)) &&& 1085102592571150095) + (us (((((x - ((us x 1) &&& 6148914691236517205)) &&& 3689348814741910323) + ((us (x - ((us x 1) &&& 6148914691236517205)) 2) &&& 3689348814741910323)) + (us (((x - ((us x 1) &&& 6148914691236517205)) &&& 3689348814741910323) + ((us (x - ((us x 1) &&& 6148914691236517205)) 2) &&& 3689348814741910323)) 4)) &&& 1085102592571150095) 8)) + (us ((((((x - ((us x 1) &&& 6148914691236517205)) &&& 3689348814741910323) + ((us (x - ((us x 1) &&& 6148914691236517205)) 2) &&& 3689348814741910323)) + (us (((x - ((us x 1) &&& 6148914691236517205)) &&& 3689348814741910323) + ((us (x - ((us x 1) &&& 6148914691236517205)) 2) &&& 3689348814741910323)) 4)) &&& 1085102592571150095) + (us (((((x - ((us x 1) &&& 6148914691236517205)) &&& 3689348814741910323) + ((us (x - ((us x 1) &&& 6148914691236517205)) 2) &&& 3689348814741910323)) + (us (((x - ((us x 1) &&& 6148914691236517205)) &&& 3689348814741910323) + ((us (x - ((us x 1) &&& 6148914691236517205)) 2) &&& 3689348814741910323)) 4)) &&& 1085102592571150095) 8)) 16)) 32)).toInt32 &&& 127), w, rfl, ⟨(show (((((((((x - ((us x 1) &&& 6148914691236517205)) &&& 3689348814741910323) + ((us (x - ((us x 1) &&& 6148914691236517205)) 2) &&& 3689348814741910323)) + (us (((x - ((us x 1) &&& 6148914691236517205)) &&& 3689348814741910323) + ((us (x - ((us x 1) &&& 6148914691236517205)) 2) &&& 3689348814741910323)) 4)) &&& 1085102592571150095) + (us (((((x - ((us x 1) &&& 6148914691236517205)) &&& 3689348814741910323) + ((us (x - ((us x 1) &&& 6148914691236517205)) 2) &&& 3689348814741910323)) + (us (((x - ((us x 1) &&& 6148914691236517205)) &&& 3689348814741910323) + ((us (x - ((us x 1) &&& 6148914691236517205)) 2) &&& 3689348814741910323)) 4)) &&& 1085102592571150095) 8)) + (us ((((((x - ((us x 1) &&& 6148914691236517205)) &&& 3689348814741910323) + ((us (x - ((us x 1) &&& 6148914691236517205)) 2) &&& 3689348814741910323)) + (us (((x - ((us x 1) &&& 6148914691236517205)) &&& 3689348814741910323) + ((us (x - ((us x 1) &&& 6148914691236517205)) 2) &&& 3689348814741910323)) 4)) &&& 1085102592571150095) + (us (((((x - ((us x 1) &&& 6148914691236517205)) &&& 3689348814741910323) + ((us (x - ((us x 1) &&& 6148914691236517205)) 2) &&& 3689348814741910323)) + (us (((x - ((us x 1) &&& 6148914691236517205)) &&& 3689348814741910323) + ((us (x - ((us x 1) &&& 6148914691236517205)) 2) &&& 3689348814741910323)) 4)) &&& 1085102592571150095) 8)) 16)) + (us (((((((x - ((us x 1) &&& 6148914691236517205)) &&& 3689348814741910323) + ((us (x - ((us x 1) &&& 6148914691236517205)) 2) &&& 3689348814741910323)) + (us (((x - ((us x 1) &&& 6148914691236517205)) &&& 3689348814741910323) + ((us (x - ((us x 1) &&& 6148914691236517205)) 2) &&& 3689348814741910323)) 4)) &&& 1085102592571150095) + (us (((((x - ((us x 1) &&& 6148914691236517205)) &&& 3689348814741910323) + ((us (x - ((us x 1) &&& 6148914691236517205)) 2) &&& 3689348814741910323)) + (us (((x - ((us x 1) &&& 6148914691236517205)) &&& 3689348814741910323) + ((us (x - ((us x 1) &&& 6148914691236517205)) 2) &&& 3689348814741910323)) 4)) &&& 1085102592571150095) 8)) + (us ((((((x - ((us x 1) &&& 6148914691236517205)) &&& 3689348814741910323) + ((us (x - ((us x 1) &&& 6148914691236517205)) 2) &&& 3689348814741910323)) + (us (((x - ((us x 1) &&& 6148914691236517205)) &&& 3689348814741910323) + ((us (x - ((us x 1) &&& 6148914691236517205)) 2) &&& 3689348814741910323)) 4)) &&& 1085102592571150095) + (us (((((x - ((us x 1) &&& 6148914691236517205)) &&& 3689348814741910323) + ((us (x - ((us x 1) &&& 6148914691236517205)) 2) &&& 3689348814741910323)) + (us (((x - ((us x 1) &&& 6148914691236517205)) &&& 3689348814741910323) + ((us (x - ((us x 1) &&& 6148914691236517205)) 2) &&& 3689348814741910323)) 4)) &&& 1085102592571150095) 8)) 16)) 32)).toInt32 &&& 127) = (bc x) from (by first | with_reducible rfl | (simp only [bc, bc1, bc2, bc3, bc4, bc5, bc6, gi_sl, gi_sA, gi_sB, gi_si_s, gi_si_n, gl_si, gl_sA, gl_sB, gl_sl_s, gl_sl_n, gA_si, gA_sl, gA_sB, gA_sA_s, gA_sA_n, gB_si, gB_sl, gB_sA, gB_sB_s, gB_sB_n, Nat.reduceBEq, if_true, if_false, eq_self, Bool.false_eq_true, reduceCtorEq, not_true_eq_false, not_false_eq_true, decide_true, decide_false, cond_true, cond_false, Bool.true_and, Bool.false_and, Bool.and_true, Bool.and_false, Bool.true_or, Bool.false_or, Bool.or_true, Bool.or_false, b2i_tt, b2i_ff]; done) | rfl)), rfl⟩, ⟨by rw [ht]; exact hP, va_K.moved hW.alike hK, hD⟩⟩, hS.F ht⟩) hS.2.2 dJ13_bitCount_95d88_60
set_option maxHeartbeats 4000000 in
set_option maxRecDepth 100000 in
theorem c_lowest (l : Launch) (D : va_G) (cI cJ : ClassId) (w : va_W) (x : Int64) : CT l D (TY cI cJ) yX7_lowest (.code yX7_lowest cX7_lowest 2 (some Jvm.ClassFile.FieldType.int)) 1 0 0 w [.long x] (QI D (TY cI cJ) (fun r u => r = (lowest x) ∧ u = w)) := by
  refine ent (by decide) (Nat.le_of_ble_eq_true rfl) ?_
  intro p e s m below meth c ls A hx hb hr hg hown hml hlocks hnm hP hK hD hS hA hN hl
  have hl : lv_has ls 2 [(0, .long x)] := hl
  refine lv_lload_n hx hb dX7_lowest_0 rfl (lv_at hl 0 rfl) ?_
  refine lv_lload_n hx hb dX7_lowest_1 rfl (lv_at hl 0 rfl) ?_
  refine lv_lneg hx hb dX7_lowest_2 ?_
  refine lv_land hx hb dX7_lowest_3 ?_
  refine lv_lconst (v := 1) hx hb dX7_lowest_4 (by decide) ?_
  refine lv_lsub hx hb dX7_lowest_5 ?_
  refine kI (rS hx hb hml hown hg hN hK hP hD (c_bitCount l D cI cJ w ((x &&& (-x)) - 1)) mw_68 mw_69 mw_70 mw_71 pd_J13_bitCount_95d88 ⟨Nat.le_of_ble_eq_true rfl, Nat.le_of_ble_eq_true rfl⟩ rfl hl.1 rfl (Nat.le_of_ble_eq_true rfl) dX7_lowest_6 ⟨Nat.le_of_ble_eq_true rfl, Nat.le_of_ble_eq_true rfl⟩) hD hS hA (fun r_1 u_1 H locs hp hP hD hS => ?_)
  obtain ⟨er, eu⟩ := hp
  obtain rfl := er.symm
  obtain rfl := eu.symm
  exact W.iret (v := (bc ((x &&& (-x)) - 1))) hx hb hr (fun t ht hW => ⟨⟨(bc ((x &&& (-x)) - 1)), w, rfl, ⟨(show (bc ((x &&& (-x)) - 1)) = (lowest x) from (by first | with_reducible rfl | (simp only [lowest, gi_sl, gi_sA, gi_sB, gi_si_s, gi_si_n, gl_si, gl_sA, gl_sB, gl_sl_s, gl_sl_n, gA_si, gA_sl, gA_sB, gA_sA_s, gA_sA_n, gB_si, gB_sl, gB_sA, gB_sB_s, gB_sB_n, Nat.reduceBEq, if_true, if_false, eq_self, Bool.false_eq_true, reduceCtorEq, not_true_eq_false, not_false_eq_true, decide_true, decide_false, cond_true, cond_false, Bool.true_and, Bool.false_and, Bool.and_true, Bool.and_false, Bool.true_or, Bool.false_or, Bool.or_true, Bool.or_false, b2i_tt, b2i_ff]; done) | rfl)), rfl⟩, ⟨by rw [ht]; exact hP, va_K.moved hW.alike hK, hD⟩⟩, hS.F ht⟩) hS.2.2 dX7_lowest_9
set_option maxHeartbeats 4000000 in
set_option maxRecDepth 100000 in
theorem c_jumps (l : Launch) (D : va_G) (cI cJ : ClassId) (w : va_W) (k : Int32) : CT l D (TY cI cJ) yX7_jumps (.code yX7_jumps cX7_jumps 1 (some Jvm.ClassFile.FieldType.boolean)) 0 0 0 w [.int k] (QI D (TY cI cJ) (fun r u => r = (b2i (jmp k)) ∧ u = w)) := by
  refine ent (by decide) (Nat.le_of_ble_eq_true rfl) ?_
  intro p e s m below meth c ls A hx hb hr hg hown hml hlocks hnm hP hK hD hS hA hN hl
  have hl : lv_has ls 1 [(0, .int k)] := hl
  refine lv_iload_n hx hb dX7_jumps_0 rfl (lv_at hl 0 rfl) ?_
  refine lv_iconst (v := 1) hx hb dX7_jumps_1 (by decide) ?_
  refine lv_icmp_eq (tgt := 10) hx hb dX7_jumps_2 (by decide) (fun c_2 => ?_) (fun c_2 => ?_)
  · refine lv_iconst (v := 1) hx hb dX7_jumps_10 (by decide) ?_
    refine lv_goto (tgt := 15) hx hb dX7_jumps_11 (by decide) ?_
    exact W.zret (v := 1) hx hb hr rfl (fun t ht hW => ⟨⟨1, w, rfl, ⟨(show (1 : Int32) = (b2i (jmp k)) from (by first | (simp only [jmp, if_pos c_2, decide_eq_true c_2, decide_eq_false (not_not_intro c_2), gi_sl, gi_sA, gi_sB, gi_si_s, gi_si_n, gl_si, gl_sA, gl_sB, gl_sl_s, gl_sl_n, gA_si, gA_sl, gA_sB, gA_sA_s, gA_sA_n, gB_si, gB_sl, gB_sA, gB_sB_s, gB_sB_n, Nat.reduceBEq, if_true, if_false, eq_self, Bool.false_eq_true, reduceCtorEq, not_true_eq_false, not_false_eq_true, decide_true, decide_false, cond_true, cond_false, Bool.true_and, Bool.false_and, Bool.and_true, Bool.and_false, Bool.true_or, Bool.false_or, Bool.or_true, Bool.or_false, b2i_tt, b2i_ff]; done) | (simp only [jmp, if_pos c_2, decide_eq_true c_2, decide_eq_false (not_not_intro c_2), gi_sl, gi_sA, gi_sB, gi_si_s, gi_si_n, gl_si, gl_sA, gl_sB, gl_sl_s, gl_sl_n, gA_si, gA_sl, gA_sB, gA_sA_s, gA_sA_n, gB_si, gB_sl, gB_sA, gB_sB_s, gB_sB_n, Nat.reduceBEq, if_true, if_false, eq_self, Bool.false_eq_true, reduceCtorEq, not_true_eq_false, not_false_eq_true, decide_true, decide_false, cond_true, cond_false, Bool.true_and, Bool.false_and, Bool.and_true, Bool.and_false, Bool.true_or, Bool.false_or, Bool.or_true, Bool.or_false, b2i_tt, b2i_ff]; rfl) | (simp [jmp, c_2, gi_sl, gi_sA, gi_sB, gi_si_s, gi_si_n, gl_si, gl_sA, gl_sB, gl_sl_s, gl_sl_n, gA_si, gA_sl, gA_sB, gA_sA_s, gA_sA_n, gB_si, gB_sl, gB_sA, gB_sB_s, gB_sB_n, Nat.reduceBEq]; done))), rfl⟩, ⟨by rw [ht]; exact hP, va_K.moved hW.alike hK, hD⟩⟩, hS.F ht⟩) hS.2.2 dX7_jumps_15
  · refine lv_iload_n hx hb dX7_jumps_5 rfl (lv_at hl 0 rfl) ?_
    refine lv_iconst (v := 2) hx hb dX7_jumps_6 (by decide) ?_
    refine lv_icmp_ne (tgt := 14) hx hb dX7_jumps_7 (by decide) (fun c_7 => ?_) (fun c_7 => ?_)
    · refine lv_iconst (v := 0) hx hb dX7_jumps_14 (by decide) ?_
      exact W.zret (v := 0) hx hb hr rfl (fun t ht hW => ⟨⟨0, w, rfl, ⟨(show (0 : Int32) = (b2i (jmp k)) from (by first | (simp only [jmp, if_neg c_2, decide_eq_false c_2, decide_eq_true c_2, if_pos c_2, if_neg c_7, decide_eq_false c_7, decide_eq_true c_7, if_pos c_7, gi_sl, gi_sA, gi_sB, gi_si_s, gi_si_n, gl_si, gl_sA, gl_sB, gl_sl_s, gl_sl_n, gA_si, gA_sl, gA_sB, gA_sA_s, gA_sA_n, gB_si, gB_sl, gB_sA, gB_sB_s, gB_sB_n, Nat.reduceBEq, if_true, if_false, eq_self, Bool.false_eq_true, reduceCtorEq, not_true_eq_false, not_false_eq_true, decide_true, decide_false, cond_true, cond_false, Bool.true_and, Bool.false_and, Bool.and_true, Bool.and_false, Bool.true_or, Bool.false_or, Bool.or_true, Bool.or_false, b2i_tt, b2i_ff]; done) | (simp only [jmp, if_neg c_2, decide_eq_false c_2, decide_eq_true c_2, if_pos c_2, if_neg c_7, decide_eq_false c_7, decide_eq_true c_7, if_pos c_7, gi_sl, gi_sA, gi_sB, gi_si_s, gi_si_n, gl_si, gl_sA, gl_sB, gl_sl_s, gl_sl_n, gA_si, gA_sl, gA_sB, gA_sA_s, gA_sA_n, gB_si, gB_sl, gB_sA, gB_sB_s, gB_sB_n, Nat.reduceBEq, if_true, if_false, eq_self, Bool.false_eq_true, reduceCtorEq, not_true_eq_false, not_false_eq_true, decide_true, decide_false, cond_true, cond_false, Bool.true_and, Bool.false_and, Bool.and_true, Bool.and_false, Bool.true_or, Bool.false_or, Bool.or_true, Bool.or_false, b2i_tt, b2i_ff]; rfl) | (simp [jmp, c_2, c_7, gi_sl, gi_sA, gi_sB, gi_si_s, gi_si_n, gl_si, gl_sA, gl_sB, gl_sl_s, gl_sl_n, gA_si, gA_sl, gA_sB, gA_sA_s, gA_sA_n, gB_si, gB_sl, gB_sA, gB_sB_s, gB_sB_n, Nat.reduceBEq]; done))), rfl⟩, ⟨by rw [ht]; exact hP, va_K.moved hW.alike hK, hD⟩⟩, hS.F ht⟩) hS.2.2 dX7_jumps_15
    · refine lv_iconst (v := 1) hx hb dX7_jumps_10 (by decide) ?_
      refine lv_goto (tgt := 15) hx hb dX7_jumps_11 (by decide) ?_
      exact W.zret (v := 1) hx hb hr rfl (fun t ht hW => ⟨⟨1, w, rfl, ⟨(show (1 : Int32) = (b2i (jmp k)) from (by first | (simp only [jmp, if_neg c_2, decide_eq_false c_2, decide_eq_true c_2, if_pos c_2, if_pos c_7, decide_eq_true c_7, decide_eq_false (not_not_intro c_7), gi_sl, gi_sA, gi_sB, gi_si_s, gi_si_n, gl_si, gl_sA, gl_sB, gl_sl_s, gl_sl_n, gA_si, gA_sl, gA_sB, gA_sA_s, gA_sA_n, gB_si, gB_sl, gB_sA, gB_sB_s, gB_sB_n, Nat.reduceBEq, if_true, if_false, eq_self, Bool.false_eq_true, reduceCtorEq, not_true_eq_false, not_false_eq_true, decide_true, decide_false, cond_true, cond_false, Bool.true_and, Bool.false_and, Bool.and_true, Bool.and_false, Bool.true_or, Bool.false_or, Bool.or_true, Bool.or_false, b2i_tt, b2i_ff]; done) | (simp only [jmp, if_neg c_2, decide_eq_false c_2, decide_eq_true c_2, if_pos c_2, if_pos c_7, decide_eq_true c_7, decide_eq_false (not_not_intro c_7), gi_sl, gi_sA, gi_sB, gi_si_s, gi_si_n, gl_si, gl_sA, gl_sB, gl_sl_s, gl_sl_n, gA_si, gA_sl, gA_sB, gA_sA_s, gA_sA_n, gB_si, gB_sl, gB_sA, gB_sB_s, gB_sB_n, Nat.reduceBEq, if_true, if_false, eq_self, Bool.false_eq_true, reduceCtorEq, not_true_eq_false, not_false_eq_true, decide_true, decide_false, cond_true, cond_false, Bool.true_and, Bool.false_and, Bool.and_true, Bool.and_false, Bool.true_or, Bool.false_or, Bool.or_true, Bool.or_false, b2i_tt, b2i_ff]; rfl) | (simp [jmp, c_2, c_7, gi_sl, gi_sA, gi_sB, gi_si_s, gi_si_n, gl_si, gl_sA, gl_sB, gl_sl_s, gl_sl_n, gA_si, gA_sl, gA_sB, gA_sA_s, gA_sA_n, gB_si, gB_sl, gB_sA, gB_sB_s, gB_sB_n, Nat.reduceBEq]; done))), rfl⟩, ⟨by rw [ht]; exact hP, va_K.moved hW.alike hK, hD⟩⟩, hS.F ht⟩) hS.2.2 dX7_jumps_15
set_option maxHeartbeats 4000000 in
set_option maxRecDepth 100000 in
theorem c_isTarget (l : Launch) (D : va_G) (cI cJ : ClassId) (w : va_W) (k : Int32) : CT l D (TY cI cJ) yX7_isTarget (.code yX7_isTarget cX7_isTarget 1 (some Jvm.ClassFile.FieldType.boolean)) 0 0 0 w [.int k] (QI D (TY cI cJ) (fun r u => r = (b2i (isT k)) ∧ u = w)) := by
  refine ent (by decide) (Nat.le_of_ble_eq_true rfl) ?_
  intro p e s m below meth c ls A hx hb hr hg hown hml hlocks hnm hP hK hD hS hA hN hl
  have hl : lv_has ls 1 [(0, .int k)] := hl
  refine lv_iload_n hx hb dX7_isTarget_0 rfl (lv_at hl 0 rfl) ?_
  refine lv_if_lt (tgt := 14) hx hb dX7_isTarget_1 (by decide) (fun c_1 => ?_) (fun c_1 => ?_)
  · refine lv_iconst (v := 0) hx hb dX7_isTarget_14 (by decide) ?_
    exact W.zret (v := 0) hx hb hr rfl (fun t ht hW => ⟨⟨0, w, rfl, ⟨(show (0 : Int32) = (b2i (isT k)) from (by first | (simp only [isT, if_pos c_1, decide_eq_true c_1, decide_eq_false (not_not_intro c_1), gi_sl, gi_sA, gi_sB, gi_si_s, gi_si_n, gl_si, gl_sA, gl_sB, gl_sl_s, gl_sl_n, gA_si, gA_sl, gA_sB, gA_sA_s, gA_sA_n, gB_si, gB_sl, gB_sA, gB_sB_s, gB_sB_n, Nat.reduceBEq, if_true, if_false, eq_self, Bool.false_eq_true, reduceCtorEq, not_true_eq_false, not_false_eq_true, decide_true, decide_false, cond_true, cond_false, Bool.true_and, Bool.false_and, Bool.and_true, Bool.and_false, Bool.true_or, Bool.false_or, Bool.or_true, Bool.or_false, b2i_tt, b2i_ff]; done) | (simp only [isT, if_pos c_1, decide_eq_true c_1, decide_eq_false (not_not_intro c_1), gi_sl, gi_sA, gi_sB, gi_si_s, gi_si_n, gl_si, gl_sA, gl_sB, gl_sl_s, gl_sl_n, gA_si, gA_sl, gA_sB, gA_sA_s, gA_sA_n, gB_si, gB_sl, gB_sA, gB_sB_s, gB_sB_n, Nat.reduceBEq, if_true, if_false, eq_self, Bool.false_eq_true, reduceCtorEq, not_true_eq_false, not_false_eq_true, decide_true, decide_false, cond_true, cond_false, Bool.true_and, Bool.false_and, Bool.and_true, Bool.and_false, Bool.true_or, Bool.false_or, Bool.or_true, Bool.or_false, b2i_tt, b2i_ff]; rfl) | (simp [isT, c_1, gi_sl, gi_sA, gi_sB, gi_si_s, gi_si_n, gl_si, gl_sA, gl_sB, gl_sl_s, gl_sl_n, gA_si, gA_sl, gA_sB, gA_sA_s, gA_sA_n, gB_si, gB_sl, gB_sA, gB_sB_s, gB_sB_n, Nat.reduceBEq]; done))), rfl⟩, ⟨by rw [ht]; exact hP, va_K.moved hW.alike hK, hD⟩⟩, hS.F ht⟩) hS.2.2 dX7_isTarget_15
  · refine lv_iload_n hx hb dX7_isTarget_4 rfl (lv_at hl 0 rfl) ?_
    refine lv_bipush (v := 40) hx hb dX7_isTarget_5 (by decide) ?_
    refine lv_icmp_gt (tgt := 14) hx hb dX7_isTarget_7 (by decide) (fun c_7 => ?_) (fun c_7 => ?_)
    · refine lv_iconst (v := 0) hx hb dX7_isTarget_14 (by decide) ?_
      exact W.zret (v := 0) hx hb hr rfl (fun t ht hW => ⟨⟨0, w, rfl, ⟨(show (0 : Int32) = (b2i (isT k)) from (by first | (simp only [isT, if_neg c_1, decide_eq_false c_1, decide_eq_true c_1, if_pos c_1, if_pos c_7, decide_eq_true c_7, decide_eq_false (not_not_intro c_7), gi_sl, gi_sA, gi_sB, gi_si_s, gi_si_n, gl_si, gl_sA, gl_sB, gl_sl_s, gl_sl_n, gA_si, gA_sl, gA_sB, gA_sA_s, gA_sA_n, gB_si, gB_sl, gB_sA, gB_sB_s, gB_sB_n, Nat.reduceBEq, if_true, if_false, eq_self, Bool.false_eq_true, reduceCtorEq, not_true_eq_false, not_false_eq_true, decide_true, decide_false, cond_true, cond_false, Bool.true_and, Bool.false_and, Bool.and_true, Bool.and_false, Bool.true_or, Bool.false_or, Bool.or_true, Bool.or_false, b2i_tt, b2i_ff]; done) | (simp only [isT, if_neg c_1, decide_eq_false c_1, decide_eq_true c_1, if_pos c_1, if_pos c_7, decide_eq_true c_7, decide_eq_false (not_not_intro c_7), gi_sl, gi_sA, gi_sB, gi_si_s, gi_si_n, gl_si, gl_sA, gl_sB, gl_sl_s, gl_sl_n, gA_si, gA_sl, gA_sB, gA_sA_s, gA_sA_n, gB_si, gB_sl, gB_sA, gB_sB_s, gB_sB_n, Nat.reduceBEq, if_true, if_false, eq_self, Bool.false_eq_true, reduceCtorEq, not_true_eq_false, not_false_eq_true, decide_true, decide_false, cond_true, cond_false, Bool.true_and, Bool.false_and, Bool.and_true, Bool.and_false, Bool.true_or, Bool.false_or, Bool.or_true, Bool.or_false, b2i_tt, b2i_ff]; rfl) | (simp [isT, c_1, c_7, gi_sl, gi_sA, gi_sB, gi_si_s, gi_si_n, gl_si, gl_sA, gl_sB, gl_sl_s, gl_sl_n, gA_si, gA_sl, gA_sB, gA_sA_s, gA_sA_n, gB_si, gB_sl, gB_sA, gB_sB_s, gB_sB_n, Nat.reduceBEq]; done))), rfl⟩, ⟨by rw [ht]; exact hP, va_K.moved hW.alike hK, hD⟩⟩, hS.F ht⟩) hS.2.2 dX7_isTarget_15
    · refine lv_iconst (v := 1) hx hb dX7_isTarget_10 (by decide) ?_
      refine lv_goto (tgt := 15) hx hb dX7_isTarget_11 (by decide) ?_
      exact W.zret (v := 1) hx hb hr rfl (fun t ht hW => ⟨⟨1, w, rfl, ⟨(show (1 : Int32) = (b2i (isT k)) from (by first | (simp only [isT, if_neg c_1, decide_eq_false c_1, decide_eq_true c_1, if_pos c_1, if_neg c_7, decide_eq_false c_7, decide_eq_true c_7, if_pos c_7, gi_sl, gi_sA, gi_sB, gi_si_s, gi_si_n, gl_si, gl_sA, gl_sB, gl_sl_s, gl_sl_n, gA_si, gA_sl, gA_sB, gA_sA_s, gA_sA_n, gB_si, gB_sl, gB_sA, gB_sB_s, gB_sB_n, Nat.reduceBEq, if_true, if_false, eq_self, Bool.false_eq_true, reduceCtorEq, not_true_eq_false, not_false_eq_true, decide_true, decide_false, cond_true, cond_false, Bool.true_and, Bool.false_and, Bool.and_true, Bool.and_false, Bool.true_or, Bool.false_or, Bool.or_true, Bool.or_false, b2i_tt, b2i_ff]; done) | (simp only [isT, if_neg c_1, decide_eq_false c_1, decide_eq_true c_1, if_pos c_1, if_neg c_7, decide_eq_false c_7, decide_eq_true c_7, if_pos c_7, gi_sl, gi_sA, gi_sB, gi_si_s, gi_si_n, gl_si, gl_sA, gl_sB, gl_sl_s, gl_sl_n, gA_si, gA_sl, gA_sB, gA_sA_s, gA_sA_n, gB_si, gB_sl, gB_sA, gB_sB_s, gB_sB_n, Nat.reduceBEq, if_true, if_false, eq_self, Bool.false_eq_true, reduceCtorEq, not_true_eq_false, not_false_eq_true, decide_true, decide_false, cond_true, cond_false, Bool.true_and, Bool.false_and, Bool.and_true, Bool.and_false, Bool.true_or, Bool.false_or, Bool.or_true, Bool.or_false, b2i_tt, b2i_ff]; rfl) | (simp [isT, c_1, c_7, gi_sl, gi_sA, gi_sB, gi_si_s, gi_si_n, gl_si, gl_sA, gl_sB, gl_sl_s, gl_sl_n, gA_si, gA_sl, gA_sB, gA_sA_s, gA_sA_n, gB_si, gB_sl, gB_sA, gB_sB_s, gB_sB_n, Nat.reduceBEq]; done))), rfl⟩, ⟨by rw [ht]; exact hP, va_K.moved hW.alike hK, hD⟩⟩, hS.F ht⟩) hS.2.2 dX7_isTarget_15
set_option maxHeartbeats 4000000 in
set_option maxRecDepth 100000 in
theorem c_mix (l : Launch) (D : va_G) (cI cJ : ClassId) (w : va_W) (x : Int64) (v : Int32) : CT l D (TY cI cJ) yX7_mix (.code yX7_mix cX7_mix 3 (some Jvm.ClassFile.FieldType.long)) 0 0 0 w [.long x, .int v] (QL D (TY cI cJ) (fun r u => r = (mixI x v) ∧ u = w)) := by
  refine ent (by decide) (Nat.le_of_ble_eq_true rfl) ?_
  intro p e s m below meth c ls A hx hb hr hg hown hml hlocks hnm hP hK hD hS hA hN hl
  have hl : lv_has ls 3 [(0, .long x), (2, .int v)] := hl
  refine lv_lload_n hx hb dX7_mix_0 rfl (lv_at hl 0 rfl) ?_
  refine lv_ldc2 (v := 31) hx hb hown (hg _ mw_72) dX7_mix_1 ?_
  refine lv_lmul hx hb dX7_mix_4 ?_
  refine lv_iload_n hx hb dX7_mix_5 rfl (lv_at hl 1 rfl) ?_
  refine lv_i2l hx hb dX7_mix_6 rfl ?_
  refine lv_ladd hx hb dX7_mix_7 ?_
  exact W.lret (v := ((x * 31) + v.toInt64)) hx hb hr (fun t ht hW => ⟨⟨((x * 31) + v.toInt64), w, rfl, ⟨(show ((x * 31) + v.toInt64) = (mixI x v) from (by first | with_reducible rfl | (simp only [mixI, gi_sl, gi_sA, gi_sB, gi_si_s, gi_si_n, gl_si, gl_sA, gl_sB, gl_sl_s, gl_sl_n, gA_si, gA_sl, gA_sB, gA_sA_s, gA_sA_n, gB_si, gB_sl, gB_sA, gB_sB_s, gB_sB_n, Nat.reduceBEq, if_true, if_false, eq_self, Bool.false_eq_true, reduceCtorEq, not_true_eq_false, not_false_eq_true, decide_true, decide_false, cond_true, cond_false, Bool.true_and, Bool.false_and, Bool.and_true, Bool.and_false, Bool.true_or, Bool.false_or, Bool.or_true, Bool.or_false, b2i_tt, b2i_ff]; done) | rfl)), rfl⟩, ⟨by rw [ht]; exact hP, va_K.moved hW.alike hK, hD⟩⟩, hS.F ht⟩) hS.2.2 dX7_mix_8
set_option maxHeartbeats 4000000 in
set_option maxRecDepth 100000 in
theorem c_mixZ (l : Launch) (D : va_G) (cI cJ : ClassId) (w : va_W) (x : Int64) (b : Bool) : CT l D (TY cI cJ) yX7_mix_ (.code yX7_mix_ cX7_mix_ 3 (some Jvm.ClassFile.FieldType.long)) 0 0 0 w [.long x, .int (b2i b)] (QL D (TY cI cJ) (fun r u => r = (mixZ x b) ∧ u = w)) := by
  refine ent (by decide) (Nat.le_of_ble_eq_true rfl) ?_
  intro p e s m below meth c ls A hx hb hr hg hown hml hlocks hnm hP hK hD hS hA hN hl
  have hl : lv_has ls 3 [(0, .long x), (2, .int (b2i b))] := hl
  refine lv_lload_n hx hb dX7_mix__0 rfl (lv_at hl 0 rfl) ?_
  refine lv_ldc2 (v := 31) hx hb hown (hg _ mw_72) dX7_mix__1 ?_
  refine lv_lmul hx hb dX7_mix__4 ?_
  refine lv_iload_n hx hb dX7_mix__5 rfl (lv_at hl 1 rfl) ?_
  refine lv_if_eq (tgt := 13) hx hb dX7_mix__6 (by decide) (fun c_6 => ?_) (fun c_6 => ?_)
  · have c_6 : ¬ b = true := b2i_0 c_6
    refine lv_lconst (v := 0) hx hb dX7_mix__13 (by decide) ?_
    refine lv_ladd hx hb dX7_mix__14 ?_
    exact W.lret (v := ((x * 31) + 0)) hx hb hr (fun t ht hW => ⟨⟨((x * 31) + 0), w, rfl, ⟨(show ((x * 31) + 0) = (mixZ x b) from (by first | (simp only [mixZ, if_neg c_6, bf_of c_6, gi_sl, gi_sA, gi_sB, gi_si_s, gi_si_n, gl_si, gl_sA, gl_sB, gl_sl_s, gl_sl_n, gA_si, gA_sl, gA_sB, gA_sA_s, gA_sA_n, gB_si, gB_sl, gB_sA, gB_sB_s, gB_sB_n, Nat.reduceBEq, if_true, if_false, eq_self, Bool.false_eq_true, reduceCtorEq, not_true_eq_false, not_false_eq_true, decide_true, decide_false, cond_true, cond_false, Bool.true_and, Bool.false_and, Bool.and_true, Bool.and_false, Bool.true_or, Bool.false_or, Bool.or_true, Bool.or_false, b2i_tt, b2i_ff]; done) | (simp only [mixZ, if_neg c_6, bf_of c_6, gi_sl, gi_sA, gi_sB, gi_si_s, gi_si_n, gl_si, gl_sA, gl_sB, gl_sl_s, gl_sl_n, gA_si, gA_sl, gA_sB, gA_sA_s, gA_sA_n, gB_si, gB_sl, gB_sA, gB_sB_s, gB_sB_n, Nat.reduceBEq, if_true, if_false, eq_self, Bool.false_eq_true, reduceCtorEq, not_true_eq_false, not_false_eq_true, decide_true, decide_false, cond_true, cond_false, Bool.true_and, Bool.false_and, Bool.and_true, Bool.and_false, Bool.true_or, Bool.false_or, Bool.or_true, Bool.or_false, b2i_tt, b2i_ff]; rfl) | (simp [mixZ, c_6, gi_sl, gi_sA, gi_sB, gi_si_s, gi_si_n, gl_si, gl_sA, gl_sB, gl_sl_s, gl_sl_n, gA_si, gA_sl, gA_sB, gA_sA_s, gA_sA_n, gB_si, gB_sl, gB_sA, gB_sB_s, gB_sB_n, Nat.reduceBEq]; done))), rfl⟩, ⟨by rw [ht]; exact hP, va_K.moved hW.alike hK, hD⟩⟩, hS.F ht⟩) hS.2.2 dX7_mix__15
  · have c_6 : b = true := b2i_1 c_6
    refine lv_lconst (v := 1) hx hb dX7_mix__9 (by decide) ?_
    refine lv_goto (tgt := 14) hx hb dX7_mix__10 (by decide) ?_
    refine lv_ladd hx hb dX7_mix__14 ?_
    exact W.lret (v := ((x * 31) + 1)) hx hb hr (fun t ht hW => ⟨⟨((x * 31) + 1), w, rfl, ⟨(show ((x * 31) + 1) = (mixZ x b) from (by first | (simp only [mixZ, if_pos c_6, c_6, gi_sl, gi_sA, gi_sB, gi_si_s, gi_si_n, gl_si, gl_sA, gl_sB, gl_sl_s, gl_sl_n, gA_si, gA_sl, gA_sB, gA_sA_s, gA_sA_n, gB_si, gB_sl, gB_sA, gB_sB_s, gB_sB_n, Nat.reduceBEq, if_true, if_false, eq_self, Bool.false_eq_true, reduceCtorEq, not_true_eq_false, not_false_eq_true, decide_true, decide_false, cond_true, cond_false, Bool.true_and, Bool.false_and, Bool.and_true, Bool.and_false, Bool.true_or, Bool.false_or, Bool.or_true, Bool.or_false, b2i_tt, b2i_ff]; done) | (simp only [mixZ, if_pos c_6, c_6, gi_sl, gi_sA, gi_sB, gi_si_s, gi_si_n, gl_si, gl_sA, gl_sB, gl_sl_s, gl_sl_n, gA_si, gA_sl, gA_sB, gA_sA_s, gA_sA_n, gB_si, gB_sl, gB_sA, gB_sB_s, gB_sB_n, Nat.reduceBEq, if_true, if_false, eq_self, Bool.false_eq_true, reduceCtorEq, not_true_eq_false, not_false_eq_true, decide_true, decide_false, cond_true, cond_false, Bool.true_and, Bool.false_and, Bool.and_true, Bool.and_false, Bool.true_or, Bool.false_or, Bool.or_true, Bool.or_false, b2i_tt, b2i_ff]; rfl) | (simp [mixZ, c_6, gi_sl, gi_sA, gi_sB, gi_si_s, gi_si_n, gl_si, gl_sA, gl_sB, gl_sl_s, gl_sl_n, gA_si, gA_sl, gA_sB, gA_sA_s, gA_sA_n, gB_si, gB_sl, gB_sA, gB_sB_s, gB_sB_n, Nat.reduceBEq]; done))), rfl⟩, ⟨by rw [ht]; exact hP, va_K.moved hW.alike hK, hD⟩⟩, hS.F ht⟩) hS.2.2 dX7_mix__15
end
section
theorem dX7_spread_0 : decode cX7_spread 0 = .ok (.lload_n 1, 1) := by decide +kernel
theorem dX7_spread_1 : decode cX7_spread 1 = .ok (.lload_n 3, 1) := by decide +kernel
theorem dX7_spread_2 : decode cX7_spread 2 = .ok (.ldc2_w 355, 3) := by decide +kernel
theorem dX7_spread_5 : decode cX7_spread 5 = .ok (.lxor, 1) := by decide +kernel
theorem dX7_spread_6 : decode cX7_spread 6 = .ok (.land, 1) := by decide +kernel
theorem dX7_spread_7 : decode cX7_spread 7 = .ok (.lstore 5, 2) := by decide +kernel
theorem dX7_spread_9 : decode cX7_spread 9 = .ok (.lload 5, 2) := by decide +kernel
theorem dX7_spread_11 : decode cX7_spread 11 = .ok (.lstore 7, 2) := by decide +kernel
theorem dX7_spread_13 : decode cX7_spread 13 = .ok (.iconst 0, 1) := by decide +kernel
theorem dX7_spread_14 : decode cX7_spread 14 = .ok (.istore 9, 2) := by decide +kernel
theorem dX7_spread_16 : decode cX7_spread 16 = .ok (.iload 9, 2) := by decide +kernel
theorem dX7_spread_18 : decode cX7_spread 18 = .ok (.bipush 40, 2) := by decide +kernel
theorem dX7_spread_20 : decode cX7_spread 20 = .ok (.if_icmp .gt 72, 3) := by decide +kernel
theorem dX7_spread_23 : decode cX7_spread 23 = .ok (.lload 7, 2) := by decide +kernel
theorem dX7_spread_25 : decode cX7_spread 25 = .ok (.lconst 0, 1) := by decide +kernel
theorem dX7_spread_26 : decode cX7_spread 26 = .ok (.lcmp, 1) := by decide +kernel
theorem dX7_spread_27 : decode cX7_spread 27 = .ok (.ifCond .eq 65, 3) := by decide +kernel
theorem dX7_spread_30 : decode cX7_spread 30 = .ok (.lload 7, 2) := by decide +kernel
theorem dX7_spread_32 : decode cX7_spread 32 = .ok (.invokestatic 357, 3) := by decide +kernel
theorem dX7_spread_35 : decode cX7_spread 35 = .ok (.istore 10, 2) := by decide +kernel
theorem dX7_spread_37 : decode cX7_spread 37 = .ok (.lload 7, 2) := by decide +kernel
theorem dX7_spread_39 : decode cX7_spread 39 = .ok (.iload 10, 2) := by decide +kernel
theorem dX7_spread_41 : decode cX7_spread 41 = .ok (.invokestatic 360, 3) := by decide +kernel
theorem dX7_spread_44 : decode cX7_spread 44 = .ok (.ldc2_w 355, 3) := by decide +kernel
theorem dX7_spread_47 : decode cX7_spread 47 = .ok (.lxor, 1) := by decide +kernel
theorem dX7_spread_48 : decode cX7_spread 48 = .ok (.land, 1) := by decide +kernel
theorem dX7_spread_49 : decode cX7_spread 49 = .ok (.lstore 7, 2) := by decide +kernel
theorem dX7_spread_51 : decode cX7_spread 51 = .ok (.aload_n 0, 1) := by decide +kernel
theorem dX7_spread_52 : decode cX7_spread 52 = .ok (.iload 10, 2) := by decide +kernel
theorem dX7_spread_54 : decode cX7_spread 54 = .ok (.invokestatic 185, 3) := by decide +kernel
theorem dX7_spread_57 : decode cX7_spread 57 = .ok (.lload 5, 2) := by decide +kernel
theorem dX7_spread_59 : decode cX7_spread 59 = .ok (.ldc2_w 355, 3) := by decide +kernel
theorem dX7_spread_62 : decode cX7_spread 62 = .ok (.lxor, 1) := by decide +kernel
theorem dX7_spread_63 : decode cX7_spread 63 = .ok (.land, 1) := by decide +kernel
theorem dX7_spread_64 : decode cX7_spread 64 = .ok (.lload_n 3, 1) := by decide +kernel
theorem dX7_spread_65 : decode cX7_spread 65 = .ok (.ldc2_w 355, 3) := by decide +kernel
theorem dX7_spread_68 : decode cX7_spread 68 = .ok (.lxor, 1) := by decide +kernel
theorem dX7_spread_69 : decode cX7_spread 69 = .ok (.land, 1) := by decide +kernel
theorem dX7_spread_70 : decode cX7_spread 70 = .ok (.lstore 11, 2) := by decide +kernel
theorem dX7_spread_72 : decode cX7_spread 72 = .ok (.lload 5, 2) := by decide +kernel
theorem dX7_spread_74 : decode cX7_spread 74 = .ok (.lload 11, 2) := by decide +kernel
theorem dX7_spread_76 : decode cX7_spread 76 = .ok (.lor, 1) := by decide +kernel
theorem dX7_spread_77 : decode cX7_spread 77 = .ok (.lstore 5, 2) := by decide +kernel
theorem dX7_spread_79 : decode cX7_spread 79 = .ok (.lload 7, 2) := by decide +kernel
theorem dX7_spread_81 : decode cX7_spread 81 = .ok (.lload 11, 2) := by decide +kernel
theorem dX7_spread_83 : decode cX7_spread 83 = .ok (.lor, 1) := by decide +kernel
theorem dX7_spread_84 : decode cX7_spread 84 = .ok (.lstore 7, 2) := by decide +kernel
theorem dX7_spread_86 : decode cX7_spread 86 = .ok (.iinc 9 1, 3) := by decide +kernel
theorem dX7_spread_89 : decode cX7_spread 89 = .ok (.goto (-73), 3) := by decide +kernel
theorem dX7_spread_92 : decode cX7_spread 92 = .ok (.lload 5, 2) := by decide +kernel
theorem dX7_spread_94 : decode cX7_spread 94 = .ok (.lreturn, 1) := by decide +kernel
theorem dX1_leadersOf_0 : decode cX1_leadersOf 0 = .ok (.lconst 1, 1) := by decide +kernel
theorem dX1_leadersOf_1 : decode cX1_leadersOf 1 = .ok (.lstore_n 1, 1) := by decide +kernel
theorem dX1_leadersOf_2 : decode cX1_leadersOf 2 = .ok (.iconst 0, 1) := by decide +kernel
theorem dX1_leadersOf_3 : decode cX1_leadersOf 3 = .ok (.istore_n 3, 1) := by decide +kernel
theorem dX1_leadersOf_4 : decode cX1_leadersOf 4 = .ok (.iload_n 3, 1) := by decide +kernel
theorem dX1_leadersOf_5 : decode cX1_leadersOf 5 = .ok (.aload_n 0, 1) := by decide +kernel
theorem dX1_leadersOf_6 : decode cX1_leadersOf 6 = .ok (.getfield 34, 3) := by decide +kernel
theorem dX1_leadersOf_9 : decode cX1_leadersOf 9 = .ok (.if_icmp .ge 55, 3) := by decide +kernel
theorem dX1_leadersOf_12 : decode cX1_leadersOf 12 = .ok (.aload_n 0, 1) := by decide +kernel
theorem dX1_leadersOf_13 : decode cX1_leadersOf 13 = .ok (.getfield 77, 3) := by decide +kernel
theorem dX1_leadersOf_16 : decode cX1_leadersOf 16 = .ok (.iload_n 3, 1) := by decide +kernel
theorem dX1_leadersOf_17 : decode cX1_leadersOf 17 = .ok (.invokestatic 80, 3) := by decide +kernel
theorem dX1_leadersOf_20 : decode cX1_leadersOf 20 = .ok (.istore 4, 2) := by decide +kernel
theorem dX1_leadersOf_22 : decode cX1_leadersOf 22 = .ok (.iload 4, 2) := by decide +kernel
theorem dX1_leadersOf_24 : decode cX1_leadersOf 24 = .ok (.ifCond .eq 12, 3) := by decide +kernel
theorem dX1_leadersOf_27 : decode cX1_leadersOf 27 = .ok (.lload_n 1, 1) := by decide +kernel
theorem dX1_leadersOf_28 : decode cX1_leadersOf 28 = .ok (.iload_n 3, 1) := by decide +kernel
theorem dX1_leadersOf_29 : decode cX1_leadersOf 29 = .ok (.iconst 1, 1) := by decide +kernel
theorem dX1_leadersOf_30 : decode cX1_leadersOf 30 = .ok (.iadd, 1) := by decide +kernel
theorem dX1_leadersOf_31 : decode cX1_leadersOf 31 = .ok (.invokestatic 65, 3) := by decide +kernel
theorem dX1_leadersOf_34 : decode cX1_leadersOf 34 = .ok (.lor, 1) := by decide +kernel
theorem dX1_leadersOf_35 : decode cX1_leadersOf 35 = .ok (.lstore_n 1, 1) := by decide +kernel
theorem dX1_leadersOf_36 : decode cX1_leadersOf 36 = .ok (.iload 4, 2) := by decide +kernel
theorem dX1_leadersOf_38 : decode cX1_leadersOf 38 = .ok (.invokestatic 84, 3) := by decide +kernel
theorem dX1_leadersOf_41 : decode cX1_leadersOf 41 = .ok (.ifCond .eq 17, 3) := by decide +kernel
theorem dX1_leadersOf_44 : decode cX1_leadersOf 44 = .ok (.lload_n 1, 1) := by decide +kernel
theorem dX1_leadersOf_45 : decode cX1_leadersOf 45 = .ok (.aload_n 0, 1) := by decide +kernel
theorem dX1_leadersOf_46 : decode cX1_leadersOf 46 = .ok (.getfield 88, 3) := by decide +kernel
theorem dX1_leadersOf_49 : decode cX1_leadersOf 49 = .ok (.iload_n 3, 1) := by decide +kernel
theorem dX1_leadersOf_50 : decode cX1_leadersOf 50 = .ok (.invokestatic 80, 3) := by decide +kernel
theorem dX1_leadersOf_53 : decode cX1_leadersOf 53 = .ok (.invokestatic 65, 3) := by decide +kernel
theorem dX1_leadersOf_56 : decode cX1_leadersOf 56 = .ok (.lor, 1) := by decide +kernel
theorem dX1_leadersOf_57 : decode cX1_leadersOf 57 = .ok (.lstore_n 1, 1) := by decide +kernel
theorem dX1_leadersOf_58 : decode cX1_leadersOf 58 = .ok (.iinc 3 1, 3) := by decide +kernel
theorem dX1_leadersOf_61 : decode cX1_leadersOf 61 = .ok (.goto (-57), 3) := by decide +kernel
theorem dX1_leadersOf_64 : decode cX1_leadersOf 64 = .ok (.lload_n 1, 1) := by decide +kernel
theorem dX1_leadersOf_65 : decode cX1_leadersOf 65 = .ok (.lreturn, 1) := by decide +kernel
theorem dX1_cut_0 : decode cX1_cut 0 = .ok (.aload_n 0, 1) := by decide +kernel
theorem dX1_cut_1 : decode cX1_cut 1 = .ok (.iconst 0, 1) := by decide +kernel
theorem dX1_cut_2 : decode cX1_cut 2 = .ok (.putfield 51, 3) := by decide +kernel
theorem dX1_cut_5 : decode cX1_cut 5 = .ok (.iconst 0, 1) := by decide +kernel
theorem dX1_cut_6 : decode cX1_cut 6 = .ok (.istore 4, 2) := by decide +kernel
theorem dX1_cut_8 : decode cX1_cut 8 = .ok (.iload 4, 2) := by decide +kernel
theorem dX1_cut_10 : decode cX1_cut 10 = .ok (.iload_n 1, 1) := by decide +kernel
theorem dX1_cut_11 : decode cX1_cut 11 = .ok (.if_icmp .ge 71, 3) := by decide +kernel
theorem dX1_cut_14 : decode cX1_cut 14 = .ok (.lload_n 2, 1) := by decide +kernel
theorem dX1_cut_15 : decode cX1_cut 15 = .ok (.iload 4, 2) := by decide +kernel
theorem dX1_cut_17 : decode cX1_cut 17 = .ok (.invokestatic 91, 3) := by decide +kernel
theorem dX1_cut_20 : decode cX1_cut 20 = .ok (.ifCond .eq 26, 3) := by decide +kernel
theorem dX1_cut_23 : decode cX1_cut 23 = .ok (.aload_n 0, 1) := by decide +kernel
theorem dX1_cut_24 : decode cX1_cut 24 = .ok (.getfield 15, 3) := by decide +kernel
theorem dX1_cut_27 : decode cX1_cut 27 = .ok (.aload_n 0, 1) := by decide +kernel
theorem dX1_cut_28 : decode cX1_cut 28 = .ok (.getfield 51, 3) := by decide +kernel
theorem dX1_cut_31 : decode cX1_cut 31 = .ok (.iload 4, 2) := by decide +kernel
theorem dX1_cut_33 : decode cX1_cut 33 = .ok (.invokestatic 54, 3) := by decide +kernel
theorem dX1_cut_36 : decode cX1_cut 36 = .ok (.aload_n 0, 1) := by decide +kernel
theorem dX1_cut_37 : decode cX1_cut 37 = .ok (.dup, 1) := by decide +kernel
theorem dX1_cut_38 : decode cX1_cut 38 = .ok (.getfield 51, 3) := by decide +kernel
theorem dX1_cut_41 : decode cX1_cut 41 = .ok (.iconst 1, 1) := by decide +kernel
theorem dX1_cut_42 : decode cX1_cut 42 = .ok (.iadd, 1) := by decide +kernel
theorem dX1_cut_43 : decode cX1_cut 43 = .ok (.putfield 51, 3) := by decide +kernel
theorem dX1_cut_46 : decode cX1_cut 46 = .ok (.aload_n 0, 1) := by decide +kernel
theorem dX1_cut_47 : decode cX1_cut 47 = .ok (.getfield 9, 3) := by decide +kernel
theorem dX1_cut_50 : decode cX1_cut 50 = .ok (.iload 4, 2) := by decide +kernel
theorem dX1_cut_52 : decode cX1_cut 52 = .ok (.aload_n 0, 1) := by decide +kernel
theorem dX1_cut_53 : decode cX1_cut 53 = .ok (.getfield 51, 3) := by decide +kernel
theorem dX1_cut_56 : decode cX1_cut 56 = .ok (.iconst 1, 1) := by decide +kernel
theorem dX1_cut_57 : decode cX1_cut 57 = .ok (.isub, 1) := by decide +kernel
theorem dX1_cut_58 : decode cX1_cut 58 = .ok (.invokestatic 54, 3) := by decide +kernel
theorem dX1_cut_61 : decode cX1_cut 61 = .ok (.aload_n 0, 1) := by decide +kernel
theorem dX1_cut_62 : decode cX1_cut 62 = .ok (.getfield 18, 3) := by decide +kernel
theorem dX1_cut_65 : decode cX1_cut 65 = .ok (.aload_n 0, 1) := by decide +kernel
theorem dX1_cut_66 : decode cX1_cut 66 = .ok (.getfield 51, 3) := by decide +kernel
theorem dX1_cut_69 : decode cX1_cut 69 = .ok (.iconst 1, 1) := by decide +kernel
theorem dX1_cut_70 : decode cX1_cut 70 = .ok (.isub, 1) := by decide +kernel
theorem dX1_cut_71 : decode cX1_cut 71 = .ok (.iload 4, 2) := by decide +kernel
theorem dX1_cut_73 : decode cX1_cut 73 = .ok (.invokestatic 54, 3) := by decide +kernel
theorem dX1_cut_76 : decode cX1_cut 76 = .ok (.iinc 4 1, 3) := by decide +kernel
theorem dX1_cut_79 : decode cX1_cut 79 = .ok (.goto (-71), 3) := by decide +kernel
theorem dX1_cut_82 : decode cX1_cut 82 = .ok (.return_, 1) := by decide +kernel
theorem dX1_join_0 : decode cX1_join 0 = .ok (.iload_n 2, 1) := by decide +kernel
theorem dX1_join_1 : decode cX1_join 1 = .ok (.iload_n 3, 1) := by decide +kernel
theorem dX1_join_2 : decode cX1_join 2 = .ok (.if_icmp .ge 14, 3) := by decide +kernel
theorem dX1_join_5 : decode cX1_join 5 = .ok (.aload_n 0, 1) := by decide +kernel
theorem dX1_join_6 : decode cX1_join 6 = .ok (.getfield 9, 3) := by decide +kernel
theorem dX1_join_9 : decode cX1_join 9 = .ok (.iload_n 2, 1) := by decide +kernel
theorem dX1_join_10 : decode cX1_join 10 = .ok (.invokestatic 80, 3) := by decide +kernel
theorem dX1_join_13 : decode cX1_join 13 = .ok (.goto 5, 3) := by decide +kernel
theorem dX1_join_16 : decode cX1_join 16 = .ok (.bipush 40, 2) := by decide +kernel
theorem dX1_join_18 : decode cX1_join 18 = .ok (.istore 4, 2) := by decide +kernel
theorem dX1_join_20 : decode cX1_join 20 = .ok (.aload_n 0, 1) := by decide +kernel
theorem dX1_join_21 : decode cX1_join 21 = .ok (.getfield 30, 3) := by decide +kernel
theorem dX1_join_24 : decode cX1_join 24 = .ok (.iload_n 1, 1) := by decide +kernel
theorem dX1_join_25 : decode cX1_join 25 = .ok (.invokestatic 99, 3) := by decide +kernel
theorem dX1_join_28 : decode cX1_join 28 = .ok (.lstore 5, 2) := by decide +kernel
theorem dX1_join_30 : decode cX1_join 30 = .ok (.lload 5, 2) := by decide +kernel
theorem dX1_join_32 : decode cX1_join 32 = .ok (.iload 4, 2) := by decide +kernel
theorem dX1_join_34 : decode cX1_join 34 = .ok (.invokestatic 91, 3) := by decide +kernel
theorem dX1_join_37 : decode cX1_join 37 = .ok (.ifCond .eq 4, 3) := by decide +kernel
theorem dX1_join_40 : decode cX1_join 40 = .ok (.return_, 1) := by decide +kernel
theorem dX1_join_41 : decode cX1_join 41 = .ok (.aload_n 0, 1) := by decide +kernel
theorem dX1_join_42 : decode cX1_join 42 = .ok (.getfield 30, 3) := by decide +kernel
theorem dX1_join_45 : decode cX1_join 45 = .ok (.iload_n 1, 1) := by decide +kernel
theorem dX1_join_46 : decode cX1_join 46 = .ok (.lload 5, 2) := by decide +kernel
theorem dX1_join_48 : decode cX1_join 48 = .ok (.iload 4, 2) := by decide +kernel
theorem dX1_join_50 : decode cX1_join 50 = .ok (.invokestatic 65, 3) := by decide +kernel
theorem dX1_join_53 : decode cX1_join 53 = .ok (.lor, 1) := by decide +kernel
theorem dX1_join_54 : decode cX1_join 54 = .ok (.invokestatic 58, 3) := by decide +kernel
theorem dX1_join_57 : decode cX1_join 57 = .ok (.aload_n 0, 1) := by decide +kernel
theorem dX1_join_58 : decode cX1_join 58 = .ok (.getfield 21, 3) := by decide +kernel
theorem dX1_join_61 : decode cX1_join 61 = .ok (.aload_n 0, 1) := by decide +kernel
theorem dX1_join_62 : decode cX1_join 62 = .ok (.getfield 48, 3) := by decide +kernel
theorem dX1_join_65 : decode cX1_join 65 = .ok (.iload_n 1, 1) := by decide +kernel
theorem dX1_join_66 : decode cX1_join 66 = .ok (.invokestatic 54, 3) := by decide +kernel
theorem dX1_join_69 : decode cX1_join 69 = .ok (.aload_n 0, 1) := by decide +kernel
theorem dX1_join_70 : decode cX1_join 70 = .ok (.getfield 24, 3) := by decide +kernel
theorem dX1_join_73 : decode cX1_join 73 = .ok (.aload_n 0, 1) := by decide +kernel
theorem dX1_join_74 : decode cX1_join 74 = .ok (.getfield 48, 3) := by decide +kernel
theorem dX1_join_77 : decode cX1_join 77 = .ok (.iload 4, 2) := by decide +kernel
theorem dX1_join_79 : decode cX1_join 79 = .ok (.bipush 40, 2) := by decide +kernel
theorem dX1_join_81 : decode cX1_join 81 = .ok (.if_icmp .ne 7, 3) := by decide +kernel
theorem dX1_join_84 : decode cX1_join 84 = .ok (.iconst (-1), 1) := by decide +kernel
theorem dX1_join_85 : decode cX1_join 85 = .ok (.goto 5, 3) := by decide +kernel
theorem dX1_join_88 : decode cX1_join 88 = .ok (.iload 4, 2) := by decide +kernel
theorem dX1_join_90 : decode cX1_join 90 = .ok (.invokestatic 54, 3) := by decide +kernel
theorem dX1_join_93 : decode cX1_join 93 = .ok (.aload_n 0, 1) := by decide +kernel
theorem dX1_join_94 : decode cX1_join 94 = .ok (.dup, 1) := by decide +kernel
theorem dX1_join_95 : decode cX1_join 95 = .ok (.getfield 48, 3) := by decide +kernel
theorem dX1_join_98 : decode cX1_join 98 = .ok (.iconst 1, 1) := by decide +kernel
theorem dX1_join_99 : decode cX1_join 99 = .ok (.iadd, 1) := by decide +kernel
theorem dX1_join_100 : decode cX1_join 100 = .ok (.putfield 48, 3) := by decide +kernel
theorem dX1_join_103 : decode cX1_join 103 = .ok (.return_, 1) := by decide +kernel
theorem dX1_leave_0 : decode cX1_leave 0 = .ok (.aload_n 0, 1) := by decide +kernel
theorem dX1_leave_1 : decode cX1_leave 1 = .ok (.getfield 18, 3) := by decide +kernel
theorem dX1_leave_4 : decode cX1_leave 4 = .ok (.iload_n 2, 1) := by decide +kernel
theorem dX1_leave_5 : decode cX1_leave 5 = .ok (.invokestatic 80, 3) := by decide +kernel
theorem dX1_leave_8 : decode cX1_leave 8 = .ok (.istore_n 3, 1) := by decide +kernel
theorem dX1_leave_9 : decode cX1_leave 9 = .ok (.aload_n 1, 1) := by decide +kernel
theorem dX1_leave_10 : decode cX1_leave 10 = .ok (.getfield 77, 3) := by decide +kernel
theorem dX1_leave_13 : decode cX1_leave 13 = .ok (.iload_n 3, 1) := by decide +kernel
theorem dX1_leave_14 : decode cX1_leave 14 = .ok (.invokestatic 80, 3) := by decide +kernel
theorem dX1_leave_17 : decode cX1_leave 17 = .ok (.istore 4, 2) := by decide +kernel
theorem dX1_leave_19 : decode cX1_leave 19 = .ok (.iload 4, 2) := by decide +kernel
theorem dX1_leave_21 : decode cX1_leave 21 = .ok (.ifCond .eq 9, 3) := by decide +kernel
theorem dX1_leave_24 : decode cX1_leave 24 = .ok (.iload 4, 2) := by decide +kernel
theorem dX1_leave_26 : decode cX1_leave 26 = .ok (.iconst 1, 1) := by decide +kernel
theorem dX1_leave_27 : decode cX1_leave 27 = .ok (.if_icmp .ne 15, 3) := by decide +kernel
theorem dX1_leave_30 : decode cX1_leave 30 = .ok (.aload_n 0, 1) := by decide +kernel
theorem dX1_leave_31 : decode cX1_leave 31 = .ok (.iload_n 2, 1) := by decide +kernel
theorem dX1_leave_32 : decode cX1_leave 32 = .ok (.iload_n 3, 1) := by decide +kernel
theorem dX1_leave_33 : decode cX1_leave 33 = .ok (.iconst 1, 1) := by decide +kernel
theorem dX1_leave_34 : decode cX1_leave 34 = .ok (.iadd, 1) := by decide +kernel
theorem dX1_leave_35 : decode cX1_leave 35 = .ok (.aload_n 1, 1) := by decide +kernel
theorem dX1_leave_36 : decode cX1_leave 36 = .ok (.getfield 34, 3) := by decide +kernel
theorem dX1_leave_39 : decode cX1_leave 39 = .ok (.invokevirtual 95, 3) := by decide +kernel
theorem dX1_leave_42 : decode cX1_leave 42 = .ok (.iload 4, 2) := by decide +kernel
theorem dX1_leave_44 : decode cX1_leave 44 = .ok (.invokestatic 84, 3) := by decide +kernel
theorem dX1_leave_47 : decode cX1_leave 47 = .ok (.ifCond .eq 20, 3) := by decide +kernel
theorem dX1_leave_50 : decode cX1_leave 50 = .ok (.aload_n 0, 1) := by decide +kernel
theorem dX1_leave_51 : decode cX1_leave 51 = .ok (.iload_n 2, 1) := by decide +kernel
theorem dX1_leave_52 : decode cX1_leave 52 = .ok (.aload_n 1, 1) := by decide +kernel
theorem dX1_leave_53 : decode cX1_leave 53 = .ok (.getfield 88, 3) := by decide +kernel
theorem dX1_leave_56 : decode cX1_leave 56 = .ok (.iload_n 3, 1) := by decide +kernel
theorem dX1_leave_57 : decode cX1_leave 57 = .ok (.invokestatic 80, 3) := by decide +kernel
theorem dX1_leave_60 : decode cX1_leave 60 = .ok (.aload_n 1, 1) := by decide +kernel
theorem dX1_leave_61 : decode cX1_leave 61 = .ok (.getfield 34, 3) := by decide +kernel
theorem dX1_leave_64 : decode cX1_leave 64 = .ok (.invokevirtual 95, 3) := by decide +kernel
theorem dX1_leave_67 : decode cX1_leave 67 = .ok (.iload 4, 2) := by decide +kernel
theorem dX1_leave_69 : decode cX1_leave 69 = .ok (.iconst 3, 1) := by decide +kernel
theorem dX1_leave_70 : decode cX1_leave 70 = .ok (.if_icmp .ne 16, 3) := by decide +kernel
theorem dX1_leave_73 : decode cX1_leave 73 = .ok (.aload_n 0, 1) := by decide +kernel
theorem dX1_leave_74 : decode cX1_leave 74 = .ok (.iload_n 2, 1) := by decide +kernel
theorem dX1_leave_75 : decode cX1_leave 75 = .ok (.aload_n 1, 1) := by decide +kernel
theorem dX1_leave_76 : decode cX1_leave 76 = .ok (.getfield 34, 3) := by decide +kernel
theorem dX1_leave_79 : decode cX1_leave 79 = .ok (.aload_n 1, 1) := by decide +kernel
theorem dX1_leave_80 : decode cX1_leave 80 = .ok (.getfield 34, 3) := by decide +kernel
theorem dX1_leave_83 : decode cX1_leave 83 = .ok (.invokevirtual 95, 3) := by decide +kernel
theorem dX1_leave_86 : decode cX1_leave 86 = .ok (.return_, 1) := by decide +kernel
theorem dX1_part_0 : decode cX1_part 0 = .ok (.aload_n 0, 1) := by decide +kernel
theorem dX1_part_1 : decode cX1_part 1 = .ok (.aload_n 1, 1) := by decide +kernel
theorem dX1_part_2 : decode cX1_part 2 = .ok (.getfield 34, 3) := by decide +kernel
theorem dX1_part_5 : decode cX1_part 5 = .ok (.aload_n 1, 1) := by decide +kernel
theorem dX1_part_6 : decode cX1_part 6 = .ok (.invokestatic 40, 3) := by decide +kernel
theorem dX1_part_9 : decode cX1_part 9 = .ok (.invokevirtual 44, 3) := by decide +kernel
theorem dX1_part_12 : decode cX1_part 12 = .ok (.aload_n 0, 1) := by decide +kernel
theorem dX1_part_13 : decode cX1_part 13 = .ok (.iconst 0, 1) := by decide +kernel
theorem dX1_part_14 : decode cX1_part 14 = .ok (.putfield 48, 3) := by decide +kernel
theorem dX1_part_17 : decode cX1_part 17 = .ok (.iconst 0, 1) := by decide +kernel
theorem dX1_part_18 : decode cX1_part 18 = .ok (.istore_n 2, 1) := by decide +kernel
theorem dX1_part_19 : decode cX1_part 19 = .ok (.iload_n 2, 1) := by decide +kernel
theorem dX1_part_20 : decode cX1_part 20 = .ok (.aload_n 0, 1) := by decide +kernel
theorem dX1_part_21 : decode cX1_part 21 = .ok (.getfield 51, 3) := by decide +kernel
theorem dX1_part_24 : decode cX1_part 24 = .ok (.if_icmp .ge 36, 3) := by decide +kernel
theorem dX1_part_27 : decode cX1_part 27 = .ok (.aload_n 0, 1) := by decide +kernel
theorem dX1_part_28 : decode cX1_part 28 = .ok (.getfield 27, 3) := by decide +kernel
theorem dX1_part_31 : decode cX1_part 31 = .ok (.iload_n 2, 1) := by decide +kernel
theorem dX1_part_32 : decode cX1_part 32 = .ok (.aload_n 0, 1) := by decide +kernel
theorem dX1_part_33 : decode cX1_part 33 = .ok (.getfield 48, 3) := by decide +kernel
theorem dX1_part_36 : decode cX1_part 36 = .ok (.invokestatic 54, 3) := by decide +kernel
theorem dX1_part_39 : decode cX1_part 39 = .ok (.aload_n 0, 1) := by decide +kernel
theorem dX1_part_40 : decode cX1_part 40 = .ok (.getfield 30, 3) := by decide +kernel
theorem dX1_part_43 : decode cX1_part 43 = .ok (.iload_n 2, 1) := by decide +kernel
theorem dX1_part_44 : decode cX1_part 44 = .ok (.lconst 0, 1) := by decide +kernel
theorem dX1_part_45 : decode cX1_part 45 = .ok (.invokestatic 58, 3) := by decide +kernel
theorem dX1_part_48 : decode cX1_part 48 = .ok (.aload_n 0, 1) := by decide +kernel
theorem dX1_part_49 : decode cX1_part 49 = .ok (.aload_n 1, 1) := by decide +kernel
theorem dX1_part_50 : decode cX1_part 50 = .ok (.iload_n 2, 1) := by decide +kernel
theorem dX1_part_51 : decode cX1_part 51 = .ok (.invokevirtual 61, 3) := by decide +kernel
theorem dX1_part_54 : decode cX1_part 54 = .ok (.iinc 2 1, 3) := by decide +kernel
theorem dX1_part_57 : decode cX1_part 57 = .ok (.goto (-38), 3) := by decide +kernel
theorem dX1_part_60 : decode cX1_part 60 = .ok (.aload_n 0, 1) := by decide +kernel
theorem dX1_part_61 : decode cX1_part 61 = .ok (.getfield 27, 3) := by decide +kernel
theorem dX1_part_64 : decode cX1_part 64 = .ok (.aload_n 0, 1) := by decide +kernel
theorem dX1_part_65 : decode cX1_part 65 = .ok (.getfield 51, 3) := by decide +kernel
theorem dX1_part_68 : decode cX1_part 68 = .ok (.aload_n 0, 1) := by decide +kernel
theorem dX1_part_69 : decode cX1_part 69 = .ok (.getfield 48, 3) := by decide +kernel
theorem dX1_part_72 : decode cX1_part 72 = .ok (.invokestatic 54, 3) := by decide +kernel
theorem dX1_part_75 : decode cX1_part 75 = .ok (.aload_n 0, 1) := by decide +kernel
theorem dX1_part_76 : decode cX1_part 76 = .ok (.aload_n 0, 1) := by decide +kernel
theorem dX1_part_77 : decode cX1_part 77 = .ok (.getfield 51, 3) := by decide +kernel
theorem dX1_part_80 : decode cX1_part 80 = .ok (.ifCond .le 19, 3) := by decide +kernel
theorem dX1_part_83 : decode cX1_part 83 = .ok (.aload_n 0, 1) := by decide +kernel
theorem dX1_part_84 : decode cX1_part 84 = .ok (.getfield 30, 3) := by decide +kernel
theorem dX1_part_87 : decode cX1_part 87 = .ok (.lconst 1, 1) := by decide +kernel
theorem dX1_part_88 : decode cX1_part 88 = .ok (.bipush 40, 2) := by decide +kernel
theorem dX1_part_90 : decode cX1_part 90 = .ok (.invokestatic 65, 3) := by decide +kernel
theorem dX1_part_93 : decode cX1_part 93 = .ok (.invokestatic 69, 3) := by decide +kernel
theorem dX1_part_96 : decode cX1_part 96 = .ok (.goto 4, 3) := by decide +kernel
theorem dX1_part_99 : decode cX1_part 99 = .ok (.lconst 0, 1) := by decide +kernel
theorem dX1_part_100 : decode cX1_part 100 = .ok (.putfield 73, 3) := by decide +kernel
theorem dX1_part_103 : decode cX1_part 103 = .ok (.return_, 1) := by decide +kernel
theorem dX1_countWindings_0 : decode cX1_countWindings 0 = .ok (.aload_n 0, 1) := by decide +kernel
theorem dX1_countWindings_1 : decode cX1_countWindings 1 = .ok (.getfield 51, 3) := by decide +kernel
theorem dX1_countWindings_4 : decode cX1_countWindings 4 = .ok (.ifCond .ne 5, 3) := by decide +kernel
theorem dX1_countWindings_7 : decode cX1_countWindings 7 = .ok (.iconst 0, 1) := by decide +kernel
theorem dX1_countWindings_8 : decode cX1_countWindings 8 = .ok (.ireturn, 1) := by decide +kernel
theorem dX1_countWindings_9 : decode cX1_countWindings 9 = .ok (.iconst 0, 1) := by decide +kernel
theorem dX1_countWindings_10 : decode cX1_countWindings 10 = .ok (.istore_n 1, 1) := by decide +kernel
theorem dX1_countWindings_11 : decode cX1_countWindings 11 = .ok (.iconst 0, 1) := by decide +kernel
theorem dX1_countWindings_12 : decode cX1_countWindings 12 = .ok (.istore_n 2, 1) := by decide +kernel
theorem dX1_countWindings_13 : decode cX1_countWindings 13 = .ok (.iload_n 2, 1) := by decide +kernel
theorem dX1_countWindings_14 : decode cX1_countWindings 14 = .ok (.aload_n 0, 1) := by decide +kernel
theorem dX1_countWindings_15 : decode cX1_countWindings 15 = .ok (.getfield 48, 3) := by decide +kernel
theorem dX1_countWindings_18 : decode cX1_countWindings 18 = .ok (.if_icmp .ge 30, 3) := by decide +kernel
theorem dX1_countWindings_21 : decode cX1_countWindings 21 = .ok (.aload_n 0, 1) := by decide +kernel
theorem dX1_countWindings_22 : decode cX1_countWindings 22 = .ok (.getfield 73, 3) := by decide +kernel
theorem dX1_countWindings_25 : decode cX1_countWindings 25 = .ok (.aload_n 0, 1) := by decide +kernel
theorem dX1_countWindings_26 : decode cX1_countWindings 26 = .ok (.getfield 21, 3) := by decide +kernel
theorem dX1_countWindings_29 : decode cX1_countWindings 29 = .ok (.iload_n 2, 1) := by decide +kernel
theorem dX1_countWindings_30 : decode cX1_countWindings 30 = .ok (.invokestatic 80, 3) := by decide +kernel
theorem dX1_countWindings_33 : decode cX1_countWindings 33 = .ok (.invokestatic 91, 3) := by decide +kernel
theorem dX1_countWindings_36 : decode cX1_countWindings 36 = .ok (.ifCond .eq 6, 3) := by decide +kernel
theorem dX1_countWindings_39 : decode cX1_countWindings 39 = .ok (.iinc 1 1, 3) := by decide +kernel
theorem dX1_countWindings_42 : decode cX1_countWindings 42 = .ok (.iinc 2 1, 3) := by decide +kernel
theorem dX1_countWindings_45 : decode cX1_countWindings 45 = .ok (.goto (-32), 3) := by decide +kernel
theorem dX1_countWindings_48 : decode cX1_countWindings 48 = .ok (.iload_n 1, 1) := by decide +kernel
theorem dX1_countWindings_49 : decode cX1_countWindings 49 = .ok (.aload_n 0, 1) := by decide +kernel
theorem dX1_countWindings_50 : decode cX1_countWindings 50 = .ok (.getfield 73, 3) := by decide +kernel
theorem dX1_countWindings_53 : decode cX1_countWindings 53 = .ok (.invokestatic 102, 3) := by decide +kernel
theorem dX1_countWindings_56 : decode cX1_countWindings 56 = .ok (.isub, 1) := by decide +kernel
theorem dX1_countWindings_57 : decode cX1_countWindings 57 = .ok (.iconst 1, 1) := by decide +kernel
theorem dX1_countWindings_58 : decode cX1_countWindings 58 = .ok (.isub, 1) := by decide +kernel
theorem dX1_countWindings_59 : decode cX1_countWindings 59 = .ok (.iconst 2, 1) := by decide +kernel
theorem dX1_countWindings_60 : decode cX1_countWindings 60 = .ok (.iadd, 1) := by decide +kernel
theorem dX1_countWindings_61 : decode cX1_countWindings 61 = .ok (.ireturn, 1) := by decide +kernel
theorem mw_73 : Cond.constantLong RX7 355 (-1) ∈ GW := gw_mem (inT2 _ (List.mem_of_getElem? (i := 140) rfl)) rfl
theorem mw_74 : Cond.code yX7_lowest cX7_lowest 2 (some Jvm.ClassFile.FieldType.int) ∈ GW := gw_mem (inT2 _ (List.mem_of_getElem? (i := 143) rfl)) rfl
theorem mw_75 : Cond.methodLink RX7 357 yX7_lowest ∈ GW := gw_mem (inT2 _ (List.mem_of_getElem? (i := 141) rfl)) rfl
theorem mw_76 : Cond.static yX7_lowest ∈ GW := gw_mem (inT2 _ (List.mem_of_getElem? (i := 142) rfl)) rfl
theorem mw_77 : Cond.initialized RX7 ∈ GW := gw_mem (inT1 _ (List.mem_of_getElem? (i := 1) rfl)) rfl
theorem mw_78 : Cond.code yX7_bit cX7_bit 1 (some Jvm.ClassFile.FieldType.long) ∈ GW := gw_mem (inT2 _ (List.mem_of_getElem? (i := 109) rfl)) rfl
theorem mw_79 : Cond.methodLink RX7 360 yX7_bit ∈ GW := gw_mem (inT2 _ (List.mem_of_getElem? (i := 150) rfl)) rfl
theorem mw_80 : Cond.static yX7_bit ∈ GW := gw_mem (inT2 _ (List.mem_of_getElem? (i := 108) rfl)) rfl
theorem mw_81 : Cond.code yX7_at_ cX7_at_ 2 (some Jvm.ClassFile.FieldType.long) ∈ GW := gw_mem (inT2 _ (List.mem_of_getElem? (i := 136) rfl)) rfl
theorem mw_82 : Cond.methodLink RX7 185 yX7_at_ ∈ GW := gw_mem (inT2 _ (List.mem_of_getElem? (i := 151) rfl)) rfl
theorem mw_83 : Cond.static yX7_at_ ∈ GW := gw_mem (inT2 _ (List.mem_of_getElem? (i := 135) rfl)) rfl
theorem mw_84 : Cond.code yX7_at cX7_at 2 (some Jvm.ClassFile.FieldType.int) ∈ GW := gw_mem (inT2 _ (List.mem_of_getElem? (i := 106) rfl)) rfl
theorem mw_85 : Cond.static yX7_at ∈ GW := gw_mem (inT2 _ (List.mem_of_getElem? (i := 105) rfl)) rfl
theorem mw_86 : Cond.code yX7_jumps cX7_jumps 1 (some Jvm.ClassFile.FieldType.boolean) ∈ GW := gw_mem (inT2 _ (List.mem_of_getElem? (i := 112) rfl)) rfl
theorem mw_87 : Cond.static yX7_jumps ∈ GW := gw_mem (inT2 _ (List.mem_of_getElem? (i := 111) rfl)) rfl
theorem mw_88 : Cond.fieldLink RX1 51 "OrielChart$Flow" "blockCount" "I" ∈ GW := gw_mem (inT1 _ (List.mem_of_getElem? (i := 84) rfl)) rfl
theorem mw_89 : Cond.code yX7_has cX7_has 3 (some Jvm.ClassFile.FieldType.boolean) ∈ GW := gw_mem (inT2 _ (List.mem_of_getElem? (i := 119) rfl)) rfl
theorem mw_90 : Cond.static yX7_has ∈ GW := gw_mem (inT2 _ (List.mem_of_getElem? (i := 118) rfl)) rfl
theorem mw_91 : Cond.fieldLink RX1 9 "OrielChart$Flow" "home" "[I" ∈ GW := gw_mem (inT1 _ (List.mem_of_getElem? (i := 64) rfl)) rfl
theorem mw_92 : Cond.code yX7_put cX7_put 3 (none : Option FieldType) ∈ GW := gw_mem (inT2 _ (List.mem_of_getElem? (i := 122) rfl)) rfl
theorem mw_93 : Cond.static yX7_put ∈ GW := gw_mem (inT2 _ (List.mem_of_getElem? (i := 121) rfl)) rfl
theorem mw_94 : Cond.fieldLink RX1 18 "OrielChart$Flow" "last" "[I" ∈ GW := gw_mem (inT1 _ (List.mem_of_getElem? (i := 69) rfl)) rfl
theorem mw_95 : Cond.fieldLink RX1 15 "OrielChart$Flow" "first" "[I" ∈ GW := gw_mem (inT1 _ (List.mem_of_getElem? (i := 66) rfl)) rfl
theorem mw_96 : Cond.fieldLink RX1 30 "OrielChart$Flow" "next" "[J" ∈ GW := gw_mem (inT1 _ (List.mem_of_getElem? (i := 80) rfl)) rfl
theorem mw_97 : Cond.code yX7_put_ cX7_put_ 4 (none : Option FieldType) ∈ GW := gw_mem (inT2 _ (List.mem_of_getElem? (i := 125) rfl)) rfl
theorem mw_98 : Cond.static yX7_put_ ∈ GW := gw_mem (inT2 _ (List.mem_of_getElem? (i := 124) rfl)) rfl
theorem mw_99 : Cond.fieldLink RX1 21 "OrielChart$Flow" "from" "[I" ∈ GW := gw_mem (inT1 _ (List.mem_of_getElem? (i := 71) rfl)) rfl
theorem mw_100 : Cond.fieldLink RX1 48 "OrielChart$Flow" "edgeCount" "I" ∈ GW := gw_mem (inT1 _ (List.mem_of_getElem? (i := 90) rfl)) rfl
theorem mw_101 : Cond.fieldLink RX1 24 "OrielChart$Flow" "to" "[I" ∈ GW := gw_mem (inT1 _ (List.mem_of_getElem? (i := 74) rfl)) rfl
theorem mw_102 : Cond.code yX1_join cX1_join 7 (none : Option FieldType) ∈ GW := gw_mem (inT2 _ (List.mem_of_getElem? (i := 133) rfl)) rfl
theorem mw_103 : Cond.methodLink RX1 95 yX1_join ∈ GW := gw_mem (inT2 _ (List.mem_of_getElem? (i := 130) rfl)) rfl
theorem mw_104 : Cond.instanceMethod yX1_join ∈ GW := gw_mem (inT2 _ (List.mem_of_getElem? (i := 132) rfl)) rfl
theorem mw_105 : Cond.selects RX1 yX1_join yX1_join ∈ GW := gw_mem (inTp (q := (yX1_join, 11)) (List.mem_of_getElem? (i := 4) rfl)) rfl
theorem mw_106 : Cond.initialized RX1 ∈ GW := gw_mem (inT1 _ (List.mem_of_getElem? (i := 3) rfl)) rfl
theorem mw_107 : Cond.code yX1_leadersOf cX1_leadersOf 5 (some Jvm.ClassFile.FieldType.long) ∈ GW := gw_mem (inT2 _ (List.mem_of_getElem? (i := 103) rfl)) rfl
theorem mw_108 : Cond.methodLink RX1 40 yX1_leadersOf ∈ GW := gw_mem (inT2 _ (List.mem_of_getElem? (i := 101) rfl)) rfl
theorem mw_109 : Cond.static yX1_leadersOf ∈ GW := gw_mem (inT2 _ (List.mem_of_getElem? (i := 102) rfl)) rfl
theorem mw_110 : Cond.code yX1_cut cX1_cut 5 (none : Option FieldType) ∈ GW := gw_mem (inT2 _ (List.mem_of_getElem? (i := 116) rfl)) rfl
theorem mw_111 : Cond.methodLink RX1 44 yX1_cut ∈ GW := gw_mem (inT2 _ (List.mem_of_getElem? (i := 113) rfl)) rfl
theorem mw_112 : Cond.instanceMethod yX1_cut ∈ GW := gw_mem (inT2 _ (List.mem_of_getElem? (i := 115) rfl)) rfl
theorem mw_113 : Cond.selects RX1 yX1_cut yX1_cut ∈ GW := gw_mem (inTp (q := (yX1_cut, 11)) (List.mem_of_getElem? (i := 2) rfl)) rfl
theorem mw_114 : Cond.fieldLink RX1 27 "OrielChart$Flow" "firstEdge" "[I" ∈ GW := gw_mem (inT1 _ (List.mem_of_getElem? (i := 78) rfl)) rfl
theorem mw_115 : Cond.fieldLink RX1 73 "OrielChart$Flow" "reached" "J" ∈ GW := gw_mem (inT1 _ (List.mem_of_getElem? (i := 96) rfl)) rfl
theorem mw_116 : Cond.code yX7_spread cX7_spread 13 (some Jvm.ClassFile.FieldType.long) ∈ GW := gw_mem (inT2 _ (List.mem_of_getElem? (i := 139) rfl)) rfl
theorem mw_117 : Cond.static yX7_spread ∈ GW := gw_mem (inT2 _ (List.mem_of_getElem? (i := 138) rfl)) rfl
theorem mw_118 : Cond.code yX1_leave cX1_leave 5 (none : Option FieldType) ∈ GW := gw_mem (inT2 _ (List.mem_of_getElem? (i := 129) rfl)) rfl
theorem mw_119 : Cond.methodLink RX1 61 yX1_leave ∈ GW := gw_mem (inT2 _ (List.mem_of_getElem? (i := 126) rfl)) rfl
theorem mw_120 : Cond.instanceMethod yX1_leave ∈ GW := gw_mem (inT2 _ (List.mem_of_getElem? (i := 128) rfl)) rfl
theorem mw_121 : Cond.selects RX1 yX1_leave yX1_leave ∈ GW := gw_mem (inTp (q := (yX1_leave, 11)) (List.mem_of_getElem? (i := 3) rfl)) rfl
theorem mw_122 : Cond.methodLink RX1 102 yJ13_bitCount_95d88 ∈ GW := gw_mem (inT3 _ (List.mem_of_getElem? (i := 130) rfl)) rfl
theorem pd_X7_lowest : yX7_lowest.cls ≠ "java/lang/invoke/MethodHandle" ∧ yX7_lowest.cls ≠ "java/lang/invoke/VarHandle" ∧ (parseMethodDescriptor yX7_lowest.desc).map (fun d => d.parameters.length) = some 1 := by decide +kernel
theorem pd_X7_bit : yX7_bit.cls ≠ "java/lang/invoke/MethodHandle" ∧ yX7_bit.cls ≠ "java/lang/invoke/VarHandle" ∧ (parseMethodDescriptor yX7_bit.desc).map (fun d => d.parameters.length) = some 1 := by decide +kernel
theorem pd_X7_at_ : yX7_at_.cls ≠ "java/lang/invoke/MethodHandle" ∧ yX7_at_.cls ≠ "java/lang/invoke/VarHandle" ∧ (parseMethodDescriptor yX7_at_.desc).map (fun d => d.parameters.length) = some 2 := by decide +kernel
theorem pd_X7_at : yX7_at.cls ≠ "java/lang/invoke/MethodHandle" ∧ yX7_at.cls ≠ "java/lang/invoke/VarHandle" ∧ (parseMethodDescriptor yX7_at.desc).map (fun d => d.parameters.length) = some 2 := by decide +kernel
theorem pd_X7_jumps : yX7_jumps.cls ≠ "java/lang/invoke/MethodHandle" ∧ yX7_jumps.cls ≠ "java/lang/invoke/VarHandle" ∧ (parseMethodDescriptor yX7_jumps.desc).map (fun d => d.parameters.length) = some 1 := by decide +kernel
theorem pd_X7_has : yX7_has.cls ≠ "java/lang/invoke/MethodHandle" ∧ yX7_has.cls ≠ "java/lang/invoke/VarHandle" ∧ (parseMethodDescriptor yX7_has.desc).map (fun d => d.parameters.length) = some 2 := by decide +kernel
theorem pd_X7_put : yX7_put.cls ≠ "java/lang/invoke/MethodHandle" ∧ yX7_put.cls ≠ "java/lang/invoke/VarHandle" ∧ (parseMethodDescriptor yX7_put.desc).map (fun d => d.parameters.length) = some 3 := by decide +kernel
theorem pd_X7_put_ : yX7_put_.cls ≠ "java/lang/invoke/MethodHandle" ∧ yX7_put_.cls ≠ "java/lang/invoke/VarHandle" ∧ (parseMethodDescriptor yX7_put_.desc).map (fun d => d.parameters.length) = some 3 := by decide +kernel
theorem pdv_X1_join : yX1_join.cls = RX1 ∧ yX1_join.cls ≠ "java/lang/invoke/MethodHandle" ∧ yX1_join.cls ≠ "java/lang/invoke/VarHandle" ∧ (parseMethodDescriptor yX1_join.desc).map (fun d => d.parameters.length) = some 3 := by decide +kernel
theorem pd_X1_leadersOf : yX1_leadersOf.cls ≠ "java/lang/invoke/MethodHandle" ∧ yX1_leadersOf.cls ≠ "java/lang/invoke/VarHandle" ∧ (parseMethodDescriptor yX1_leadersOf.desc).map (fun d => d.parameters.length) = some 1 := by decide +kernel
theorem pdv_X1_cut : yX1_cut.cls = RX1 ∧ yX1_cut.cls ≠ "java/lang/invoke/MethodHandle" ∧ yX1_cut.cls ≠ "java/lang/invoke/VarHandle" ∧ (parseMethodDescriptor yX1_cut.desc).map (fun d => d.parameters.length) = some 2 := by decide +kernel
theorem pd_X7_spread : yX7_spread.cls ≠ "java/lang/invoke/MethodHandle" ∧ yX7_spread.cls ≠ "java/lang/invoke/VarHandle" ∧ (parseMethodDescriptor yX7_spread.desc).map (fun d => d.parameters.length) = some 3 := by decide +kernel
theorem pdv_X1_leave : yX1_leave.cls = RX1 ∧ yX1_leave.cls ≠ "java/lang/invoke/MethodHandle" ∧ yX1_leave.cls ≠ "java/lang/invoke/VarHandle" ∧ (parseMethodDescriptor yX1_leave.desc).map (fun d => d.parameters.length) = some 2 := by decide +kernel
set_option maxHeartbeats 4000000 in
set_option maxRecDepth 100000 in
theorem c_spread (l : Launch) (D : va_G) (cI cJ : ClassId) (w : va_W) (q0 a : Nat) (f : Nat → Int64) (x y : Int64) (hq : w[q0]? = some (a, .inl (cJ, 40, .inr (.inl f)))) : CT l D (TY cI cJ) yX7_spread (.code yX7_spread cX7_spread 13 (some Jvm.ClassFile.FieldType.long)) 2 0 0 w [.ref a, .long x, .long y] (QL D (TY cI cJ) (fun r u => r = spread f x y ∧ u = w)) := by
  refine ent (by decide) (Nat.le_of_ble_eq_true rfl) ?_
  intro p e s m below meth c ls A hx hb hr hg hown hml hlocks hnm hP hK hD hS hA hN hl
  have hl : lv_has ls 13 [(0, .ref a), (1, .long x), (3, .long y)] := hl
  refine lv_lload_n hx hb dX7_spread_0 rfl (lv_at hl 1 rfl) ?_
  refine lv_lload_n hx hb dX7_spread_1 rfl (lv_at hl 2 rfl) ?_
  refine lv_ldc2 (v := (-1)) hx hb hown (hg _ mw_73) dX7_spread_2 ?_
  refine lv_lxor hx hb dX7_spread_5 ?_
  refine lv_land hx hb dX7_spread_6 ?_
  refine lv_lstore (lv' := [(5, .long (x &&& (y ^^^ (-1)))), (0, .ref a), (1, .long x), (3, .long y)]) hx hb dX7_spread_7 hl (by decide) rfl (fun ls hl => ?_)
  refine lv_lload hx hb dX7_spread_9 (lv_at hl 0 rfl) ?_
  refine lv_lstore (lv' := [(7, .long (x &&& (y ^^^ (-1)))), (5, .long (x &&& (y ^^^ (-1)))), (0, .ref a), (1, .long x), (3, .long y)]) hx hb dX7_spread_11 hl (by decide) rfl (fun ls hl => ?_)
  refine lv_iconst (v := 0) hx hb dX7_spread_13 (by decide) ?_
  refine lv_istore (lv' := [(9, .int 0), (7, .long (x &&& (y ^^^ (-1)))), (5, .long (x &&& (y ^^^ (-1)))), (0, .ref a), (1, .long x), (3, .long y)]) hx hb dX7_spread_14 hl (by decide) rfl (fun ls hl => ?_)
  refine w_loop (σ := Int64 × Int64) (fun (i_1 : Nat) (p_1 : Int64 × Int64) (H : Heap) (locs : List Loc) (ls : Array Slot) => p_1 = (lpW spGo (spStep f y) i_1 ((x &&& (y ^^^ (-1))), (x &&& (y ^^^ (-1))))) ∧ va_P D vwCl w H ∧ va_D A w ∧ va_S A s.heap H locs ∧ lv_has ls 13 [(0, .ref a), (1, .long x), (3, .long y), (5, .long p_1.1), (7, .long p_1.2), (9, .int (nI i_1))]) (41) (fun p_1 H locs ls hI => ?_) (fun i_1 p_1 H locs ls hi_1 hI ih_1 => ?_) 0 ((x &&& (y ^^^ (-1))), (x &&& (y ^^^ (-1)))) (Nat.zero_le _) ⟨rfl, hP, hD, hS, (by rw [nI_0]; exact lv_sub hl [3, 4, 5, 2, 1, 0] rfl)⟩
  · obtain ⟨h_1, hP, hD, hS, hl⟩ := hI
    have h_1 := h_1.symm
    subst h_1
    have hP : va_P D vwCl w H := hP
    have hD : va_D A w := hD
    have hl : lv_has ls 13 [(0, .ref a), (1, .long x), (3, .long y), (5, .long ((lpW spGo (spStep f y) (41) ((x &&& (y ^^^ (-1))), (x &&& (y ^^^ (-1))))).1)), (7, .long ((lpW spGo (spStep f y) (41) ((x &&& (y ^^^ (-1))), (x &&& (y ^^^ (-1))))).2)), (9, .int (nI 41))] := hl
    refine lv_iload hx hb dX7_spread_16 (lv_at hl 5 rfl) ?_
    refine lv_bipush (v := 40) hx hb dX7_spread_18 (by decide) ?_
    refine lv_icmp_gt (tgt := 92) hx hb dX7_spread_20 (by decide) (fun _ => ?_) (fun c_20 => absurd (by decide) c_20)
    refine lv_lload hx hb dX7_spread_92 (lv_at hl 3 rfl) ?_
    exact W.lret (v := ((lpW spGo (spStep f y) (41) ((x &&& (y ^^^ (-1))), (x &&& (y ^^^ (-1))))).1)) hx hb hr (fun t ht hW => ⟨⟨((lpW spGo (spStep f y) (41) ((x &&& (y ^^^ (-1))), (x &&& (y ^^^ (-1))))).1), w, rfl, ⟨(show ((lpW spGo (spStep f y) (41) ((x &&& (y ^^^ (-1))), (x &&& (y ^^^ (-1))))).1) = spread f x y from (by rfl)), rfl⟩, ⟨by rw [ht]; exact hP, va_K.moved hW.alike hK, hD⟩⟩, hS.F ht⟩) hS.2.2 dX7_spread_94
  · obtain ⟨h_1, hP, hD, hS, hl⟩ := hI
    have hP : va_P D vwCl w H := hP
    have hD : va_D A w := hD
    have hl : lv_has ls 13 [(0, .ref a), (1, .long x), (3, .long y), (5, .long p_1.1), (7, .long p_1.2), (9, .int (nI i_1))] := hl
    refine lv_iload hx hb dX7_spread_16 (lv_at hl 5 rfl) ?_
    refine lv_bipush (v := 40) hx hb dX7_spread_18 (by decide) ?_
    refine lv_icmp_gt (tgt := 92) hx hb dX7_spread_20 (by decide) (fun c_20 => absurd c_20 (nI_nlt (Nat.le_of_lt_succ hi_1) (by decide))) (fun _ => ?_)
    refine lv_lload hx hb dX7_spread_23 (lv_at hl 4 rfl) ?_
    refine lv_lconst (v := 0) hx hb dX7_spread_25 (by decide) ?_
    refine W.lcmp hx hb dX7_spread_26 ?_
    refine lv_if_eq (tgt := 92) hx hb dX7_spread_27 (by decide) (fun c_27 => ?_) (fun c_27 => ?_)
    · have c_27 : p_1.2 = 0 := lcmp_0 c_27
      have h_1 : p_1 = (lpW spGo (spStep f y) (41) ((x &&& (y ^^^ (-1))), (x &&& (y ^^^ (-1))))) := lpW_stop h_1 (by first | (simp only [spGo, if_pos c_27, decide_eq_true c_27, decide_eq_false (not_not_intro c_27), gi_sl, gi_sA, gi_sB, gi_si_s, gi_si_n, gl_si, gl_sA, gl_sB, gl_sl_s, gl_sl_n, gA_si, gA_sl, gA_sB, gA_sA_s, gA_sA_n, gB_si, gB_sl, gB_sA, gB_sB_s, gB_sB_n, Nat.reduceBEq, if_true, if_false, eq_self, Bool.false_eq_true, reduceCtorEq, not_true_eq_false, not_false_eq_true, decide_true, decide_false, cond_true, cond_false, Bool.true_and, Bool.false_and, Bool.and_true, Bool.and_false, Bool.true_or, Bool.false_or, Bool.or_true, Bool.or_false, b2i_tt, b2i_ff]; done) | (simp only [spGo, if_pos c_27, decide_eq_true c_27, decide_eq_false (not_not_intro c_27), gi_sl, gi_sA, gi_sB, gi_si_s, gi_si_n, gl_si, gl_sA, gl_sB, gl_sl_s, gl_sl_n, gA_si, gA_sl, gA_sB, gA_sA_s, gA_sA_n, gB_si, gB_sl, gB_sA, gB_sB_s, gB_sB_n, Nat.reduceBEq, if_true, if_false, eq_self, Bool.false_eq_true, reduceCtorEq, not_true_eq_false, not_false_eq_true, decide_true, decide_false, cond_true, cond_false, Bool.true_and, Bool.false_and, Bool.and_true, Bool.and_false, Bool.true_or, Bool.false_or, Bool.or_true, Bool.or_false, b2i_tt, b2i_ff]; rfl) | (simp [spGo, c_27, gi_sl, gi_sA, gi_sB, gi_si_s, gi_si_n, gl_si, gl_sA, gl_sB, gl_sl_s, gl_sl_n, gA_si, gA_sl, gA_sB, gA_sA_s, gA_sA_n, gB_si, gB_sl, gB_sA, gB_sB_s, gB_sB_n, Nat.reduceBEq]; done)) (Nat.le_of_lt hi_1)
      have h_1 := h_1.symm
      subst h_1
      have hP : va_P D vwCl w H := hP
      have hD : va_D A w := hD
      have hl : lv_has ls 13 [(0, .ref a), (1, .long x), (3, .long y), (5, .long ((lpW spGo (spStep f y) (41) ((x &&& (y ^^^ (-1))), (x &&& (y ^^^ (-1))))).1)), (7, .long ((lpW spGo (spStep f y) (41) ((x &&& (y ^^^ (-1))), (x &&& (y ^^^ (-1))))).2)), (9, .int (nI i_1))] := hl
      refine lv_lload hx hb dX7_spread_92 (lv_at hl 3 rfl) ?_
      exact W.lret (v := ((lpW spGo (spStep f y) (41) ((x &&& (y ^^^ (-1))), (x &&& (y ^^^ (-1))))).1)) hx hb hr (fun t ht hW => ⟨⟨((lpW spGo (spStep f y) (41) ((x &&& (y ^^^ (-1))), (x &&& (y ^^^ (-1))))).1), w, rfl, ⟨(show ((lpW spGo (spStep f y) (41) ((x &&& (y ^^^ (-1))), (x &&& (y ^^^ (-1))))).1) = spread f x y from (by rfl)), rfl⟩, ⟨by rw [ht]; exact hP, va_K.moved hW.alike hK, hD⟩⟩, hS.F ht⟩) hS.2.2 dX7_spread_94
    · have c_27 : ¬ p_1.2 = 0 := lcmp_1 c_27
      refine lv_lload hx hb dX7_spread_30 (lv_at hl 4 rfl) ?_
      refine kI (rS hx hb hml hown hg hN hK hP hD (c_lowest l D cI cJ w p_1.2) mw_74 mw_75 mw_76 mw_77 pd_X7_lowest ⟨Nat.le_of_ble_eq_true rfl, Nat.le_of_ble_eq_true rfl⟩ rfl hl.1 rfl (Nat.le_of_ble_eq_true rfl) dX7_spread_32 ⟨Nat.le_of_ble_eq_true rfl, Nat.le_of_ble_eq_true rfl⟩) hD hS hA (fun r_2 u_2 H locs hp hP hD hS => ?_)
      obtain ⟨er, eu⟩ := hp
      obtain rfl := er.symm
      obtain rfl := eu.symm
      refine lv_istore (lv' := [(10, .int (lowest p_1.2)), (0, .ref a), (1, .long x), (3, .long y), (5, .long p_1.1), (7, .long p_1.2), (9, .int (nI i_1))]) hx hb dX7_spread_35 hl (by decide) rfl (fun ls hl => ?_)
      refine lv_lload hx hb dX7_spread_37 (lv_at hl 5 rfl) ?_
      refine lv_iload hx hb dX7_spread_39 (lv_at hl 0 rfl) ?_
      refine kL (rS hx hb hml hown hg hN hK hP hD (c_bit l D cI cJ w (lowest p_1.2)) mw_78 mw_79 mw_80 mw_77 pd_X7_bit ⟨Nat.le_of_ble_eq_true rfl, Nat.le_of_ble_eq_true rfl⟩ rfl hl.1 rfl (Nat.le_of_ble_eq_true rfl) dX7_spread_41 ⟨Nat.le_of_ble_eq_true rfl, Nat.le_of_ble_eq_true rfl⟩) hD hS hA (fun r_3 u_3 H locs hp hP hD hS => ?_)
      obtain ⟨er, eu⟩ := hp
      obtain rfl := er.symm
      obtain rfl := eu.symm
      refine lv_ldc2 (v := (-1)) hx hb hown (hg _ mw_73) dX7_spread_44 ?_
      refine lv_lxor hx hb dX7_spread_47 ?_
      refine lv_land hx hb dX7_spread_48 ?_
      refine lv_lstore (lv' := [(7, .long (p_1.2 &&& ((bitL (lowest p_1.2)) ^^^ (-1)))), (10, .int (lowest p_1.2)), (0, .ref a), (1, .long x), (3, .long y), (5, .long p_1.1), (9, .int (nI i_1))]) hx hb dX7_spread_49 hl (by decide) rfl (fun ls hl => ?_)
      refine lv_aload_n hx hb dX7_spread_51 rfl (lv_at hl 2 rfl) ?_
      refine lv_iload hx hb dX7_spread_52 (lv_at hl 1 rfl) ?_
      refine kL (rS hx hb hml hown hg hN hK hP hD (c_atL l D cI cJ w q0 a 40 f (lowest p_1.2) hq (by decide)) mw_81 mw_82 mw_83 mw_77 pd_X7_at_ ⟨Nat.le_of_ble_eq_true rfl, Nat.le_of_ble_eq_true rfl⟩ rfl hl.1 rfl (Nat.le_of_ble_eq_true rfl) dX7_spread_54 ⟨Nat.le_of_ble_eq_true rfl, Nat.le_of_ble_eq_true rfl⟩) hD hS hA (fun r_4 u_4 H locs hp hP hD hS => ?_)
      obtain ⟨er, eu⟩ := hp
      obtain rfl := er.symm
      obtain rfl := eu.symm
      refine lv_lload hx hb dX7_spread_57 (lv_at hl 5 rfl) ?_
      refine lv_ldc2 (v := (-1)) hx hb hown (hg _ mw_73) dX7_spread_59 ?_
      refine lv_lxor hx hb dX7_spread_62 ?_
      refine lv_land hx hb dX7_spread_63 ?_
      refine lv_lload_n hx hb dX7_spread_64 rfl (lv_at hl 4 rfl) ?_
      refine lv_ldc2 (v := (-1)) hx hb hown (hg _ mw_73) dX7_spread_65 ?_
      refine lv_lxor hx hb dX7_spread_68 ?_
      refine lv_land hx hb dX7_spread_69 ?_
      refine lv_lstore (lv' := [(11, .long (((rdL f 40 (lowest p_1.2)) &&& (p_1.1 ^^^ (-1))) &&& (y ^^^ (-1)))), (7, .long (p_1.2 &&& ((bitL (lowest p_1.2)) ^^^ (-1)))), (10, .int (lowest p_1.2)), (0, .ref a), (1, .long x), (3, .long y), (5, .long p_1.1), (9, .int (nI i_1))]) hx hb dX7_spread_70 hl (by decide) rfl (fun ls hl => ?_)
      refine lv_lload hx hb dX7_spread_72 (lv_at hl 6 rfl) ?_
      refine lv_lload hx hb dX7_spread_74 (lv_at hl 0 rfl) ?_
      refine lv_lor hx hb dX7_spread_76 ?_
      refine lv_lstore (lv' := [(5, .long (p_1.1 ||| (((rdL f 40 (lowest p_1.2)) &&& (p_1.1 ^^^ (-1))) &&& (y ^^^ (-1))))), (11, .long (((rdL f 40 (lowest p_1.2)) &&& (p_1.1 ^^^ (-1))) &&& (y ^^^ (-1)))), (7, .long (p_1.2 &&& ((bitL (lowest p_1.2)) ^^^ (-1)))), (10, .int (lowest p_1.2)), (0, .ref a), (1, .long x), (3, .long y), (9, .int (nI i_1))]) hx hb dX7_spread_77 hl (by decide) rfl (fun ls hl => ?_)
      refine lv_lload hx hb dX7_spread_79 (lv_at hl 2 rfl) ?_
      refine lv_lload hx hb dX7_spread_81 (lv_at hl 1 rfl) ?_
      refine lv_lor hx hb dX7_spread_83 ?_
      refine lv_lstore (lv' := [(7, .long ((p_1.2 &&& ((bitL (lowest p_1.2)) ^^^ (-1))) ||| (((rdL f 40 (lowest p_1.2)) &&& (p_1.1 ^^^ (-1))) &&& (y ^^^ (-1))))), (5, .long (p_1.1 ||| (((rdL f 40 (lowest p_1.2)) &&& (p_1.1 ^^^ (-1))) &&& (y ^^^ (-1))))), (11, .long (((rdL f 40 (lowest p_1.2)) &&& (p_1.1 ^^^ (-1))) &&& (y ^^^ (-1)))), (10, .int (lowest p_1.2)), (0, .ref a), (1, .long x), (3, .long y), (9, .int (nI i_1))]) hx hb dX7_spread_84 hl (by decide) rfl (fun ls hl => ?_)
      refine lv_iinc (v := (nI (i_1 + 1))) (lv' := [(9, .int (nI (i_1 + 1))), (7, .long ((p_1.2 &&& ((bitL (lowest p_1.2)) ^^^ (-1))) ||| (((rdL f 40 (lowest p_1.2)) &&& (p_1.1 ^^^ (-1))) &&& (y ^^^ (-1))))), (5, .long (p_1.1 ||| (((rdL f 40 (lowest p_1.2)) &&& (p_1.1 ^^^ (-1))) &&& (y ^^^ (-1))))), (11, .long (((rdL f 40 (lowest p_1.2)) &&& (p_1.1 ^^^ (-1))) &&& (y ^^^ (-1)))), (10, .int (lowest p_1.2)), (0, .ref a), (1, .long x), (3, .long y)]) hx hb dX7_spread_86 hl (k := 7) rfl (nI_1 i_1) (by decide) rfl (fun ls hl => ?_)
      refine lv_goto (tgt := 16) hx hb dX7_spread_89 (by decide) ?_
      exact ih_1 ((p_1.1 ||| (((rdL f 40 (lowest p_1.2)) &&& (p_1.1 ^^^ (-1))) &&& (y ^^^ (-1)))), ((p_1.2 &&& ((bitL (lowest p_1.2)) ^^^ (-1))) ||| (((rdL f 40 (lowest p_1.2)) &&& (p_1.1 ^^^ (-1))) &&& (y ^^^ (-1))))) H locs ls ⟨((show ((p_1.1 ||| (((rdL f 40 (lowest p_1.2)) &&& (p_1.1 ^^^ (-1))) &&& (y ^^^ (-1)))), ((p_1.2 &&& ((bitL (lowest p_1.2)) ^^^ (-1))) ||| (((rdL f 40 (lowest p_1.2)) &&& (p_1.1 ^^^ (-1))) &&& (y ^^^ (-1))))) = (spStep f y) p_1 from (by first | (simp only [spStep, if_neg c_27, decide_eq_false c_27, decide_eq_true c_27, if_pos c_27, gi_sl, gi_sA, gi_sB, gi_si_s, gi_si_n, gl_si, gl_sA, gl_sB, gl_sl_s, gl_sl_n, gA_si, gA_sl, gA_sB, gA_sA_s, gA_sA_n, gB_si, gB_sl, gB_sA, gB_sB_s, gB_sB_n, Nat.reduceBEq, if_true, if_false, eq_self, Bool.false_eq_true, reduceCtorEq, not_true_eq_false, not_false_eq_true, decide_true, decide_false, cond_true, cond_false, Bool.true_and, Bool.false_and, Bool.and_true, Bool.and_false, Bool.true_or, Bool.false_or, Bool.or_true, Bool.or_false, b2i_tt, b2i_ff]; done) | (simp only [spStep, if_neg c_27, decide_eq_false c_27, decide_eq_true c_27, if_pos c_27, gi_sl, gi_sA, gi_sB, gi_si_s, gi_si_n, gl_si, gl_sA, gl_sB, gl_sl_s, gl_sl_n, gA_si, gA_sl, gA_sB, gA_sA_s, gA_sA_n, gB_si, gB_sl, gB_sA, gB_sB_s, gB_sB_n, Nat.reduceBEq, if_true, if_false, eq_self, Bool.false_eq_true, reduceCtorEq, not_true_eq_false, not_false_eq_true, decide_true, decide_false, cond_true, cond_false, Bool.true_and, Bool.false_and, Bool.and_true, Bool.and_false, Bool.true_or, Bool.false_or, Bool.or_true, Bool.or_false, b2i_tt, b2i_ff]; rfl) | (simp [spStep, c_27, gi_sl, gi_sA, gi_sB, gi_si_s, gi_si_n, gl_si, gl_sA, gl_sB, gl_sl_s, gl_sl_n, gA_si, gA_sl, gA_sB, gA_sA_s, gA_sA_n, gB_si, gB_sl, gB_sA, gB_sB_s, gB_sB_n, Nat.reduceBEq]; done))).trans (lpW_go h_1 (by first | (simp only [spGo, if_neg c_27, decide_eq_false c_27, decide_eq_true c_27, if_pos c_27, gi_sl, gi_sA, gi_sB, gi_si_s, gi_si_n, gl_si, gl_sA, gl_sB, gl_sl_s, gl_sl_n, gA_si, gA_sl, gA_sB, gA_sA_s, gA_sA_n, gB_si, gB_sl, gB_sA, gB_sB_s, gB_sB_n, Nat.reduceBEq, if_true, if_false, eq_self, Bool.false_eq_true, reduceCtorEq, not_true_eq_false, not_false_eq_true, decide_true, decide_false, cond_true, cond_false, Bool.true_and, Bool.false_and, Bool.and_true, Bool.and_false, Bool.true_or, Bool.false_or, Bool.or_true, Bool.or_false, b2i_tt, b2i_ff]; done) | (simp only [spGo, if_neg c_27, decide_eq_false c_27, decide_eq_true c_27, if_pos c_27, gi_sl, gi_sA, gi_sB, gi_si_s, gi_si_n, gl_si, gl_sA, gl_sB, gl_sl_s, gl_sl_n, gA_si, gA_sl, gA_sB, gA_sA_s, gA_sA_n, gB_si, gB_sl, gB_sA, gB_sB_s, gB_sB_n, Nat.reduceBEq, if_true, if_false, eq_self, Bool.false_eq_true, reduceCtorEq, not_true_eq_false, not_false_eq_true, decide_true, decide_false, cond_true, cond_false, Bool.true_and, Bool.false_and, Bool.and_true, Bool.and_false, Bool.true_or, Bool.false_or, Bool.or_true, Bool.or_false, b2i_tt, b2i_ff]; rfl) | (simp [spGo, c_27, gi_sl, gi_sA, gi_sB, gi_si_s, gi_si_n, gl_si, gl_sA, gl_sB, gl_sl_s, gl_sl_n, gA_si, gA_sl, gA_sB, gA_sA_s, gA_sA_n, gB_si, gB_sl, gB_sA, gB_sB_s, gB_sB_n, Nat.reduceBEq]; done)))), hP, hD, hS, lv_sub hl [5, 6, 7, 2, 1, 0] rfl⟩
set_option maxHeartbeats 4000000 in
set_option maxRecDepth 100000 in
theorem c_leadersOf (l : Launch) (D : va_G) (cI cJ : ClassId) (ad : Nat → Nat) (co fl ra li re wa pi : Ob) : CT l D (TY cI cJ) yX1_leadersOf (.code yX1_leadersOf cX1_leadersOf 5 (some Jvm.ClassFile.FieldType.long)) 1 0 0 (XW ad cI cJ co fl ra li re wa pi) [.ref (ad 1)] (QL D (TY cI cJ) (fun r u => r = (leaders co) ∧ u = (XW ad cI cJ co fl ra li re wa pi))) := by
  refine ent (by decide) (Nat.le_of_ble_eq_true rfl) ?_
  intro p e s m below meth c ls A hx hb hr hg hown hml hlocks hnm hP hK hD hS hA hN hl
  have hl : lv_has ls 5 [(0, .ref (ad 1))] := hl
  refine lv_lconst (v := 1) hx hb dX1_leadersOf_0 (by decide) ?_
  refine lv_lstore_n (lv' := [(1, .long 1), (0, .ref (ad 1))]) hx hb dX1_leadersOf_1 rfl hl (by decide) rfl (fun ls hl => ?_)
  refine lv_iconst (v := 0) hx hb dX1_leadersOf_2 (by decide) ?_
  refine lv_istore_n (lv' := [(3, .int 0), (1, .long 1), (0, .ref (ad 1))]) hx hb dX1_leadersOf_3 rfl hl (by decide) rfl (fun ls hl => ?_)
  refine w_loop (σ := Int64) (fun (i_1 : Nat) (p_1 : Int64) (H : Heap) (locs : List Loc) (ls : Array Slot) => p_1 = (lp (leadStep co) i_1 1) ∧ va_P D vwCl (XW ad cI cJ co fl ra li re wa pi) H ∧ va_D A (XW ad cI cJ co fl ra li re wa pi) ∧ va_S A s.heap H locs ∧ lv_has ls 5 [(0, .ref (ad 1)), (1, .long p_1), (3, .int (nI i_1))]) (nN (gi co 0)) (fun p_1 H locs ls hI => ?_) (fun i_1 p_1 H locs ls hi_1 hI ih_1 => ?_) 0 1 (Nat.zero_le _) ⟨rfl, hP, hD, hS, (by rw [nI_0]; exact lv_sub hl [2, 1, 0] rfl)⟩
  · obtain ⟨h_1, hP, hD, hS, hl⟩ := hI
    have h_1 := h_1.symm
    subst h_1
    have hP : va_P D vwCl (XW ad cI cJ co fl ra li re wa pi) H := hP
    have hD : va_D A (XW ad cI cJ co fl ra li re wa pi) := hD
    have hl : lv_has ls 5 [(0, .ref (ad 1)), (1, .long ((lp (leadStep co) (nN (gi co 0)) 1))), (3, .int (nI ((nN (gi co 0)))))] := hl
    refine lv_iload_n hx hb dX1_leadersOf_4 rfl (lv_at hl 2 rfl) ?_
    refine lv_aload_n hx hb dX1_leadersOf_5 rfl (lv_at hl 0 rfl) ?_
    refine va_getN (D := D) (ci := 0) (v := .int (gi co 0)) (C := RX0) (T := TX0) (N := 5) hx hb hg inGX0 hown hK hP 1 rfl rfl 4 (by decide) (hN.use nw_9) (fun _ h9 => h9) rfl dX1_leadersOf_6 ?_
    refine lv_icmp_ge (tgt := 64) hx hb dX1_leadersOf_9 (by decide) (fun _ => ?_) (fun c_9 => absurd (lp_out _) c_9)
    refine lv_lload_n hx hb dX1_leadersOf_64 rfl (lv_at hl 1 rfl) ?_
    exact W.lret (v := ((lp (leadStep co) (nN (gi co 0)) 1))) hx hb hr (fun t ht hW => ⟨⟨((lp (leadStep co) (nN (gi co 0)) 1)), (XW ad cI cJ co fl ra li re wa pi), rfl, ⟨(show (((lp (leadStep co) (nN (gi co 0)) 1)) : Int64) = (leaders co) from (by first | with_reducible rfl | (simp only [leaders, gi_sl, gi_sA, gi_sB, gi_si_s, gi_si_n, gl_si, gl_sA, gl_sB, gl_sl_s, gl_sl_n, gA_si, gA_sl, gA_sB, gA_sA_s, gA_sA_n, gB_si, gB_sl, gB_sA, gB_sB_s, gB_sB_n, Nat.reduceBEq, if_true, if_false, eq_self, Bool.false_eq_true, reduceCtorEq, not_true_eq_false, not_false_eq_true, decide_true, decide_false, cond_true, cond_false, Bool.true_and, Bool.false_and, Bool.and_true, Bool.and_false, Bool.true_or, Bool.false_or, Bool.or_true, Bool.or_false, b2i_tt, b2i_ff]; done) | rfl)), xw_eq rfl rfl rfl rfl rfl rfl rfl⟩, ⟨by rw [ht]; exact hP, va_K.moved hW.alike hK, hD⟩⟩, hS.F ht⟩) hS.2.2 dX1_leadersOf_65
  · obtain ⟨h_1, hP, hD, hS, hl⟩ := hI
    have hP : va_P D vwCl (XW ad cI cJ co fl ra li re wa pi) H := hP
    have hD : va_D A (XW ad cI cJ co fl ra li re wa pi) := hD
    have hl : lv_has ls 5 [(0, .ref (ad 1)), (1, .long p_1), (3, .int (nI i_1))] := hl
    refine lv_iload_n hx hb dX1_leadersOf_4 rfl (lv_at hl 2 rfl) ?_
    refine lv_aload_n hx hb dX1_leadersOf_5 rfl (lv_at hl 0 rfl) ?_
    refine va_getN (D := D) (ci := 0) (v := .int (gi co 0)) (C := RX0) (T := TX0) (N := 5) hx hb hg inGX0 hown hK hP 1 rfl rfl 4 (by decide) (hN.use nw_9) (fun _ h9 => h9) rfl dX1_leadersOf_6 ?_
    refine lv_icmp_ge (tgt := 64) hx hb dX1_leadersOf_9 (by decide) (fun c_9 => absurd c_9 (lp_in hi_1)) (fun _ => ?_)
    refine lv_aload_n hx hb dX1_leadersOf_12 rfl (lv_at hl 0 rfl) ?_
    refine va_getN (D := D) (ci := 0) (v := .ref (ad 8)) (C := RX0) (T := TX0) (N := 5) hx hb hg inGX0 hown hK hP 1 rfl rfl 0 (by decide) (hN.use nw_1) (fun _ h9 => h9) rfl dX1_leadersOf_13 ?_
    refine lv_iload_n hx hb dX1_leadersOf_16 rfl (lv_at hl 2 rfl) ?_
    refine kI (rSN hx hb hml hown hg hN hK hP hD (c_at l D cI cJ (XW ad cI cJ co fl ra li re wa pi) 8 (ad 8) 40 (gA co 0) (nI i_1) rfl (by decide)) mw_84 nw_65 mw_85 mw_77 pd_X7_at ⟨Nat.le_of_ble_eq_true rfl, Nat.le_of_ble_eq_true rfl⟩ rfl hl.1 rfl (Nat.le_of_ble_eq_true rfl) dX1_leadersOf_17 ⟨Nat.le_of_ble_eq_true rfl, Nat.le_of_ble_eq_true rfl⟩) hD hS hA (fun r_2 u_2 H locs hp hP hD hS => ?_)
    obtain ⟨er, eu⟩ := hp
    obtain rfl := er.symm
    obtain rfl := eu.symm
    refine lv_istore (lv' := [(4, .int (rd (gA co 0) 40 (nI i_1))), (0, .ref (ad 1)), (1, .long p_1), (3, .int (nI i_1))]) hx hb dX1_leadersOf_20 hl (by decide) rfl (fun ls hl => ?_)
    refine lv_iload hx hb dX1_leadersOf_22 (lv_at hl 0 rfl) ?_
    refine lv_if_eq (tgt := 36) hx hb dX1_leadersOf_24 (by decide) (fun c_24 => ?_) (fun c_24 => ?_)
    · refine lv_iload hx hb dX1_leadersOf_36 (lv_at hl 0 rfl) ?_
      refine kI (rSN hx hb hml hown hg hN hK hP hD (c_jumps l D cI cJ (XW ad cI cJ co fl ra li re wa pi) (rd (gA co 0) 40 (nI i_1))) mw_86 nw_67 mw_87 mw_77 pd_X7_jumps ⟨Nat.le_of_ble_eq_true rfl, Nat.le_of_ble_eq_true rfl⟩ rfl hl.1 rfl (Nat.le_of_ble_eq_true rfl) dX1_leadersOf_38 ⟨Nat.le_of_ble_eq_true rfl, Nat.le_of_ble_eq_true rfl⟩) hD hS hA (fun r_3 u_3 H locs hp hP hD hS => ?_)
      obtain ⟨er, eu⟩ := hp
      obtain rfl := er.symm
      obtain rfl := eu.symm
      refine lv_if_eq (tgt := 58) hx hb dX1_leadersOf_41 (by decide) (fun c_41 => ?_) (fun c_41 => ?_)
      · have c_41 : ¬ (jmp (rd (gA co 0) 40 (nI i_1))) = true := b2i_0 c_41
        refine lv_iinc (v := (nI (i_1 + 1))) (lv' := [(3, .int (nI (i_1 + 1))), (4, .int (rd (gA co 0) 40 (nI i_1))), (0, .ref (ad 1)), (1, .long p_1)]) hx hb dX1_leadersOf_58 hl (k := 3) rfl (nI_1 i_1) (by decide) rfl (fun ls hl => ?_)
        refine lv_goto (tgt := 4) hx hb dX1_leadersOf_61 (by decide) ?_
        exact ih_1 p_1 H locs ls ⟨((show p_1 = (leadStep co) i_1 p_1 from (by first | (simp only [leadStep, leadA, if_pos c_24, decide_eq_true c_24, decide_eq_false (not_not_intro c_24), if_neg c_41, bf_of c_41, gi_sl, gi_sA, gi_sB, gi_si_s, gi_si_n, gl_si, gl_sA, gl_sB, gl_sl_s, gl_sl_n, gA_si, gA_sl, gA_sB, gA_sA_s, gA_sA_n, gB_si, gB_sl, gB_sA, gB_sB_s, gB_sB_n, Nat.reduceBEq, if_true, if_false, eq_self, Bool.false_eq_true, reduceCtorEq, not_true_eq_false, not_false_eq_true, decide_true, decide_false, cond_true, cond_false, Bool.true_and, Bool.false_and, Bool.and_true, Bool.and_false, Bool.true_or, Bool.false_or, Bool.or_true, Bool.or_false, b2i_tt, b2i_ff]; done) | (simp only [leadStep, leadA, if_pos c_24, decide_eq_true c_24, decide_eq_false (not_not_intro c_24), if_neg c_41, bf_of c_41, gi_sl, gi_sA, gi_sB, gi_si_s, gi_si_n, gl_si, gl_sA, gl_sB, gl_sl_s, gl_sl_n, gA_si, gA_sl, gA_sB, gA_sA_s, gA_sA_n, gB_si, gB_sl, gB_sA, gB_sB_s, gB_sB_n, Nat.reduceBEq, if_true, if_false, eq_self, Bool.false_eq_true, reduceCtorEq, not_true_eq_false, not_false_eq_true, decide_true, decide_false, cond_true, cond_false, Bool.true_and, Bool.false_and, Bool.and_true, Bool.and_false, Bool.true_or, Bool.false_or, Bool.or_true, Bool.or_false, b2i_tt, b2i_ff]; rfl) | (simp [leadStep, leadA, c_24, c_41, gi_sl, gi_sA, gi_sB, gi_si_s, gi_si_n, gl_si, gl_sA, gl_sB, gl_sl_s, gl_sl_n, gA_si, gA_sl, gA_sB, gA_sA_s, gA_sA_n, gB_si, gB_sl, gB_sA, gB_sB_s, gB_sB_n, Nat.reduceBEq]; done))).trans (lp_go h_1)), hP, hD, hS, lv_sub hl [2, 3, 0] rfl⟩
      · have c_41 : (jmp (rd (gA co 0) 40 (nI i_1))) = true := b2i_1 c_41
        refine lv_lload_n hx hb dX1_leadersOf_44 rfl (lv_at hl 2 rfl) ?_
        refine lv_aload_n hx hb dX1_leadersOf_45 rfl (lv_at hl 1 rfl) ?_
        refine va_getN (D := D) (ci := 0) (v := .ref (ad 9)) (C := RX0) (T := TX0) (N := 5) hx hb hg inGX0 hown hK hP 1 rfl rfl 1 (by decide) (hN.use nw_3) (fun _ h9 => h9) rfl dX1_leadersOf_46 ?_
        refine lv_iload_n hx hb dX1_leadersOf_49 rfl (lv_at hl 3 rfl) ?_
        refine kI (rSN hx hb hml hown hg hN hK hP hD (c_at l D cI cJ (XW ad cI cJ co fl ra li re wa pi) 9 (ad 9) 40 (gA co 1) (nI i_1) rfl (by decide)) mw_84 nw_65 mw_85 mw_77 pd_X7_at ⟨Nat.le_of_ble_eq_true rfl, Nat.le_of_ble_eq_true rfl⟩ rfl hl.1 rfl (Nat.le_of_ble_eq_true rfl) dX1_leadersOf_50 ⟨Nat.le_of_ble_eq_true rfl, Nat.le_of_ble_eq_true rfl⟩) hD hS hA (fun r_4 u_4 H locs hp hP hD hS => ?_)
        obtain ⟨er, eu⟩ := hp
        obtain rfl := er.symm
        obtain rfl := eu.symm
        refine kL (rSN hx hb hml hown hg hN hK hP hD (c_bit l D cI cJ (XW ad cI cJ co fl ra li re wa pi) (rd (gA co 1) 40 (nI i_1))) mw_78 nw_66 mw_80 mw_77 pd_X7_bit ⟨Nat.le_of_ble_eq_true rfl, Nat.le_of_ble_eq_true rfl⟩ rfl hl.1 rfl (Nat.le_of_ble_eq_true rfl) dX1_leadersOf_53 ⟨Nat.le_of_ble_eq_true rfl, Nat.le_of_ble_eq_true rfl⟩) hD hS hA (fun r_5 u_5 H locs hp hP hD hS => ?_)
        obtain ⟨er, eu⟩ := hp
        obtain rfl := er.symm
        obtain rfl := eu.symm
        refine lv_lor hx hb dX1_leadersOf_56 ?_
        refine lv_lstore_n (lv' := [(1, .long (p_1 ||| (bitL (rd (gA co 1) 40 (nI i_1))))), (4, .int (rd (gA co 0) 40 (nI i_1))), (0, .ref (ad 1)), (3, .int (nI i_1))]) hx hb dX1_leadersOf_57 rfl hl (by decide) rfl (fun ls hl => ?_)
        refine lv_iinc (v := (nI (i_1 + 1))) (lv' := [(3, .int (nI (i_1 + 1))), (1, .long (p_1 ||| (bitL (rd (gA co 1) 40 (nI i_1))))), (4, .int (rd (gA co 0) 40 (nI i_1))), (0, .ref (ad 1))]) hx hb dX1_leadersOf_58 hl (k := 3) rfl (nI_1 i_1) (by decide) rfl (fun ls hl => ?_)
        refine lv_goto (tgt := 4) hx hb dX1_leadersOf_61 (by decide) ?_
        exact ih_1 (p_1 ||| (bitL (rd (gA co 1) 40 (nI i_1)))) H locs ls ⟨((show (p_1 ||| (bitL (rd (gA co 1) 40 (nI i_1)))) = (leadStep co) i_1 p_1 from (by first | (simp only [leadStep, leadA, if_pos c_24, decide_eq_true c_24, decide_eq_false (not_not_intro c_24), if_pos c_41, c_41, gi_sl, gi_sA, gi_sB, gi_si_s, gi_si_n, gl_si, gl_sA, gl_sB, gl_sl_s, gl_sl_n, gA_si, gA_sl, gA_sB, gA_sA_s, gA_sA_n, gB_si, gB_sl, gB_sA, gB_sB_s, gB_sB_n, Nat.reduceBEq, if_true, if_false, eq_self, Bool.false_eq_true, reduceCtorEq, not_true_eq_false, not_false_eq_true, decide_true, decide_false, cond_true, cond_false, Bool.true_and, Bool.false_and, Bool.and_true, Bool.and_false, Bool.true_or, Bool.false_or, Bool.or_true, Bool.or_false, b2i_tt, b2i_ff]; done) | (simp only [leadStep, leadA, if_pos c_24, decide_eq_true c_24, decide_eq_false (not_not_intro c_24), if_pos c_41, c_41, gi_sl, gi_sA, gi_sB, gi_si_s, gi_si_n, gl_si, gl_sA, gl_sB, gl_sl_s, gl_sl_n, gA_si, gA_sl, gA_sB, gA_sA_s, gA_sA_n, gB_si, gB_sl, gB_sA, gB_sB_s, gB_sB_n, Nat.reduceBEq, if_true, if_false, eq_self, Bool.false_eq_true, reduceCtorEq, not_true_eq_false, not_false_eq_true, decide_true, decide_false, cond_true, cond_false, Bool.true_and, Bool.false_and, Bool.and_true, Bool.and_false, Bool.true_or, Bool.false_or, Bool.or_true, Bool.or_false, b2i_tt, b2i_ff]; rfl) | (simp [leadStep, leadA, c_24, c_41, gi_sl, gi_sA, gi_sB, gi_si_s, gi_si_n, gl_si, gl_sA, gl_sB, gl_sl_s, gl_sl_n, gA_si, gA_sl, gA_sB, gA_sA_s, gA_sA_n, gB_si, gB_sl, gB_sA, gB_sB_s, gB_sB_n, Nat.reduceBEq]; done))).trans (lp_go h_1)), hP, hD, hS, lv_sub hl [3, 1, 0] rfl⟩
    · refine lv_lload_n hx hb dX1_leadersOf_27 rfl (lv_at hl 2 rfl) ?_
      refine lv_iload_n hx hb dX1_leadersOf_28 rfl (lv_at hl 3 rfl) ?_
      refine lv_iconst (v := 1) hx hb dX1_leadersOf_29 (by decide) ?_
      refine lv_iadd hx hb dX1_leadersOf_30 ?_
      refine kL (rSN hx hb hml hown hg hN hK hP hD (c_bit l D cI cJ (XW ad cI cJ co fl ra li re wa pi) ((nI i_1) + 1)) mw_78 nw_66 mw_80 mw_77 pd_X7_bit ⟨Nat.le_of_ble_eq_true rfl, Nat.le_of_ble_eq_true rfl⟩ rfl hl.1 rfl (Nat.le_of_ble_eq_true rfl) dX1_leadersOf_31 ⟨Nat.le_of_ble_eq_true rfl, Nat.le_of_ble_eq_true rfl⟩) hD hS hA (fun r_6 u_6 H locs hp hP hD hS => ?_)
      obtain ⟨er, eu⟩ := hp
      obtain rfl := er.symm
      obtain rfl := eu.symm
      refine lv_lor hx hb dX1_leadersOf_34 ?_
      refine lv_lstore_n (lv' := [(1, .long (p_1 ||| (bitL ((nI i_1) + 1)))), (4, .int (rd (gA co 0) 40 (nI i_1))), (0, .ref (ad 1)), (3, .int (nI i_1))]) hx hb dX1_leadersOf_35 rfl hl (by decide) rfl (fun ls hl => ?_)
      refine lv_iload hx hb dX1_leadersOf_36 (lv_at hl 1 rfl) ?_
      refine kI (rSN hx hb hml hown hg hN hK hP hD (c_jumps l D cI cJ (XW ad cI cJ co fl ra li re wa pi) (rd (gA co 0) 40 (nI i_1))) mw_86 nw_67 mw_87 mw_77 pd_X7_jumps ⟨Nat.le_of_ble_eq_true rfl, Nat.le_of_ble_eq_true rfl⟩ rfl hl.1 rfl (Nat.le_of_ble_eq_true rfl) dX1_leadersOf_38 ⟨Nat.le_of_ble_eq_true rfl, Nat.le_of_ble_eq_true rfl⟩) hD hS hA (fun r_7 u_7 H locs hp hP hD hS => ?_)
      obtain ⟨er, eu⟩ := hp
      obtain rfl := er.symm
      obtain rfl := eu.symm
      refine lv_if_eq (tgt := 58) hx hb dX1_leadersOf_41 (by decide) (fun c_41 => ?_) (fun c_41 => ?_)
      · have c_41 : ¬ (jmp (rd (gA co 0) 40 (nI i_1))) = true := b2i_0 c_41
        refine lv_iinc (v := (nI (i_1 + 1))) (lv' := [(3, .int (nI (i_1 + 1))), (1, .long (p_1 ||| (bitL ((nI i_1) + 1)))), (4, .int (rd (gA co 0) 40 (nI i_1))), (0, .ref (ad 1))]) hx hb dX1_leadersOf_58 hl (k := 3) rfl (nI_1 i_1) (by decide) rfl (fun ls hl => ?_)
        refine lv_goto (tgt := 4) hx hb dX1_leadersOf_61 (by decide) ?_
        exact ih_1 (p_1 ||| (bitL ((nI i_1) + 1))) H locs ls ⟨((show (p_1 ||| (bitL ((nI i_1) + 1))) = (leadStep co) i_1 p_1 from (by first | (simp only [leadStep, leadA, if_neg c_24, decide_eq_false c_24, decide_eq_true c_24, if_pos c_24, if_neg c_41, bf_of c_41, gi_sl, gi_sA, gi_sB, gi_si_s, gi_si_n, gl_si, gl_sA, gl_sB, gl_sl_s, gl_sl_n, gA_si, gA_sl, gA_sB, gA_sA_s, gA_sA_n, gB_si, gB_sl, gB_sA, gB_sB_s, gB_sB_n, Nat.reduceBEq, if_true, if_false, eq_self, Bool.false_eq_true, reduceCtorEq, not_true_eq_false, not_false_eq_true, decide_true, decide_false, cond_true, cond_false, Bool.true_and, Bool.false_and, Bool.and_true, Bool.and_false, Bool.true_or, Bool.false_or, Bool.or_true, Bool.or_false, b2i_tt, b2i_ff]; done) | (simp only [leadStep, leadA, if_neg c_24, decide_eq_false c_24, decide_eq_true c_24, if_pos c_24, if_neg c_41, bf_of c_41, gi_sl, gi_sA, gi_sB, gi_si_s, gi_si_n, gl_si, gl_sA, gl_sB, gl_sl_s, gl_sl_n, gA_si, gA_sl, gA_sB, gA_sA_s, gA_sA_n, gB_si, gB_sl, gB_sA, gB_sB_s, gB_sB_n, Nat.reduceBEq, if_true, if_false, eq_self, Bool.false_eq_true, reduceCtorEq, not_true_eq_false, not_false_eq_true, decide_true, decide_false, cond_true, cond_false, Bool.true_and, Bool.false_and, Bool.and_true, Bool.and_false, Bool.true_or, Bool.false_or, Bool.or_true, Bool.or_false, b2i_tt, b2i_ff]; rfl) | (simp [leadStep, leadA, c_24, c_41, gi_sl, gi_sA, gi_sB, gi_si_s, gi_si_n, gl_si, gl_sA, gl_sB, gl_sl_s, gl_sl_n, gA_si, gA_sl, gA_sB, gA_sA_s, gA_sA_n, gB_si, gB_sl, gB_sA, gB_sB_s, gB_sB_n, Nat.reduceBEq]; done))).trans (lp_go h_1)), hP, hD, hS, lv_sub hl [3, 1, 0] rfl⟩
      · have c_41 : (jmp (rd (gA co 0) 40 (nI i_1))) = true := b2i_1 c_41
        refine lv_lload_n hx hb dX1_leadersOf_44 rfl (lv_at hl 0 rfl) ?_
        refine lv_aload_n hx hb dX1_leadersOf_45 rfl (lv_at hl 2 rfl) ?_
        refine va_getN (D := D) (ci := 0) (v := .ref (ad 9)) (C := RX0) (T := TX0) (N := 5) hx hb hg inGX0 hown hK hP 1 rfl rfl 1 (by decide) (hN.use nw_3) (fun _ h9 => h9) rfl dX1_leadersOf_46 ?_
        refine lv_iload_n hx hb dX1_leadersOf_49 rfl (lv_at hl 3 rfl) ?_
        refine kI (rSN hx hb hml hown hg hN hK hP hD (c_at l D cI cJ (XW ad cI cJ co fl ra li re wa pi) 9 (ad 9) 40 (gA co 1) (nI i_1) rfl (by decide)) mw_84 nw_65 mw_85 mw_77 pd_X7_at ⟨Nat.le_of_ble_eq_true rfl, Nat.le_of_ble_eq_true rfl⟩ rfl hl.1 rfl (Nat.le_of_ble_eq_true rfl) dX1_leadersOf_50 ⟨Nat.le_of_ble_eq_true rfl, Nat.le_of_ble_eq_true rfl⟩) hD hS hA (fun r_8 u_8 H locs hp hP hD hS => ?_)
        obtain ⟨er, eu⟩ := hp
        obtain rfl := er.symm
        obtain rfl := eu.symm
        refine kL (rSN hx hb hml hown hg hN hK hP hD (c_bit l D cI cJ (XW ad cI cJ co fl ra li re wa pi) (rd (gA co 1) 40 (nI i_1))) mw_78 nw_66 mw_80 mw_77 pd_X7_bit ⟨Nat.le_of_ble_eq_true rfl, Nat.le_of_ble_eq_true rfl⟩ rfl hl.1 rfl (Nat.le_of_ble_eq_true rfl) dX1_leadersOf_53 ⟨Nat.le_of_ble_eq_true rfl, Nat.le_of_ble_eq_true rfl⟩) hD hS hA (fun r_9 u_9 H locs hp hP hD hS => ?_)
        obtain ⟨er, eu⟩ := hp
        obtain rfl := er.symm
        obtain rfl := eu.symm
        refine lv_lor hx hb dX1_leadersOf_56 ?_
        refine lv_lstore_n (lv' := [(1, .long ((p_1 ||| (bitL ((nI i_1) + 1))) ||| (bitL (rd (gA co 1) 40 (nI i_1))))), (4, .int (rd (gA co 0) 40 (nI i_1))), (0, .ref (ad 1)), (3, .int (nI i_1))]) hx hb dX1_leadersOf_57 rfl hl (by decide) rfl (fun ls hl => ?_)
        refine lv_iinc (v := (nI (i_1 + 1))) (lv' := [(3, .int (nI (i_1 + 1))), (1, .long ((p_1 ||| (bitL ((nI i_1) + 1))) ||| (bitL (rd (gA co 1) 40 (nI i_1))))), (4, .int (rd (gA co 0) 40 (nI i_1))), (0, .ref (ad 1))]) hx hb dX1_leadersOf_58 hl (k := 3) rfl (nI_1 i_1) (by decide) rfl (fun ls hl => ?_)
        refine lv_goto (tgt := 4) hx hb dX1_leadersOf_61 (by decide) ?_
        exact ih_1 ((p_1 ||| (bitL ((nI i_1) + 1))) ||| (bitL (rd (gA co 1) 40 (nI i_1)))) H locs ls ⟨((show ((p_1 ||| (bitL ((nI i_1) + 1))) ||| (bitL (rd (gA co 1) 40 (nI i_1)))) = (leadStep co) i_1 p_1 from (by first | (simp only [leadStep, leadA, if_neg c_24, decide_eq_false c_24, decide_eq_true c_24, if_pos c_24, if_pos c_41, c_41, gi_sl, gi_sA, gi_sB, gi_si_s, gi_si_n, gl_si, gl_sA, gl_sB, gl_sl_s, gl_sl_n, gA_si, gA_sl, gA_sB, gA_sA_s, gA_sA_n, gB_si, gB_sl, gB_sA, gB_sB_s, gB_sB_n, Nat.reduceBEq, if_true, if_false, eq_self, Bool.false_eq_true, reduceCtorEq, not_true_eq_false, not_false_eq_true, decide_true, decide_false, cond_true, cond_false, Bool.true_and, Bool.false_and, Bool.and_true, Bool.and_false, Bool.true_or, Bool.false_or, Bool.or_true, Bool.or_false, b2i_tt, b2i_ff]; done) | (simp only [leadStep, leadA, if_neg c_24, decide_eq_false c_24, decide_eq_true c_24, if_pos c_24, if_pos c_41, c_41, gi_sl, gi_sA, gi_sB, gi_si_s, gi_si_n, gl_si, gl_sA, gl_sB, gl_sl_s, gl_sl_n, gA_si, gA_sl, gA_sB, gA_sA_s, gA_sA_n, gB_si, gB_sl, gB_sA, gB_sB_s, gB_sB_n, Nat.reduceBEq, if_true, if_false, eq_self, Bool.false_eq_true, reduceCtorEq, not_true_eq_false, not_false_eq_true, decide_true, decide_false, cond_true, cond_false, Bool.true_and, Bool.false_and, Bool.and_true, Bool.and_false, Bool.true_or, Bool.false_or, Bool.or_true, Bool.or_false, b2i_tt, b2i_ff]; rfl) | (simp [leadStep, leadA, c_24, c_41, gi_sl, gi_sA, gi_sB, gi_si_s, gi_si_n, gl_si, gl_sA, gl_sB, gl_sl_s, gl_sl_n, gA_si, gA_sl, gA_sB, gA_sA_s, gA_sA_n, gB_si, gB_sl, gB_sA, gB_sB_s, gB_sB_n, Nat.reduceBEq]; done))).trans (lp_go h_1)), hP, hD, hS, lv_sub hl [3, 1, 0] rfl⟩
set_option maxHeartbeats 4000000 in
set_option maxRecDepth 100000 in
theorem c_cut (l : Launch) (D : va_G) (cI cJ : ClassId) (ad : Nat → Nat) (co fl ra li re wa pi : Ob) (k1 : Int32) (l1 : Int64) : CT l D (TY cI cJ) yX1_cut (.code yX1_cut cX1_cut 5 (none : Option FieldType)) 1 0 0 (XW ad cI cJ co fl ra li re wa pi) [.ref (ad 2), .int k1, .long l1] (QV D (TY cI cJ) (fun u => u = (XW ad cI cJ co (cut fl k1 l1) ra li re wa pi))) := by
  refine ent (by decide) (Nat.le_of_ble_eq_true rfl) ?_
  intro p e s m below meth c ls A hx hb hr hg hown hml hlocks hnm hP hK hD hS hA hN hl
  have hl : lv_has ls 5 [(0, .ref (ad 2)), (1, .int k1), (2, .long l1)] := hl
  refine lv_aload_n hx hb dX1_cut_0 rfl (lv_at hl 0 rfl) ?_
  refine lv_iconst (v := 0) hx hb dX1_cut_1 (by decide) ?_
  refine va_put (D := D) (ci := 1) (v := .int 0) (C := RX1) (T := TX1) (N := 11) hx hb hg inGX1 tyX1 tyX1_ok nmX1 hown hK hP hD hS 2 rfl rfl 7 (by decide) (hg _ mw_88) (fun _ h9 => h9) rfl (tyX1_ok 7 (by decide)) rfl rfl (Nat.le_of_ble_eq_true rfl) dX1_cut_2 (fun H locs hP hD hS => ?_)
  have hP : va_P D vwCl (XW ad cI cJ co (si fl 0 0) ra li re wa pi) H := hP
  have hD : va_D A (XW ad cI cJ co (si fl 0 0) ra li re wa pi) := hD
  refine lv_iconst (v := 0) hx hb dX1_cut_5 (by decide) ?_
  refine lv_istore (lv' := [(4, .int 0), (0, .ref (ad 2)), (1, .int k1), (2, .long l1)]) hx hb dX1_cut_6 hl (by decide) rfl (fun ls hl => ?_)
  refine w_loop (σ := Ob) (fun (i_1 : Nat) (p_1 : Ob) (H : Heap) (locs : List Loc) (ls : Array Slot) => p_1 = (lp (cutStep l1) i_1 (si fl 0 0)) ∧ va_P D vwCl (XW ad cI cJ co p_1 ra li re wa pi) H ∧ va_D A (XW ad cI cJ co p_1 ra li re wa pi) ∧ va_S A s.heap H locs ∧ lv_has ls 5 [(0, .ref (ad 2)), (1, .int k1), (2, .long l1), (4, .int (nI i_1))]) (nN k1) (fun p_1 H locs ls hI => ?_) (fun i_1 p_1 H locs ls hi_1 hI ih_1 => ?_) 0 (si fl 0 0) (Nat.zero_le _) ⟨rfl, hP, hD, hS, (by rw [nI_0]; exact lv_sub hl [1, 2, 3, 0] rfl)⟩
  · obtain ⟨h_1, hP, hD, hS, hl⟩ := hI
    have h_1 := h_1.symm
    subst h_1
    have hP : va_P D vwCl (XW ad cI cJ co ((lp (cutStep l1) (nN k1) (si fl 0 0))) ra li re wa pi) H := hP
    have hD : va_D A (XW ad cI cJ co ((lp (cutStep l1) (nN k1) (si fl 0 0))) ra li re wa pi) := hD
    have hl : lv_has ls 5 [(0, .ref (ad 2)), (1, .int k1), (2, .long l1), (4, .int (nI ((nN k1))))] := hl
    refine lv_iload hx hb dX1_cut_8 (lv_at hl 3 rfl) ?_
    refine lv_iload_n hx hb dX1_cut_10 rfl (lv_at hl 1 rfl) ?_
    refine lv_icmp_ge (tgt := 82) hx hb dX1_cut_11 (by decide) (fun _ => ?_) (fun c_11 => absurd (lp_out _) c_11)
    exact W.vret hx hb hr (fun t ht hW => ⟨⟨(XW ad cI cJ co ((lp (cutStep l1) (nN k1) (si fl 0 0))) ra li re wa pi), rfl, xw_eq rfl (show ((lp (cutStep l1) (nN k1) (si fl 0 0))) = (cut fl k1 l1) from (by first | with_reducible rfl | (simp only [cut, gi_sl, gi_sA, gi_sB, gi_si_s, gi_si_n, gl_si, gl_sA, gl_sB, gl_sl_s, gl_sl_n, gA_si, gA_sl, gA_sB, gA_sA_s, gA_sA_n, gB_si, gB_sl, gB_sA, gB_sB_s, gB_sB_n, Nat.reduceBEq, if_true, if_false, eq_self, Bool.false_eq_true, reduceCtorEq, not_true_eq_false, not_false_eq_true, decide_true, decide_false, cond_true, cond_false, Bool.true_and, Bool.false_and, Bool.and_true, Bool.and_false, Bool.true_or, Bool.false_or, Bool.or_true, Bool.or_false, b2i_tt, b2i_ff]; done) | rfl)) rfl rfl rfl rfl rfl, ⟨by rw [ht]; exact hP, va_K.moved hW.alike hK, hD⟩⟩, hS.F ht⟩) hS.2.2 dX1_cut_82
  · obtain ⟨h_1, hP, hD, hS, hl⟩ := hI
    have hP : va_P D vwCl (XW ad cI cJ co p_1 ra li re wa pi) H := hP
    have hD : va_D A (XW ad cI cJ co p_1 ra li re wa pi) := hD
    have hl : lv_has ls 5 [(0, .ref (ad 2)), (1, .int k1), (2, .long l1), (4, .int (nI i_1))] := hl
    refine lv_iload hx hb dX1_cut_8 (lv_at hl 3 rfl) ?_
    refine lv_iload_n hx hb dX1_cut_10 rfl (lv_at hl 1 rfl) ?_
    refine lv_icmp_ge (tgt := 82) hx hb dX1_cut_11 (by decide) (fun c_11 => absurd c_11 (lp_in hi_1)) (fun _ => ?_)
    refine lv_lload_n hx hb dX1_cut_14 rfl (lv_at hl 2 rfl) ?_
    refine lv_iload hx hb dX1_cut_15 (lv_at hl 3 rfl) ?_
    refine kI (rSN hx hb hml hown hg hN hK hP hD (c_has l D cI cJ (XW ad cI cJ co p_1 ra li re wa pi) l1 (nI i_1)) mw_89 nw_68 mw_90 mw_77 pd_X7_has ⟨Nat.le_of_ble_eq_true rfl, Nat.le_of_ble_eq_true rfl⟩ rfl hl.1 rfl (Nat.le_of_ble_eq_true rfl) dX1_cut_17 ⟨Nat.le_of_ble_eq_true rfl, Nat.le_of_ble_eq_true rfl⟩) hD hS hA (fun r_2 u_2 H locs hp hP hD hS => ?_)
    obtain ⟨er, eu⟩ := hp
    obtain rfl := er.symm
    obtain rfl := eu.symm
    refine lv_if_eq (tgt := 46) hx hb dX1_cut_20 (by decide) (fun c_20 => ?_) (fun c_20 => ?_)
    · have c_20 : ¬ (hs l1 (nI i_1)) = true := b2i_0 c_20
      refine lv_aload_n hx hb dX1_cut_46 rfl (lv_at hl 0 rfl) ?_
      refine va_get (D := D) (ci := 1) (v := .ref (ad 12)) (C := RX1) (T := TX1) (N := 11) hx hb hg inGX1 hown hK hP 2 rfl rfl 0 (by decide) (hg _ mw_91) (fun _ h9 => h9) rfl dX1_cut_47 ?_
      refine lv_iload hx hb dX1_cut_50 (lv_at hl 3 rfl) ?_
      refine lv_aload_n hx hb dX1_cut_52 rfl (lv_at hl 0 rfl) ?_
      refine va_get (D := D) (ci := 1) (v := .int (gi p_1 0)) (C := RX1) (T := TX1) (N := 11) hx hb hg inGX1 hown hK hP 2 rfl rfl 7 (by decide) (hg _ mw_88) (fun _ h9 => h9) rfl dX1_cut_53 ?_
      refine lv_iconst (v := 1) hx hb dX1_cut_56 (by decide) ?_
      refine lv_isub hx hb dX1_cut_57 ?_
      refine kV (rSN hx hb hml hown hg hN hK hP hD (c_put l D cI cJ (XW ad cI cJ co p_1 ra li re wa pi) 12 (ad 12) 40 (gA p_1 0) (nI i_1) ((gi p_1 0) - 1) rfl (by decide)) mw_92 nw_69 mw_93 mw_77 pd_X7_put ⟨Nat.le_of_ble_eq_true rfl, Nat.le_of_ble_eq_true rfl⟩ rfl hl.1 rfl (Nat.le_of_ble_eq_true rfl) dX1_cut_58 ⟨Nat.le_of_ble_eq_true rfl, Nat.le_of_ble_eq_true rfl⟩) hD hS hA (fun u_3 H locs hp hP hD hS => ?_)
      obtain rfl := hp.symm
      have hP : va_P D vwCl (XW ad cI cJ co (sA p_1 0 (wr (gA p_1 0) 40 (nI i_1) ((gi p_1 0) - 1))) ra li re wa pi) H := hP
      have hD : va_D A (XW ad cI cJ co (sA p_1 0 (wr (gA p_1 0) 40 (nI i_1) ((gi p_1 0) - 1))) ra li re wa pi) := hD
      refine lv_aload_n hx hb dX1_cut_61 rfl (lv_at hl 0 rfl) ?_
      refine va_get (D := D) (ci := 1) (v := .ref (ad 14)) (C := RX1) (T := TX1) (N := 11) hx hb hg inGX1 hown hK hP 2 rfl rfl 2 (by decide) (hg _ mw_94) (fun _ h9 => h9) rfl dX1_cut_62 ?_
      refine lv_aload_n hx hb dX1_cut_65 rfl (lv_at hl 0 rfl) ?_
      refine va_get (D := D) (ci := 1) (v := .int (gi p_1 0)) (C := RX1) (T := TX1) (N := 11) hx hb hg inGX1 hown hK hP 2 rfl rfl 7 (by decide) (hg _ mw_88) (fun _ h9 => h9) rfl dX1_cut_66 ?_
      refine lv_iconst (v := 1) hx hb dX1_cut_69 (by decide) ?_
      refine lv_isub hx hb dX1_cut_70 ?_
      refine lv_iload hx hb dX1_cut_71 (lv_at hl 3 rfl) ?_
      refine kV (rSN hx hb hml hown hg hN hK hP hD (c_put l D cI cJ (XW ad cI cJ co (sA p_1 0 (wr (gA p_1 0) 40 (nI i_1) ((gi p_1 0) - 1))) ra li re wa pi) 14 (ad 14) 40 (gA p_1 2) ((gi p_1 0) - 1) (nI i_1) rfl (by decide)) mw_92 nw_69 mw_93 mw_77 pd_X7_put ⟨Nat.le_of_ble_eq_true rfl, Nat.le_of_ble_eq_true rfl⟩ rfl hl.1 rfl (Nat.le_of_ble_eq_true rfl) dX1_cut_73 ⟨Nat.le_of_ble_eq_true rfl, Nat.le_of_ble_eq_true rfl⟩) hD hS hA (fun u_4 H locs hp hP hD hS => ?_)
      obtain rfl := hp.symm
      have hP : va_P D vwCl (XW ad cI cJ co (sA (sA p_1 0 (wr (gA p_1 0) 40 (nI i_1) ((gi p_1 0) - 1))) 2 (wr (gA p_1 2) 40 ((gi p_1 0) - 1) (nI i_1))) ra li re wa pi) H := hP
      have hD : va_D A (XW ad cI cJ co (sA (sA p_1 0 (wr (gA p_1 0) 40 (nI i_1) ((gi p_1 0) - 1))) 2 (wr (gA p_1 2) 40 ((gi p_1 0) - 1) (nI i_1))) ra li re wa pi) := hD
      refine lv_iinc (v := (nI (i_1 + 1))) (lv' := [(4, .int (nI (i_1 + 1))), (0, .ref (ad 2)), (1, .int k1), (2, .long l1)]) hx hb dX1_cut_76 hl (k := 3) rfl (nI_1 i_1) (by decide) rfl (fun ls hl => ?_)
      refine lv_goto (tgt := 8) hx hb dX1_cut_79 (by decide) ?_
      exact ih_1 (sA (sA p_1 0 (wr (gA p_1 0) 40 (nI i_1) ((gi p_1 0) - 1))) 2 (wr (gA p_1 2) 40 ((gi p_1 0) - 1) (nI i_1))) H locs ls ⟨((show (sA (sA p_1 0 (wr (gA p_1 0) 40 (nI i_1) ((gi p_1 0) - 1))) 2 (wr (gA p_1 2) 40 ((gi p_1 0) - 1) (nI i_1))) = (cutStep l1) i_1 p_1 from (by first | (simp only [cutStep, cutA, cutB, if_neg c_20, bf_of c_20, gi_sl, gi_sA, gi_sB, gi_si_s, gi_si_n, gl_si, gl_sA, gl_sB, gl_sl_s, gl_sl_n, gA_si, gA_sl, gA_sB, gA_sA_s, gA_sA_n, gB_si, gB_sl, gB_sA, gB_sB_s, gB_sB_n, Nat.reduceBEq, if_true, if_false, eq_self, Bool.false_eq_true, reduceCtorEq, not_true_eq_false, not_false_eq_true, decide_true, decide_false, cond_true, cond_false, Bool.true_and, Bool.false_and, Bool.and_true, Bool.and_false, Bool.true_or, Bool.false_or, Bool.or_true, Bool.or_false, b2i_tt, b2i_ff]; done) | (simp only [cutStep, cutA, cutB, if_neg c_20, bf_of c_20, gi_sl, gi_sA, gi_sB, gi_si_s, gi_si_n, gl_si, gl_sA, gl_sB, gl_sl_s, gl_sl_n, gA_si, gA_sl, gA_sB, gA_sA_s, gA_sA_n, gB_si, gB_sl, gB_sA, gB_sB_s, gB_sB_n, Nat.reduceBEq, if_true, if_false, eq_self, Bool.false_eq_true, reduceCtorEq, not_true_eq_false, not_false_eq_true, decide_true, decide_false, cond_true, cond_false, Bool.true_and, Bool.false_and, Bool.and_true, Bool.and_false, Bool.true_or, Bool.false_or, Bool.or_true, Bool.or_false, b2i_tt, b2i_ff]; rfl) | (simp [cutStep, cutA, cutB, c_20, gi_sl, gi_sA, gi_sB, gi_si_s, gi_si_n, gl_si, gl_sA, gl_sB, gl_sl_s, gl_sl_n, gA_si, gA_sl, gA_sB, gA_sA_s, gA_sA_n, gB_si, gB_sl, gB_sA, gB_sB_s, gB_sB_n, Nat.reduceBEq]; done))).trans (lp_go h_1)), hP, hD, hS, lv_sub hl [1, 2, 3, 0] rfl⟩
    · have c_20 : (hs l1 (nI i_1)) = true := b2i_1 c_20
      refine lv_aload_n hx hb dX1_cut_23 rfl (lv_at hl 0 rfl) ?_
      refine va_get (D := D) (ci := 1) (v := .ref (ad 13)) (C := RX1) (T := TX1) (N := 11) hx hb hg inGX1 hown hK hP 2 rfl rfl 1 (by decide) (hg _ mw_95) (fun _ h9 => h9) rfl dX1_cut_24 ?_
      refine lv_aload_n hx hb dX1_cut_27 rfl (lv_at hl 0 rfl) ?_
      refine va_get (D := D) (ci := 1) (v := .int (gi p_1 0)) (C := RX1) (T := TX1) (N := 11) hx hb hg inGX1 hown hK hP 2 rfl rfl 7 (by decide) (hg _ mw_88) (fun _ h9 => h9) rfl dX1_cut_28 ?_
      refine lv_iload hx hb dX1_cut_31 (lv_at hl 3 rfl) ?_
      refine kV (rSN hx hb hml hown hg hN hK hP hD (c_put l D cI cJ (XW ad cI cJ co p_1 ra li re wa pi) 13 (ad 13) 40 (gA p_1 1) (gi p_1 0) (nI i_1) rfl (by decide)) mw_92 nw_69 mw_93 mw_77 pd_X7_put ⟨Nat.le_of_ble_eq_true rfl, Nat.le_of_ble_eq_true rfl⟩ rfl hl.1 rfl (Nat.le_of_ble_eq_true rfl) dX1_cut_33 ⟨Nat.le_of_ble_eq_true rfl, Nat.le_of_ble_eq_true rfl⟩) hD hS hA (fun u_5 H locs hp hP hD hS => ?_)
      obtain rfl := hp.symm
      have hP : va_P D vwCl (XW ad cI cJ co (sA p_1 1 (wr (gA p_1 1) 40 (gi p_1 0) (nI i_1))) ra li re wa pi) H := hP
      have hD : va_D A (XW ad cI cJ co (sA p_1 1 (wr (gA p_1 1) 40 (gi p_1 0) (nI i_1))) ra li re wa pi) := hD
      refine lv_aload_n hx hb dX1_cut_36 rfl (lv_at hl 0 rfl) ?_
      refine lv_dup hx hb dX1_cut_37 rfl ?_
      refine va_get (D := D) (ci := 1) (v := .int (gi p_1 0)) (C := RX1) (T := TX1) (N := 11) hx hb hg inGX1 hown hK hP 2 rfl rfl 7 (by decide) (hg _ mw_88) (fun _ h9 => h9) rfl dX1_cut_38 ?_
      refine lv_iconst (v := 1) hx hb dX1_cut_41 (by decide) ?_
      refine lv_iadd hx hb dX1_cut_42 ?_
      refine va_put (D := D) (ci := 1) (v := .int ((gi p_1 0) + 1)) (C := RX1) (T := TX1) (N := 11) hx hb hg inGX1 tyX1 tyX1_ok nmX1 hown hK hP hD hS 2 rfl rfl 7 (by decide) (hg _ mw_88) (fun _ h9 => h9) rfl (tyX1_ok 7 (by decide)) rfl rfl (Nat.le_of_ble_eq_true rfl) dX1_cut_43 (fun H locs hP hD hS => ?_)
      have hP : va_P D vwCl (XW ad cI cJ co (si (sA p_1 1 (wr (gA p_1 1) 40 (gi p_1 0) (nI i_1))) 0 ((gi p_1 0) + 1)) ra li re wa pi) H := hP
      have hD : va_D A (XW ad cI cJ co (si (sA p_1 1 (wr (gA p_1 1) 40 (gi p_1 0) (nI i_1))) 0 ((gi p_1 0) + 1)) ra li re wa pi) := hD
      refine lv_aload_n hx hb dX1_cut_46 rfl (lv_at hl 0 rfl) ?_
      refine va_get (D := D) (ci := 1) (v := .ref (ad 12)) (C := RX1) (T := TX1) (N := 11) hx hb hg inGX1 hown hK hP 2 rfl rfl 0 (by decide) (hg _ mw_91) (fun _ h9 => h9) rfl dX1_cut_47 ?_
      refine lv_iload hx hb dX1_cut_50 (lv_at hl 3 rfl) ?_
      refine lv_aload_n hx hb dX1_cut_52 rfl (lv_at hl 0 rfl) ?_
      refine va_get (D := D) (ci := 1) (v := .int ((gi p_1 0) + 1)) (C := RX1) (T := TX1) (N := 11) hx hb hg inGX1 hown hK hP 2 rfl rfl 7 (by decide) (hg _ mw_88) (fun _ h9 => h9) rfl dX1_cut_53 ?_
      refine lv_iconst (v := 1) hx hb dX1_cut_56 (by decide) ?_
      refine lv_isub hx hb dX1_cut_57 ?_
      refine kV (rSN hx hb hml hown hg hN hK hP hD (c_put l D cI cJ (XW ad cI cJ co (si (sA p_1 1 (wr (gA p_1 1) 40 (gi p_1 0) (nI i_1))) 0 ((gi p_1 0) + 1)) ra li re wa pi) 12 (ad 12) 40 (gA p_1 0) (nI i_1) (((gi p_1 0) + 1) - 1) rfl (by decide)) mw_92 nw_69 mw_93 mw_77 pd_X7_put ⟨Nat.le_of_ble_eq_true rfl, Nat.le_of_ble_eq_true rfl⟩ rfl hl.1 rfl (Nat.le_of_ble_eq_true rfl) dX1_cut_58 ⟨Nat.le_of_ble_eq_true rfl, Nat.le_of_ble_eq_true rfl⟩) hD hS hA (fun u_6 H locs hp hP hD hS => ?_)
      obtain rfl := hp.symm
      have hP : va_P D vwCl (XW ad cI cJ co (sA (si (sA p_1 1 (wr (gA p_1 1) 40 (gi p_1 0) (nI i_1))) 0 ((gi p_1 0) + 1)) 0 (wr (gA p_1 0) 40 (nI i_1) (((gi p_1 0) + 1) - 1))) ra li re wa pi) H := hP
      have hD : va_D A (XW ad cI cJ co (sA (si (sA p_1 1 (wr (gA p_1 1) 40 (gi p_1 0) (nI i_1))) 0 ((gi p_1 0) + 1)) 0 (wr (gA p_1 0) 40 (nI i_1) (((gi p_1 0) + 1) - 1))) ra li re wa pi) := hD
      refine lv_aload_n hx hb dX1_cut_61 rfl (lv_at hl 0 rfl) ?_
      refine va_get (D := D) (ci := 1) (v := .ref (ad 14)) (C := RX1) (T := TX1) (N := 11) hx hb hg inGX1 hown hK hP 2 rfl rfl 2 (by decide) (hg _ mw_94) (fun _ h9 => h9) rfl dX1_cut_62 ?_
      refine lv_aload_n hx hb dX1_cut_65 rfl (lv_at hl 0 rfl) ?_
      refine va_get (D := D) (ci := 1) (v := .int ((gi p_1 0) + 1)) (C := RX1) (T := TX1) (N := 11) hx hb hg inGX1 hown hK hP 2 rfl rfl 7 (by decide) (hg _ mw_88) (fun _ h9 => h9) rfl dX1_cut_66 ?_
      refine lv_iconst (v := 1) hx hb dX1_cut_69 (by decide) ?_
      refine lv_isub hx hb dX1_cut_70 ?_
      refine lv_iload hx hb dX1_cut_71 (lv_at hl 3 rfl) ?_
      refine kV (rSN hx hb hml hown hg hN hK hP hD (c_put l D cI cJ (XW ad cI cJ co (sA (si (sA p_1 1 (wr (gA p_1 1) 40 (gi p_1 0) (nI i_1))) 0 ((gi p_1 0) + 1)) 0 (wr (gA p_1 0) 40 (nI i_1) (((gi p_1 0) + 1) - 1))) ra li re wa pi) 14 (ad 14) 40 (gA p_1 2) (((gi p_1 0) + 1) - 1) (nI i_1) rfl (by decide)) mw_92 nw_69 mw_93 mw_77 pd_X7_put ⟨Nat.le_of_ble_eq_true rfl, Nat.le_of_ble_eq_true rfl⟩ rfl hl.1 rfl (Nat.le_of_ble_eq_true rfl) dX1_cut_73 ⟨Nat.le_of_ble_eq_true rfl, Nat.le_of_ble_eq_true rfl⟩) hD hS hA (fun u_7 H locs hp hP hD hS => ?_)
      obtain rfl := hp.symm
      have hP : va_P D vwCl (XW ad cI cJ co (sA (sA (si (sA p_1 1 (wr (gA p_1 1) 40 (gi p_1 0) (nI i_1))) 0 ((gi p_1 0) + 1)) 0 (wr (gA p_1 0) 40 (nI i_1) (((gi p_1 0) + 1) - 1))) 2 (wr (gA p_1 2) 40 (((gi p_1 0) + 1) - 1) (nI i_1))) ra li re wa pi) H := hP
      have hD : va_D A (XW ad cI cJ co (sA (sA (si (sA p_1 1 (wr (gA p_1 1) 40 (gi p_1 0) (nI i_1))) 0 ((gi p_1 0) + 1)) 0 (wr (gA p_1 0) 40 (nI i_1) (((gi p_1 0) + 1) - 1))) 2 (wr (gA p_1 2) 40 (((gi p_1 0) + 1) - 1) (nI i_1))) ra li re wa pi) := hD
      refine lv_iinc (v := (nI (i_1 + 1))) (lv' := [(4, .int (nI (i_1 + 1))), (0, .ref (ad 2)), (1, .int k1), (2, .long l1)]) hx hb dX1_cut_76 hl (k := 3) rfl (nI_1 i_1) (by decide) rfl (fun ls hl => ?_)
      refine lv_goto (tgt := 8) hx hb dX1_cut_79 (by decide) ?_
      exact ih_1 (sA (sA (si (sA p_1 1 (wr (gA p_1 1) 40 (gi p_1 0) (nI i_1))) 0 ((gi p_1 0) + 1)) 0 (wr (gA p_1 0) 40 (nI i_1) (((gi p_1 0) + 1) - 1))) 2 (wr (gA p_1 2) 40 (((gi p_1 0) + 1) - 1) (nI i_1))) H locs ls ⟨((show (sA (sA (si (sA p_1 1 (wr (gA p_1 1) 40 (gi p_1 0) (nI i_1))) 0 ((gi p_1 0) + 1)) 0 (wr (gA p_1 0) 40 (nI i_1) (((gi p_1 0) + 1) - 1))) 2 (wr (gA p_1 2) 40 (((gi p_1 0) + 1) - 1) (nI i_1))) = (cutStep l1) i_1 p_1 from (by first | (simp only [cutStep, cutA, cutB, if_pos c_20, c_20, gi_sl, gi_sA, gi_sB, gi_si_s, gi_si_n, gl_si, gl_sA, gl_sB, gl_sl_s, gl_sl_n, gA_si, gA_sl, gA_sB, gA_sA_s, gA_sA_n, gB_si, gB_sl, gB_sA, gB_sB_s, gB_sB_n, Nat.reduceBEq, if_true, if_false, eq_self, Bool.false_eq_true, reduceCtorEq, not_true_eq_false, not_false_eq_true, decide_true, decide_false, cond_true, cond_false, Bool.true_and, Bool.false_and, Bool.and_true, Bool.and_false, Bool.true_or, Bool.false_or, Bool.or_true, Bool.or_false, b2i_tt, b2i_ff]; done) | (simp only [cutStep, cutA, cutB, if_pos c_20, c_20, gi_sl, gi_sA, gi_sB, gi_si_s, gi_si_n, gl_si, gl_sA, gl_sB, gl_sl_s, gl_sl_n, gA_si, gA_sl, gA_sB, gA_sA_s, gA_sA_n, gB_si, gB_sl, gB_sA, gB_sB_s, gB_sB_n, Nat.reduceBEq, if_true, if_false, eq_self, Bool.false_eq_true, reduceCtorEq, not_true_eq_false, not_false_eq_true, decide_true, decide_false, cond_true, cond_false, Bool.true_and, Bool.false_and, Bool.and_true, Bool.and_false, Bool.true_or, Bool.false_or, Bool.or_true, Bool.or_false, b2i_tt, b2i_ff]; rfl) | (simp [cutStep, cutA, cutB, c_20, gi_sl, gi_sA, gi_sB, gi_si_s, gi_si_n, gl_si, gl_sA, gl_sB, gl_sl_s, gl_sl_n, gA_si, gA_sl, gA_sB, gA_sA_s, gA_sA_n, gB_si, gB_sl, gB_sA, gB_sB_s, gB_sB_n, Nat.reduceBEq]; done))).trans (lp_go h_1)), hP, hD, hS, lv_sub hl [1, 2, 3, 0] rfl⟩
set_option maxHeartbeats 4000000 in
set_option maxRecDepth 100000 in
theorem c_join (l : Launch) (D : va_G) (cI cJ : ClassId) (ad : Nat → Nat) (co fl ra li re wa pi : Ob) (k1 : Int32) (k2 : Int32) (k3 : Int32) : CT l D (TY cI cJ) yX1_join (.code yX1_join cX1_join 7 (none : Option FieldType)) 1 0 0 (XW ad cI cJ co fl ra li re wa pi) [.ref (ad 2), .int k1, .int k2, .int k3] (QV D (TY cI cJ) (fun u => u = (XW ad cI cJ co (join fl k1 k2 k3) ra li re wa pi))) := by
  refine ent (by decide) (Nat.le_of_ble_eq_true rfl) ?_
  intro p e s m below meth c ls A hx hb hr hg hown hml hlocks hnm hP hK hD hS hA hN hl
  have hl : lv_has ls 7 [(0, .ref (ad 2)), (1, .int k1), (2, .int k2), (3, .int k3)] := hl
  refine lv_iload_n hx hb dX1_join_0 rfl (lv_at hl 2 rfl) ?_
  refine lv_iload_n hx hb dX1_join_1 rfl (lv_at hl 3 rfl) ?_
  refine lv_icmp_ge (tgt := 16) hx hb dX1_join_2 (by decide) (fun c_2 => ?_) (fun c_2 => ?_)
  · have c_2 : ¬ k2 < k3 := i_ge c_2
    refine lv_bipush (v := 40) hx hb dX1_join_16 (by decide) ?_
    refine lv_istore (lv' := [(4, .int 40), (0, .ref (ad 2)), (1, .int k1), (2, .int k2), (3, .int k3)]) hx hb dX1_join_18 hl (by decide) rfl (fun ls hl => ?_)
    refine lv_aload_n hx hb dX1_join_20 rfl (lv_at hl 1 rfl) ?_
    refine va_get (D := D) (ci := 1) (v := .ref (ad 18)) (C := RX1) (T := TX1) (N := 11) hx hb hg inGX1 hown hK hP 2 rfl rfl 6 (by decide) (hg _ mw_96) (fun _ h9 => h9) rfl dX1_join_21 ?_
    refine lv_iload_n hx hb dX1_join_24 rfl (lv_at hl 2 rfl) ?_
    refine kL (rSN hx hb hml hown hg hN hK hP hD (c_atL l D cI cJ (XW ad cI cJ co fl ra li re wa pi) 18 (ad 18) 40 (gB fl 0) k1 rfl (by decide)) mw_81 nw_71 mw_83 mw_77 pd_X7_at_ ⟨Nat.le_of_ble_eq_true rfl, Nat.le_of_ble_eq_true rfl⟩ rfl hl.1 rfl (Nat.le_of_ble_eq_true rfl) dX1_join_25 ⟨Nat.le_of_ble_eq_true rfl, Nat.le_of_ble_eq_true rfl⟩) hD hS hA (fun r_1 u_1 H locs hp hP hD hS => ?_)
    obtain ⟨er, eu⟩ := hp
    obtain rfl := er.symm
    obtain rfl := eu.symm
    refine lv_lstore (lv' := [(5, .long (rdL (gB fl 0) 40 k1)), (4, .int 40), (0, .ref (ad 2)), (1, .int k1), (2, .int k2), (3, .int k3)]) hx hb dX1_join_28 hl (by decide) rfl (fun ls hl => ?_)
    refine lv_lload hx hb dX1_join_30 (lv_at hl 0 rfl) ?_
    refine lv_iload hx hb dX1_join_32 (lv_at hl 1 rfl) ?_
    refine kI (rSN hx hb hml hown hg hN hK hP hD (c_has l D cI cJ (XW ad cI cJ co fl ra li re wa pi) (rdL (gB fl 0) 40 k1) 40) mw_89 nw_68 mw_90 mw_77 pd_X7_has ⟨Nat.le_of_ble_eq_true rfl, Nat.le_of_ble_eq_true rfl⟩ rfl hl.1 rfl (Nat.le_of_ble_eq_true rfl) dX1_join_34 ⟨Nat.le_of_ble_eq_true rfl, Nat.le_of_ble_eq_true rfl⟩) hD hS hA (fun r_2 u_2 H locs hp hP hD hS => ?_)
    obtain ⟨er, eu⟩ := hp
    obtain rfl := er.symm
    obtain rfl := eu.symm
    refine lv_if_eq (tgt := 41) hx hb dX1_join_37 (by decide) (fun c_37 => ?_) (fun c_37 => ?_)
    · have c_37 : ¬ (hs (rdL (gB fl 0) 40 k1) 40) = true := b2i_0 c_37
      refine lv_aload_n hx hb dX1_join_41 rfl (lv_at hl 2 rfl) ?_
      refine va_get (D := D) (ci := 1) (v := .ref (ad 18)) (C := RX1) (T := TX1) (N := 11) hx hb hg inGX1 hown hK hP 2 rfl rfl 6 (by decide) (hg _ mw_96) (fun _ h9 => h9) rfl dX1_join_42 ?_
      refine lv_iload_n hx hb dX1_join_45 rfl (lv_at hl 3 rfl) ?_
      refine lv_lload hx hb dX1_join_46 (lv_at hl 0 rfl) ?_
      refine lv_iload hx hb dX1_join_48 (lv_at hl 1 rfl) ?_
      refine kL (rSN hx hb hml hown hg hN hK hP hD (c_bit l D cI cJ (XW ad cI cJ co fl ra li re wa pi) 40) mw_78 nw_66 mw_80 mw_77 pd_X7_bit ⟨Nat.le_of_ble_eq_true rfl, Nat.le_of_ble_eq_true rfl⟩ rfl hl.1 rfl (Nat.le_of_ble_eq_true rfl) dX1_join_50 ⟨Nat.le_of_ble_eq_true rfl, Nat.le_of_ble_eq_true rfl⟩) hD hS hA (fun r_3 u_3 H locs hp hP hD hS => ?_)
      obtain ⟨er, eu⟩ := hp
      obtain rfl := er.symm
      obtain rfl := eu.symm
      refine lv_lor hx hb dX1_join_53 ?_
      refine kV (rSN hx hb hml hown hg hN hK hP hD (c_putL l D cI cJ (XW ad cI cJ co fl ra li re wa pi) 18 (ad 18) 40 (gB fl 0) k1 ((rdL (gB fl 0) 40 k1) ||| (bitL 40)) rfl (by decide)) mw_97 nw_70 mw_98 mw_77 pd_X7_put_ ⟨Nat.le_of_ble_eq_true rfl, Nat.le_of_ble_eq_true rfl⟩ rfl hl.1 rfl (Nat.le_of_ble_eq_true rfl) dX1_join_54 ⟨Nat.le_of_ble_eq_true rfl, Nat.le_of_ble_eq_true rfl⟩) hD hS hA (fun u_4 H locs hp hP hD hS => ?_)
      obtain rfl := hp.symm
      have hP : va_P D vwCl (XW ad cI cJ co (sB fl 0 (wrL (gB fl 0) 40 k1 ((rdL (gB fl 0) 40 k1) ||| (bitL 40)))) ra li re wa pi) H := hP
      have hD : va_D A (XW ad cI cJ co (sB fl 0 (wrL (gB fl 0) 40 k1 ((rdL (gB fl 0) 40 k1) ||| (bitL 40)))) ra li re wa pi) := hD
      refine lv_aload_n hx hb dX1_join_57 rfl (lv_at hl 2 rfl) ?_
      refine va_get (D := D) (ci := 1) (v := .ref (ad 15)) (C := RX1) (T := TX1) (N := 11) hx hb hg inGX1 hown hK hP 2 rfl rfl 3 (by decide) (hg _ mw_99) (fun _ h9 => h9) rfl dX1_join_58 ?_
      refine lv_aload_n hx hb dX1_join_61 rfl (lv_at hl 2 rfl) ?_
      refine va_get (D := D) (ci := 1) (v := .int (gi fl 1)) (C := RX1) (T := TX1) (N := 11) hx hb hg inGX1 hown hK hP 2 rfl rfl 8 (by decide) (hg _ mw_100) (fun _ h9 => h9) rfl dX1_join_62 ?_
      refine lv_iload_n hx hb dX1_join_65 rfl (lv_at hl 3 rfl) ?_
      refine kV (rSN hx hb hml hown hg hN hK hP hD (c_put l D cI cJ (XW ad cI cJ co (sB fl 0 (wrL (gB fl 0) 40 k1 ((rdL (gB fl 0) 40 k1) ||| (bitL 40)))) ra li re wa pi) 15 (ad 15) 80 (gA fl 3) (gi fl 1) k1 rfl (by decide)) mw_92 nw_69 mw_93 mw_77 pd_X7_put ⟨Nat.le_of_ble_eq_true rfl, Nat.le_of_ble_eq_true rfl⟩ rfl hl.1 rfl (Nat.le_of_ble_eq_true rfl) dX1_join_66 ⟨Nat.le_of_ble_eq_true rfl, Nat.le_of_ble_eq_true rfl⟩) hD hS hA (fun u_5 H locs hp hP hD hS => ?_)
      obtain rfl := hp.symm
      have hP : va_P D vwCl (XW ad cI cJ co (sA (sB fl 0 (wrL (gB fl 0) 40 k1 ((rdL (gB fl 0) 40 k1) ||| (bitL 40)))) 3 (wr (gA fl 3) 80 (gi fl 1) k1)) ra li re wa pi) H := hP
      have hD : va_D A (XW ad cI cJ co (sA (sB fl 0 (wrL (gB fl 0) 40 k1 ((rdL (gB fl 0) 40 k1) ||| (bitL 40)))) 3 (wr (gA fl 3) 80 (gi fl 1) k1)) ra li re wa pi) := hD
      refine lv_aload_n hx hb dX1_join_69 rfl (lv_at hl 2 rfl) ?_
      refine va_get (D := D) (ci := 1) (v := .ref (ad 16)) (C := RX1) (T := TX1) (N := 11) hx hb hg inGX1 hown hK hP 2 rfl rfl 4 (by decide) (hg _ mw_101) (fun _ h9 => h9) rfl dX1_join_70 ?_
      refine lv_aload_n hx hb dX1_join_73 rfl (lv_at hl 2 rfl) ?_
      refine va_get (D := D) (ci := 1) (v := .int (gi fl 1)) (C := RX1) (T := TX1) (N := 11) hx hb hg inGX1 hown hK hP 2 rfl rfl 8 (by decide) (hg _ mw_100) (fun _ h9 => h9) rfl dX1_join_74 ?_
      refine lv_iload hx hb dX1_join_77 (lv_at hl 1 rfl) ?_
      refine lv_bipush (v := 40) hx hb dX1_join_79 (by decide) ?_
      refine lv_icmp_ne (tgt := 88) hx hb dX1_join_81 (by decide) (fun c_81 => absurd (by decide) c_81) (fun _ => ?_)
      refine lv_iconst (v := (-1)) hx hb dX1_join_84 (by decide) ?_
      refine lv_goto (tgt := 90) hx hb dX1_join_85 (by decide) ?_
      refine kV (rSN hx hb hml hown hg hN hK hP hD (c_put l D cI cJ (XW ad cI cJ co (sA (sB fl 0 (wrL (gB fl 0) 40 k1 ((rdL (gB fl 0) 40 k1) ||| (bitL 40)))) 3 (wr (gA fl 3) 80 (gi fl 1) k1)) ra li re wa pi) 16 (ad 16) 80 (gA fl 4) (gi fl 1) (-1) rfl (by decide)) mw_92 nw_69 mw_93 mw_77 pd_X7_put ⟨Nat.le_of_ble_eq_true rfl, Nat.le_of_ble_eq_true rfl⟩ rfl hl.1 rfl (Nat.le_of_ble_eq_true rfl) dX1_join_90 ⟨Nat.le_of_ble_eq_true rfl, Nat.le_of_ble_eq_true rfl⟩) hD hS hA (fun u_6 H locs hp hP hD hS => ?_)
      obtain rfl := hp.symm
      have hP : va_P D vwCl (XW ad cI cJ co (sA (sA (sB fl 0 (wrL (gB fl 0) 40 k1 ((rdL (gB fl 0) 40 k1) ||| (bitL 40)))) 3 (wr (gA fl 3) 80 (gi fl 1) k1)) 4 (wr (gA fl 4) 80 (gi fl 1) (-1))) ra li re wa pi) H := hP
      have hD : va_D A (XW ad cI cJ co (sA (sA (sB fl 0 (wrL (gB fl 0) 40 k1 ((rdL (gB fl 0) 40 k1) ||| (bitL 40)))) 3 (wr (gA fl 3) 80 (gi fl 1) k1)) 4 (wr (gA fl 4) 80 (gi fl 1) (-1))) ra li re wa pi) := hD
      refine lv_aload_n hx hb dX1_join_93 rfl (lv_at hl 2 rfl) ?_
      refine lv_dup hx hb dX1_join_94 rfl ?_
      refine va_get (D := D) (ci := 1) (v := .int (gi fl 1)) (C := RX1) (T := TX1) (N := 11) hx hb hg inGX1 hown hK hP 2 rfl rfl 8 (by decide) (hg _ mw_100) (fun _ h9 => h9) rfl dX1_join_95 ?_
      refine lv_iconst (v := 1) hx hb dX1_join_98 (by decide) ?_
      refine lv_iadd hx hb dX1_join_99 ?_
      refine va_put (D := D) (ci := 1) (v := .int ((gi fl 1) + 1)) (C := RX1) (T := TX1) (N := 11) hx hb hg inGX1 tyX1 tyX1_ok nmX1 hown hK hP hD hS 2 rfl rfl 8 (by decide) (hg _ mw_100) (fun _ h9 => h9) rfl (tyX1_ok 8 (by decide)) rfl rfl (Nat.le_of_ble_eq_true rfl) dX1_join_100 (fun H locs hP hD hS => ?_)
      have hP : va_P D vwCl (XW ad cI cJ co (si (sA (sA (sB fl 0 (wrL (gB fl 0) 40 k1 ((rdL (gB fl 0) 40 k1) ||| (bitL 40)))) 3 (wr (gA fl 3) 80 (gi fl 1) k1)) 4 (wr (gA fl 4) 80 (gi fl 1) (-1))) 1 ((gi fl 1) + 1)) ra li re wa pi) H := hP
      have hD : va_D A (XW ad cI cJ co (si (sA (sA (sB fl 0 (wrL (gB fl 0) 40 k1 ((rdL (gB fl 0) 40 k1) ||| (bitL 40)))) 3 (wr (gA fl 3) 80 (gi fl 1) k1)) 4 (wr (gA fl 4) 80 (gi fl 1) (-1))) 1 ((gi fl 1) + 1)) ra li re wa pi) := hD
      exact W.vret hx hb hr (fun t ht hW => ⟨⟨(XW ad cI cJ co (si (sA (sA (sB fl 0 (wrL (gB fl 0) 40 k1 ((rdL (gB fl 0) 40 k1) ||| (bitL 40)))) 3 (wr (gA fl 3) 80 (gi fl 1) k1)) 4 (wr (gA fl 4) 80 (gi fl 1) (-1))) 1 ((gi fl 1) + 1)) ra li re wa pi), rfl, xw_eq rfl (show (si (sA (sA (sB fl 0 (wrL (gB fl 0) 40 k1 ((rdL (gB fl 0) 40 k1) ||| (bitL 40)))) 3 (wr (gA fl 3) 80 (gi fl 1) k1)) 4 (wr (gA fl 4) 80 (gi fl 1) (-1))) 1 ((gi fl 1) + 1)) = (join fl k1 k2 k3) from (by first | (simp only [join, joinG, joinP, if_neg c_2, decide_eq_false c_2, decide_eq_true c_2, if_pos c_2, if_neg c_37, bf_of c_37, gi_sl, gi_sA, gi_sB, gi_si_s, gi_si_n, gl_si, gl_sA, gl_sB, gl_sl_s, gl_sl_n, gA_si, gA_sl, gA_sB, gA_sA_s, gA_sA_n, gB_si, gB_sl, gB_sA, gB_sB_s, gB_sB_n, Nat.reduceBEq, if_true, if_false, eq_self, Bool.false_eq_true, reduceCtorEq, not_true_eq_false, not_false_eq_true, decide_true, decide_false, cond_true, cond_false, Bool.true_and, Bool.false_and, Bool.and_true, Bool.and_false, Bool.true_or, Bool.false_or, Bool.or_true, Bool.or_false, b2i_tt, b2i_ff]; done) | (simp only [join, joinG, joinP, if_neg c_2, decide_eq_false c_2, decide_eq_true c_2, if_pos c_2, if_neg c_37, bf_of c_37, gi_sl, gi_sA, gi_sB, gi_si_s, gi_si_n, gl_si, gl_sA, gl_sB, gl_sl_s, gl_sl_n, gA_si, gA_sl, gA_sB, gA_sA_s, gA_sA_n, gB_si, gB_sl, gB_sA, gB_sB_s, gB_sB_n, Nat.reduceBEq, if_true, if_false, eq_self, Bool.false_eq_true, reduceCtorEq, not_true_eq_false, not_false_eq_true, decide_true, decide_false, cond_true, cond_false, Bool.true_and, Bool.false_and, Bool.and_true, Bool.and_false, Bool.true_or, Bool.false_or, Bool.or_true, Bool.or_false, b2i_tt, b2i_ff]; rfl) | (simp [join, joinG, joinP, c_2, c_37, gi_sl, gi_sA, gi_sB, gi_si_s, gi_si_n, gl_si, gl_sA, gl_sB, gl_sl_s, gl_sl_n, gA_si, gA_sl, gA_sB, gA_sA_s, gA_sA_n, gB_si, gB_sl, gB_sA, gB_sB_s, gB_sB_n, Nat.reduceBEq]; done))) rfl rfl rfl rfl rfl, ⟨by rw [ht]; exact hP, va_K.moved hW.alike hK, hD⟩⟩, hS.F ht⟩) hS.2.2 dX1_join_103
    · have c_37 : (hs (rdL (gB fl 0) 40 k1) 40) = true := b2i_1 c_37
      exact W.vret hx hb hr (fun t ht hW => ⟨⟨(XW ad cI cJ co fl ra li re wa pi), rfl, xw_eq rfl (show fl = (join fl k1 k2 k3) from (by first | (simp only [join, joinG, joinP, if_neg c_2, decide_eq_false c_2, decide_eq_true c_2, if_pos c_2, if_pos c_37, c_37, gi_sl, gi_sA, gi_sB, gi_si_s, gi_si_n, gl_si, gl_sA, gl_sB, gl_sl_s, gl_sl_n, gA_si, gA_sl, gA_sB, gA_sA_s, gA_sA_n, gB_si, gB_sl, gB_sA, gB_sB_s, gB_sB_n, Nat.reduceBEq, if_true, if_false, eq_self, Bool.false_eq_true, reduceCtorEq, not_true_eq_false, not_false_eq_true, decide_true, decide_false, cond_true, cond_false, Bool.true_and, Bool.false_and, Bool.and_true, Bool.and_false, Bool.true_or, Bool.false_or, Bool.or_true, Bool.or_false, b2i_tt, b2i_ff]; done) | (simp only [join, joinG, joinP, if_neg c_2, decide_eq_false c_2, decide_eq_true c_2, if_pos c_2, if_pos c_37, c_37, gi_sl, gi_sA, gi_sB, gi_si_s, gi_si_n, gl_si, gl_sA, gl_sB, gl_sl_s, gl_sl_n, gA_si, gA_sl, gA_sB, gA_sA_s, gA_sA_n, gB_si, gB_sl, gB_sA, gB_sB_s, gB_sB_n, Nat.reduceBEq, if_true, if_false, eq_self, Bool.false_eq_true, reduceCtorEq, not_true_eq_false, not_false_eq_true, decide_true, decide_false, cond_true, cond_false, Bool.true_and, Bool.false_and, Bool.and_true, Bool.and_false, Bool.true_or, Bool.false_or, Bool.or_true, Bool.or_false, b2i_tt, b2i_ff]; rfl) | (simp [join, joinG, joinP, c_2, c_37, gi_sl, gi_sA, gi_sB, gi_si_s, gi_si_n, gl_si, gl_sA, gl_sB, gl_sl_s, gl_sl_n, gA_si, gA_sl, gA_sB, gA_sA_s, gA_sA_n, gB_si, gB_sl, gB_sA, gB_sB_s, gB_sB_n, Nat.reduceBEq]; done))) rfl rfl rfl rfl rfl, ⟨by rw [ht]; exact hP, va_K.moved hW.alike hK, hD⟩⟩, hS.F ht⟩) hS.2.2 dX1_join_40
  · have c_2 : k2 < k3 := i_nge c_2
    refine lv_aload_n hx hb dX1_join_5 rfl (lv_at hl 0 rfl) ?_
    refine va_get (D := D) (ci := 1) (v := .ref (ad 12)) (C := RX1) (T := TX1) (N := 11) hx hb hg inGX1 hown hK hP 2 rfl rfl 0 (by decide) (hg _ mw_91) (fun _ h9 => h9) rfl dX1_join_6 ?_
    refine lv_iload_n hx hb dX1_join_9 rfl (lv_at hl 2 rfl) ?_
    refine kI (rSN hx hb hml hown hg hN hK hP hD (c_at l D cI cJ (XW ad cI cJ co fl ra li re wa pi) 12 (ad 12) 40 (gA fl 0) k2 rfl (by decide)) mw_84 nw_65 mw_85 mw_77 pd_X7_at ⟨Nat.le_of_ble_eq_true rfl, Nat.le_of_ble_eq_true rfl⟩ rfl hl.1 rfl (Nat.le_of_ble_eq_true rfl) dX1_join_10 ⟨Nat.le_of_ble_eq_true rfl, Nat.le_of_ble_eq_true rfl⟩) hD hS hA (fun r_7 u_7 H locs hp hP hD hS => ?_)
    obtain ⟨er, eu⟩ := hp
    obtain rfl := er.symm
    obtain rfl := eu.symm
    refine lv_goto (tgt := 18) hx hb dX1_join_13 (by decide) ?_
    refine lv_istore (lv' := [(4, .int (rd (gA fl 0) 40 k2)), (0, .ref (ad 2)), (1, .int k1), (2, .int k2), (3, .int k3)]) hx hb dX1_join_18 hl (by decide) rfl (fun ls hl => ?_)
    refine lv_aload_n hx hb dX1_join_20 rfl (lv_at hl 1 rfl) ?_
    refine va_get (D := D) (ci := 1) (v := .ref (ad 18)) (C := RX1) (T := TX1) (N := 11) hx hb hg inGX1 hown hK hP 2 rfl rfl 6 (by decide) (hg _ mw_96) (fun _ h9 => h9) rfl dX1_join_21 ?_
    refine lv_iload_n hx hb dX1_join_24 rfl (lv_at hl 2 rfl) ?_
    refine kL (rSN hx hb hml hown hg hN hK hP hD (c_atL l D cI cJ (XW ad cI cJ co fl ra li re wa pi) 18 (ad 18) 40 (gB fl 0) k1 rfl (by decide)) mw_81 nw_71 mw_83 mw_77 pd_X7_at_ ⟨Nat.le_of_ble_eq_true rfl, Nat.le_of_ble_eq_true rfl⟩ rfl hl.1 rfl (Nat.le_of_ble_eq_true rfl) dX1_join_25 ⟨Nat.le_of_ble_eq_true rfl, Nat.le_of_ble_eq_true rfl⟩) hD hS hA (fun r_8 u_8 H locs hp hP hD hS => ?_)
    obtain ⟨er, eu⟩ := hp
    obtain rfl := er.symm
    obtain rfl := eu.symm
    refine lv_lstore (lv' := [(5, .long (rdL (gB fl 0) 40 k1)), (4, .int (rd (gA fl 0) 40 k2)), (0, .ref (ad 2)), (1, .int k1), (2, .int k2), (3, .int k3)]) hx hb dX1_join_28 hl (by decide) rfl (fun ls hl => ?_)
    refine lv_lload hx hb dX1_join_30 (lv_at hl 0 rfl) ?_
    refine lv_iload hx hb dX1_join_32 (lv_at hl 1 rfl) ?_
    refine kI (rSN hx hb hml hown hg hN hK hP hD (c_has l D cI cJ (XW ad cI cJ co fl ra li re wa pi) (rdL (gB fl 0) 40 k1) (rd (gA fl 0) 40 k2)) mw_89 nw_68 mw_90 mw_77 pd_X7_has ⟨Nat.le_of_ble_eq_true rfl, Nat.le_of_ble_eq_true rfl⟩ rfl hl.1 rfl (Nat.le_of_ble_eq_true rfl) dX1_join_34 ⟨Nat.le_of_ble_eq_true rfl, Nat.le_of_ble_eq_true rfl⟩) hD hS hA (fun r_9 u_9 H locs hp hP hD hS => ?_)
    obtain ⟨er, eu⟩ := hp
    obtain rfl := er.symm
    obtain rfl := eu.symm
    refine lv_if_eq (tgt := 41) hx hb dX1_join_37 (by decide) (fun c_37 => ?_) (fun c_37 => ?_)
    · have c_37 : ¬ (hs (rdL (gB fl 0) 40 k1) (rd (gA fl 0) 40 k2)) = true := b2i_0 c_37
      refine lv_aload_n hx hb dX1_join_41 rfl (lv_at hl 2 rfl) ?_
      refine va_get (D := D) (ci := 1) (v := .ref (ad 18)) (C := RX1) (T := TX1) (N := 11) hx hb hg inGX1 hown hK hP 2 rfl rfl 6 (by decide) (hg _ mw_96) (fun _ h9 => h9) rfl dX1_join_42 ?_
      refine lv_iload_n hx hb dX1_join_45 rfl (lv_at hl 3 rfl) ?_
      refine lv_lload hx hb dX1_join_46 (lv_at hl 0 rfl) ?_
      refine lv_iload hx hb dX1_join_48 (lv_at hl 1 rfl) ?_
      refine kL (rSN hx hb hml hown hg hN hK hP hD (c_bit l D cI cJ (XW ad cI cJ co fl ra li re wa pi) (rd (gA fl 0) 40 k2)) mw_78 nw_66 mw_80 mw_77 pd_X7_bit ⟨Nat.le_of_ble_eq_true rfl, Nat.le_of_ble_eq_true rfl⟩ rfl hl.1 rfl (Nat.le_of_ble_eq_true rfl) dX1_join_50 ⟨Nat.le_of_ble_eq_true rfl, Nat.le_of_ble_eq_true rfl⟩) hD hS hA (fun r_10 u_10 H locs hp hP hD hS => ?_)
      obtain ⟨er, eu⟩ := hp
      obtain rfl := er.symm
      obtain rfl := eu.symm
      refine lv_lor hx hb dX1_join_53 ?_
      refine kV (rSN hx hb hml hown hg hN hK hP hD (c_putL l D cI cJ (XW ad cI cJ co fl ra li re wa pi) 18 (ad 18) 40 (gB fl 0) k1 ((rdL (gB fl 0) 40 k1) ||| (bitL (rd (gA fl 0) 40 k2))) rfl (by decide)) mw_97 nw_70 mw_98 mw_77 pd_X7_put_ ⟨Nat.le_of_ble_eq_true rfl, Nat.le_of_ble_eq_true rfl⟩ rfl hl.1 rfl (Nat.le_of_ble_eq_true rfl) dX1_join_54 ⟨Nat.le_of_ble_eq_true rfl, Nat.le_of_ble_eq_true rfl⟩) hD hS hA (fun u_11 H locs hp hP hD hS => ?_)
      obtain rfl := hp.symm
      have hP : va_P D vwCl (XW ad cI cJ co (sB fl 0 (wrL (gB fl 0) 40 k1 ((rdL (gB fl 0) 40 k1) ||| (bitL (rd (gA fl 0) 40 k2))))) ra li re wa pi) H := hP
      have hD : va_D A (XW ad cI cJ co (sB fl 0 (wrL (gB fl 0) 40 k1 ((rdL (gB fl 0) 40 k1) ||| (bitL (rd (gA fl 0) 40 k2))))) ra li re wa pi) := hD
      refine lv_aload_n hx hb dX1_join_57 rfl (lv_at hl 2 rfl) ?_
      refine va_get (D := D) (ci := 1) (v := .ref (ad 15)) (C := RX1) (T := TX1) (N := 11) hx hb hg inGX1 hown hK hP 2 rfl rfl 3 (by decide) (hg _ mw_99) (fun _ h9 => h9) rfl dX1_join_58 ?_
      refine lv_aload_n hx hb dX1_join_61 rfl (lv_at hl 2 rfl) ?_
      refine va_get (D := D) (ci := 1) (v := .int (gi fl 1)) (C := RX1) (T := TX1) (N := 11) hx hb hg inGX1 hown hK hP 2 rfl rfl 8 (by decide) (hg _ mw_100) (fun _ h9 => h9) rfl dX1_join_62 ?_
      refine lv_iload_n hx hb dX1_join_65 rfl (lv_at hl 3 rfl) ?_
      refine kV (rSN hx hb hml hown hg hN hK hP hD (c_put l D cI cJ (XW ad cI cJ co (sB fl 0 (wrL (gB fl 0) 40 k1 ((rdL (gB fl 0) 40 k1) ||| (bitL (rd (gA fl 0) 40 k2))))) ra li re wa pi) 15 (ad 15) 80 (gA fl 3) (gi fl 1) k1 rfl (by decide)) mw_92 nw_69 mw_93 mw_77 pd_X7_put ⟨Nat.le_of_ble_eq_true rfl, Nat.le_of_ble_eq_true rfl⟩ rfl hl.1 rfl (Nat.le_of_ble_eq_true rfl) dX1_join_66 ⟨Nat.le_of_ble_eq_true rfl, Nat.le_of_ble_eq_true rfl⟩) hD hS hA (fun u_12 H locs hp hP hD hS => ?_)
      obtain rfl := hp.symm
      have hP : va_P D vwCl (XW ad cI cJ co (sA (sB fl 0 (wrL (gB fl 0) 40 k1 ((rdL (gB fl 0) 40 k1) ||| (bitL (rd (gA fl 0) 40 k2))))) 3 (wr (gA fl 3) 80 (gi fl 1) k1)) ra li re wa pi) H := hP
      have hD : va_D A (XW ad cI cJ co (sA (sB fl 0 (wrL (gB fl 0) 40 k1 ((rdL (gB fl 0) 40 k1) ||| (bitL (rd (gA fl 0) 40 k2))))) 3 (wr (gA fl 3) 80 (gi fl 1) k1)) ra li re wa pi) := hD
      refine lv_aload_n hx hb dX1_join_69 rfl (lv_at hl 2 rfl) ?_
      refine va_get (D := D) (ci := 1) (v := .ref (ad 16)) (C := RX1) (T := TX1) (N := 11) hx hb hg inGX1 hown hK hP 2 rfl rfl 4 (by decide) (hg _ mw_101) (fun _ h9 => h9) rfl dX1_join_70 ?_
      refine lv_aload_n hx hb dX1_join_73 rfl (lv_at hl 2 rfl) ?_
      refine va_get (D := D) (ci := 1) (v := .int (gi fl 1)) (C := RX1) (T := TX1) (N := 11) hx hb hg inGX1 hown hK hP 2 rfl rfl 8 (by decide) (hg _ mw_100) (fun _ h9 => h9) rfl dX1_join_74 ?_
      refine lv_iload hx hb dX1_join_77 (lv_at hl 1 rfl) ?_
      refine lv_bipush (v := 40) hx hb dX1_join_79 (by decide) ?_
      refine lv_icmp_ne (tgt := 88) hx hb dX1_join_81 (by decide) (fun c_81 => ?_) (fun c_81 => ?_)
      · refine lv_iload hx hb dX1_join_88 (lv_at hl 1 rfl) ?_
        refine kV (rSN hx hb hml hown hg hN hK hP hD (c_put l D cI cJ (XW ad cI cJ co (sA (sB fl 0 (wrL (gB fl 0) 40 k1 ((rdL (gB fl 0) 40 k1) ||| (bitL (rd (gA fl 0) 40 k2))))) 3 (wr (gA fl 3) 80 (gi fl 1) k1)) ra li re wa pi) 16 (ad 16) 80 (gA fl 4) (gi fl 1) (rd (gA fl 0) 40 k2) rfl (by decide)) mw_92 nw_69 mw_93 mw_77 pd_X7_put ⟨Nat.le_of_ble_eq_true rfl, Nat.le_of_ble_eq_true rfl⟩ rfl hl.1 rfl (Nat.le_of_ble_eq_true rfl) dX1_join_90 ⟨Nat.le_of_ble_eq_true rfl, Nat.le_of_ble_eq_true rfl⟩) hD hS hA (fun u_13 H locs hp hP hD hS => ?_)
        obtain rfl := hp.symm
        have hP : va_P D vwCl (XW ad cI cJ co (sA (sA (sB fl 0 (wrL (gB fl 0) 40 k1 ((rdL (gB fl 0) 40 k1) ||| (bitL (rd (gA fl 0) 40 k2))))) 3 (wr (gA fl 3) 80 (gi fl 1) k1)) 4 (wr (gA fl 4) 80 (gi fl 1) (rd (gA fl 0) 40 k2))) ra li re wa pi) H := hP
        have hD : va_D A (XW ad cI cJ co (sA (sA (sB fl 0 (wrL (gB fl 0) 40 k1 ((rdL (gB fl 0) 40 k1) ||| (bitL (rd (gA fl 0) 40 k2))))) 3 (wr (gA fl 3) 80 (gi fl 1) k1)) 4 (wr (gA fl 4) 80 (gi fl 1) (rd (gA fl 0) 40 k2))) ra li re wa pi) := hD
        refine lv_aload_n hx hb dX1_join_93 rfl (lv_at hl 2 rfl) ?_
        refine lv_dup hx hb dX1_join_94 rfl ?_
        refine va_get (D := D) (ci := 1) (v := .int (gi fl 1)) (C := RX1) (T := TX1) (N := 11) hx hb hg inGX1 hown hK hP 2 rfl rfl 8 (by decide) (hg _ mw_100) (fun _ h9 => h9) rfl dX1_join_95 ?_
        refine lv_iconst (v := 1) hx hb dX1_join_98 (by decide) ?_
        refine lv_iadd hx hb dX1_join_99 ?_
        refine va_put (D := D) (ci := 1) (v := .int ((gi fl 1) + 1)) (C := RX1) (T := TX1) (N := 11) hx hb hg inGX1 tyX1 tyX1_ok nmX1 hown hK hP hD hS 2 rfl rfl 8 (by decide) (hg _ mw_100) (fun _ h9 => h9) rfl (tyX1_ok 8 (by decide)) rfl rfl (Nat.le_of_ble_eq_true rfl) dX1_join_100 (fun H locs hP hD hS => ?_)
        have hP : va_P D vwCl (XW ad cI cJ co (si (sA (sA (sB fl 0 (wrL (gB fl 0) 40 k1 ((rdL (gB fl 0) 40 k1) ||| (bitL (rd (gA fl 0) 40 k2))))) 3 (wr (gA fl 3) 80 (gi fl 1) k1)) 4 (wr (gA fl 4) 80 (gi fl 1) (rd (gA fl 0) 40 k2))) 1 ((gi fl 1) + 1)) ra li re wa pi) H := hP
        have hD : va_D A (XW ad cI cJ co (si (sA (sA (sB fl 0 (wrL (gB fl 0) 40 k1 ((rdL (gB fl 0) 40 k1) ||| (bitL (rd (gA fl 0) 40 k2))))) 3 (wr (gA fl 3) 80 (gi fl 1) k1)) 4 (wr (gA fl 4) 80 (gi fl 1) (rd (gA fl 0) 40 k2))) 1 ((gi fl 1) + 1)) ra li re wa pi) := hD
        exact W.vret hx hb hr (fun t ht hW => ⟨⟨(XW ad cI cJ co (si (sA (sA (sB fl 0 (wrL (gB fl 0) 40 k1 ((rdL (gB fl 0) 40 k1) ||| (bitL (rd (gA fl 0) 40 k2))))) 3 (wr (gA fl 3) 80 (gi fl 1) k1)) 4 (wr (gA fl 4) 80 (gi fl 1) (rd (gA fl 0) 40 k2))) 1 ((gi fl 1) + 1)) ra li re wa pi), rfl, xw_eq rfl (show (si (sA (sA (sB fl 0 (wrL (gB fl 0) 40 k1 ((rdL (gB fl 0) 40 k1) ||| (bitL (rd (gA fl 0) 40 k2))))) 3 (wr (gA fl 3) 80 (gi fl 1) k1)) 4 (wr (gA fl 4) 80 (gi fl 1) (rd (gA fl 0) 40 k2))) 1 ((gi fl 1) + 1)) = (join fl k1 k2 k3) from (by first | (simp only [join, joinG, joinP, if_pos c_2, decide_eq_true c_2, decide_eq_false (not_not_intro c_2), if_neg c_37, bf_of c_37, if_neg c_81, decide_eq_false c_81, decide_eq_true c_81, if_pos c_81, gi_sl, gi_sA, gi_sB, gi_si_s, gi_si_n, gl_si, gl_sA, gl_sB, gl_sl_s, gl_sl_n, gA_si, gA_sl, gA_sB, gA_sA_s, gA_sA_n, gB_si, gB_sl, gB_sA, gB_sB_s, gB_sB_n, Nat.reduceBEq, if_true, if_false, eq_self, Bool.false_eq_true, reduceCtorEq, not_true_eq_false, not_false_eq_true, decide_true, decide_false, cond_true, cond_false, Bool.true_and, Bool.false_and, Bool.and_true, Bool.and_false, Bool.true_or, Bool.false_or, Bool.or_true, Bool.or_false, b2i_tt, b2i_ff]; done) | (simp only [join, joinG, joinP, if_pos c_2, decide_eq_true c_2, decide_eq_false (not_not_intro c_2), if_neg c_37, bf_of c_37, if_neg c_81, decide_eq_false c_81, decide_eq_true c_81, if_pos c_81, gi_sl, gi_sA, gi_sB, gi_si_s, gi_si_n, gl_si, gl_sA, gl_sB, gl_sl_s, gl_sl_n, gA_si, gA_sl, gA_sB, gA_sA_s, gA_sA_n, gB_si, gB_sl, gB_sA, gB_sB_s, gB_sB_n, Nat.reduceBEq, if_true, if_false, eq_self, Bool.false_eq_true, reduceCtorEq, not_true_eq_false, not_false_eq_true, decide_true, decide_false, cond_true, cond_false, Bool.true_and, Bool.false_and, Bool.and_true, Bool.and_false, Bool.true_or, Bool.false_or, Bool.or_true, Bool.or_false, b2i_tt, b2i_ff]; rfl) | (simp [join, joinG, joinP, c_2, c_37, c_81, gi_sl, gi_sA, gi_sB, gi_si_s, gi_si_n, gl_si, gl_sA, gl_sB, gl_sl_s, gl_sl_n, gA_si, gA_sl, gA_sB, gA_sA_s, gA_sA_n, gB_si, gB_sl, gB_sA, gB_sB_s, gB_sB_n, Nat.reduceBEq]; done))) rfl rfl rfl rfl rfl, ⟨by rw [ht]; exact hP, va_K.moved hW.alike hK, hD⟩⟩, hS.F ht⟩) hS.2.2 dX1_join_103
      · refine lv_iconst (v := (-1)) hx hb dX1_join_84 (by decide) ?_
        refine lv_goto (tgt := 90) hx hb dX1_join_85 (by decide) ?_
        refine kV (rSN hx hb hml hown hg hN hK hP hD (c_put l D cI cJ (XW ad cI cJ co (sA (sB fl 0 (wrL (gB fl 0) 40 k1 ((rdL (gB fl 0) 40 k1) ||| (bitL (rd (gA fl 0) 40 k2))))) 3 (wr (gA fl 3) 80 (gi fl 1) k1)) ra li re wa pi) 16 (ad 16) 80 (gA fl 4) (gi fl 1) (-1) rfl (by decide)) mw_92 nw_69 mw_93 mw_77 pd_X7_put ⟨Nat.le_of_ble_eq_true rfl, Nat.le_of_ble_eq_true rfl⟩ rfl hl.1 rfl (Nat.le_of_ble_eq_true rfl) dX1_join_90 ⟨Nat.le_of_ble_eq_true rfl, Nat.le_of_ble_eq_true rfl⟩) hD hS hA (fun u_14 H locs hp hP hD hS => ?_)
        obtain rfl := hp.symm
        have hP : va_P D vwCl (XW ad cI cJ co (sA (sA (sB fl 0 (wrL (gB fl 0) 40 k1 ((rdL (gB fl 0) 40 k1) ||| (bitL (rd (gA fl 0) 40 k2))))) 3 (wr (gA fl 3) 80 (gi fl 1) k1)) 4 (wr (gA fl 4) 80 (gi fl 1) (-1))) ra li re wa pi) H := hP
        have hD : va_D A (XW ad cI cJ co (sA (sA (sB fl 0 (wrL (gB fl 0) 40 k1 ((rdL (gB fl 0) 40 k1) ||| (bitL (rd (gA fl 0) 40 k2))))) 3 (wr (gA fl 3) 80 (gi fl 1) k1)) 4 (wr (gA fl 4) 80 (gi fl 1) (-1))) ra li re wa pi) := hD
        refine lv_aload_n hx hb dX1_join_93 rfl (lv_at hl 2 rfl) ?_
        refine lv_dup hx hb dX1_join_94 rfl ?_
        refine va_get (D := D) (ci := 1) (v := .int (gi fl 1)) (C := RX1) (T := TX1) (N := 11) hx hb hg inGX1 hown hK hP 2 rfl rfl 8 (by decide) (hg _ mw_100) (fun _ h9 => h9) rfl dX1_join_95 ?_
        refine lv_iconst (v := 1) hx hb dX1_join_98 (by decide) ?_
        refine lv_iadd hx hb dX1_join_99 ?_
        refine va_put (D := D) (ci := 1) (v := .int ((gi fl 1) + 1)) (C := RX1) (T := TX1) (N := 11) hx hb hg inGX1 tyX1 tyX1_ok nmX1 hown hK hP hD hS 2 rfl rfl 8 (by decide) (hg _ mw_100) (fun _ h9 => h9) rfl (tyX1_ok 8 (by decide)) rfl rfl (Nat.le_of_ble_eq_true rfl) dX1_join_100 (fun H locs hP hD hS => ?_)
        have hP : va_P D vwCl (XW ad cI cJ co (si (sA (sA (sB fl 0 (wrL (gB fl 0) 40 k1 ((rdL (gB fl 0) 40 k1) ||| (bitL (rd (gA fl 0) 40 k2))))) 3 (wr (gA fl 3) 80 (gi fl 1) k1)) 4 (wr (gA fl 4) 80 (gi fl 1) (-1))) 1 ((gi fl 1) + 1)) ra li re wa pi) H := hP
        have hD : va_D A (XW ad cI cJ co (si (sA (sA (sB fl 0 (wrL (gB fl 0) 40 k1 ((rdL (gB fl 0) 40 k1) ||| (bitL (rd (gA fl 0) 40 k2))))) 3 (wr (gA fl 3) 80 (gi fl 1) k1)) 4 (wr (gA fl 4) 80 (gi fl 1) (-1))) 1 ((gi fl 1) + 1)) ra li re wa pi) := hD
        exact W.vret hx hb hr (fun t ht hW => ⟨⟨(XW ad cI cJ co (si (sA (sA (sB fl 0 (wrL (gB fl 0) 40 k1 ((rdL (gB fl 0) 40 k1) ||| (bitL (rd (gA fl 0) 40 k2))))) 3 (wr (gA fl 3) 80 (gi fl 1) k1)) 4 (wr (gA fl 4) 80 (gi fl 1) (-1))) 1 ((gi fl 1) + 1)) ra li re wa pi), rfl, xw_eq rfl (show (si (sA (sA (sB fl 0 (wrL (gB fl 0) 40 k1 ((rdL (gB fl 0) 40 k1) ||| (bitL (rd (gA fl 0) 40 k2))))) 3 (wr (gA fl 3) 80 (gi fl 1) k1)) 4 (wr (gA fl 4) 80 (gi fl 1) (-1))) 1 ((gi fl 1) + 1)) = (join fl k1 k2 k3) from (by first | (simp only [join, joinG, joinP, if_pos c_2, decide_eq_true c_2, decide_eq_false (not_not_intro c_2), if_neg c_37, bf_of c_37, if_pos c_81, decide_eq_true c_81, decide_eq_false (not_not_intro c_81), gi_sl, gi_sA, gi_sB, gi_si_s, gi_si_n, gl_si, gl_sA, gl_sB, gl_sl_s, gl_sl_n, gA_si, gA_sl, gA_sB, gA_sA_s, gA_sA_n, gB_si, gB_sl, gB_sA, gB_sB_s, gB_sB_n, Nat.reduceBEq, if_true, if_false, eq_self, Bool.false_eq_true, reduceCtorEq, not_true_eq_false, not_false_eq_true, decide_true, decide_false, cond_true, cond_false, Bool.true_and, Bool.false_and, Bool.and_true, Bool.and_false, Bool.true_or, Bool.false_or, Bool.or_true, Bool.or_false, b2i_tt, b2i_ff]; done) | (simp only [join, joinG, joinP, if_pos c_2, decide_eq_true c_2, decide_eq_false (not_not_intro c_2), if_neg c_37, bf_of c_37, if_pos c_81, decide_eq_true c_81, decide_eq_false (not_not_intro c_81), gi_sl, gi_sA, gi_sB, gi_si_s, gi_si_n, gl_si, gl_sA, gl_sB, gl_sl_s, gl_sl_n, gA_si, gA_sl, gA_sB, gA_sA_s, gA_sA_n, gB_si, gB_sl, gB_sA, gB_sB_s, gB_sB_n, Nat.reduceBEq, if_true, if_false, eq_self, Bool.false_eq_true, reduceCtorEq, not_true_eq_false, not_false_eq_true, decide_true, decide_false, cond_true, cond_false, Bool.true_and, Bool.false_and, Bool.and_true, Bool.and_false, Bool.true_or, Bool.false_or, Bool.or_true, Bool.or_false, b2i_tt, b2i_ff]; rfl) | (simp [join, joinG, joinP, c_2, c_37, c_81, gi_sl, gi_sA, gi_sB, gi_si_s, gi_si_n, gl_si, gl_sA, gl_sB, gl_sl_s, gl_sl_n, gA_si, gA_sl, gA_sB, gA_sA_s, gA_sA_n, gB_si, gB_sl, gB_sA, gB_sB_s, gB_sB_n, Nat.reduceBEq]; done))) rfl rfl rfl rfl rfl, ⟨by rw [ht]; exact hP, va_K.moved hW.alike hK, hD⟩⟩, hS.F ht⟩) hS.2.2 dX1_join_103
    · have c_37 : (hs (rdL (gB fl 0) 40 k1) (rd (gA fl 0) 40 k2)) = true := b2i_1 c_37
      exact W.vret hx hb hr (fun t ht hW => ⟨⟨(XW ad cI cJ co fl ra li re wa pi), rfl, xw_eq rfl (show fl = (join fl k1 k2 k3) from (by first | (simp only [join, joinG, joinP, if_pos c_2, decide_eq_true c_2, decide_eq_false (not_not_intro c_2), if_pos c_37, c_37, gi_sl, gi_sA, gi_sB, gi_si_s, gi_si_n, gl_si, gl_sA, gl_sB, gl_sl_s, gl_sl_n, gA_si, gA_sl, gA_sB, gA_sA_s, gA_sA_n, gB_si, gB_sl, gB_sA, gB_sB_s, gB_sB_n, Nat.reduceBEq, if_true, if_false, eq_self, Bool.false_eq_true, reduceCtorEq, not_true_eq_false, not_false_eq_true, decide_true, decide_false, cond_true, cond_false, Bool.true_and, Bool.false_and, Bool.and_true, Bool.and_false, Bool.true_or, Bool.false_or, Bool.or_true, Bool.or_false, b2i_tt, b2i_ff]; done) | (simp only [join, joinG, joinP, if_pos c_2, decide_eq_true c_2, decide_eq_false (not_not_intro c_2), if_pos c_37, c_37, gi_sl, gi_sA, gi_sB, gi_si_s, gi_si_n, gl_si, gl_sA, gl_sB, gl_sl_s, gl_sl_n, gA_si, gA_sl, gA_sB, gA_sA_s, gA_sA_n, gB_si, gB_sl, gB_sA, gB_sB_s, gB_sB_n, Nat.reduceBEq, if_true, if_false, eq_self, Bool.false_eq_true, reduceCtorEq, not_true_eq_false, not_false_eq_true, decide_true, decide_false, cond_true, cond_false, Bool.true_and, Bool.false_and, Bool.and_true, Bool.and_false, Bool.true_or, Bool.false_or, Bool.or_true, Bool.or_false, b2i_tt, b2i_ff]; rfl) | (simp [join, joinG, joinP, c_2, c_37, gi_sl, gi_sA, gi_sB, gi_si_s, gi_si_n, gl_si, gl_sA, gl_sB, gl_sl_s, gl_sl_n, gA_si, gA_sl, gA_sB, gA_sA_s, gA_sA_n, gB_si, gB_sl, gB_sA, gB_sB_s, gB_sB_n, Nat.reduceBEq]; done))) rfl rfl rfl rfl rfl, ⟨by rw [ht]; exact hP, va_K.moved hW.alike hK, hD⟩⟩, hS.F ht⟩) hS.2.2 dX1_join_40
set_option maxHeartbeats 4000000 in
set_option maxRecDepth 100000 in
theorem c_leave (l : Launch) (D : va_G) (cI cJ : ClassId) (ad : Nat → Nat) (co fl ra li re wa pi : Ob) (k1 : Int32) : CT l D (TY cI cJ) yX1_leave (.code yX1_leave cX1_leave 5 (none : Option FieldType)) 2 0 0 (XW ad cI cJ co fl ra li re wa pi) [.ref (ad 2), .ref (ad 1), .int k1] (QV D (TY cI cJ) (fun u => u = (XW ad cI cJ co (leave co fl k1) ra li re wa pi))) := by
  refine ent (by decide) (Nat.le_of_ble_eq_true rfl) ?_
  intro p e s m below meth c ls A hx hb hr hg hown hml hlocks hnm hP hK hD hS hA hN hl
  have hl : lv_has ls 5 [(0, .ref (ad 2)), (1, .ref (ad 1)), (2, .int k1)] := hl
  refine lv_aload_n hx hb dX1_leave_0 rfl (lv_at hl 0 rfl) ?_
  refine va_get (D := D) (ci := 1) (v := .ref (ad 14)) (C := RX1) (T := TX1) (N := 11) hx hb hg inGX1 hown hK hP 2 rfl rfl 2 (by decide) (hg _ mw_94) (fun _ h9 => h9) rfl dX1_leave_1 ?_
  refine lv_iload_n hx hb dX1_leave_4 rfl (lv_at hl 2 rfl) ?_
  refine kI (rSN hx hb hml hown hg hN hK hP hD (c_at l D cI cJ (XW ad cI cJ co fl ra li re wa pi) 14 (ad 14) 40 (gA fl 2) k1 rfl (by decide)) mw_84 nw_65 mw_85 mw_77 pd_X7_at ⟨Nat.le_of_ble_eq_true rfl, Nat.le_of_ble_eq_true rfl⟩ rfl hl.1 rfl (Nat.le_of_ble_eq_true rfl) dX1_leave_5 ⟨Nat.le_of_ble_eq_true rfl, Nat.le_of_ble_eq_true rfl⟩) hD hS hA (fun r_1 u_1 H locs hp hP hD hS => ?_)
  obtain ⟨er, eu⟩ := hp
  obtain rfl := er.symm
  obtain rfl := eu.symm
  refine lv_istore_n (lv' := [(3, .int (rd (gA fl 2) 40 k1)), (0, .ref (ad 2)), (1, .ref (ad 1)), (2, .int k1)]) hx hb dX1_leave_8 rfl hl (by decide) rfl (fun ls hl => ?_)
  refine lv_aload_n hx hb dX1_leave_9 rfl (lv_at hl 2 rfl) ?_
  refine va_getN (D := D) (ci := 0) (v := .ref (ad 8)) (C := RX0) (T := TX0) (N := 5) hx hb hg inGX0 hown hK hP 1 rfl rfl 0 (by decide) (hN.use nw_1) (fun _ h9 => h9) rfl dX1_leave_10 ?_
  refine lv_iload_n hx hb dX1_leave_13 rfl (lv_at hl 0 rfl) ?_
  refine kI (rSN hx hb hml hown hg hN hK hP hD (c_at l D cI cJ (XW ad cI cJ co fl ra li re wa pi) 8 (ad 8) 40 (gA co 0) (rd (gA fl 2) 40 k1) rfl (by decide)) mw_84 nw_65 mw_85 mw_77 pd_X7_at ⟨Nat.le_of_ble_eq_true rfl, Nat.le_of_ble_eq_true rfl⟩ rfl hl.1 rfl (Nat.le_of_ble_eq_true rfl) dX1_leave_14 ⟨Nat.le_of_ble_eq_true rfl, Nat.le_of_ble_eq_true rfl⟩) hD hS hA (fun r_2 u_2 H locs hp hP hD hS => ?_)
  obtain ⟨er, eu⟩ := hp
  obtain rfl := er.symm
  obtain rfl := eu.symm
  refine lv_istore (lv' := [(4, .int (rd (gA co 0) 40 (rd (gA fl 2) 40 k1))), (3, .int (rd (gA fl 2) 40 k1)), (0, .ref (ad 2)), (1, .ref (ad 1)), (2, .int k1)]) hx hb dX1_leave_17 hl (by decide) rfl (fun ls hl => ?_)
  refine lv_iload hx hb dX1_leave_19 (lv_at hl 0 rfl) ?_
  refine lv_if_eq (tgt := 30) hx hb dX1_leave_21 (by decide) (fun c_21 => ?_) (fun c_21 => ?_)
  · refine lv_aload_n hx hb dX1_leave_30 rfl (lv_at hl 2 rfl) ?_
    refine lv_iload_n hx hb dX1_leave_31 rfl (lv_at hl 4 rfl) ?_
    refine lv_iload_n hx hb dX1_leave_32 rfl (lv_at hl 1 rfl) ?_
    refine lv_iconst (v := 1) hx hb dX1_leave_33 (by decide) ?_
    refine lv_iadd hx hb dX1_leave_34 ?_
    refine lv_aload_n hx hb dX1_leave_35 rfl (lv_at hl 3 rfl) ?_
    refine va_getN (D := D) (ci := 0) (v := .int (gi co 0)) (C := RX0) (T := TX0) (N := 5) hx hb hg inGX0 hown hK hP 1 rfl rfl 4 (by decide) (hN.use nw_9) (fun _ h9 => h9) rfl dX1_leave_36 ?_
    refine kV (rV (q0 := 2) (ci := 1) hx hb hml hown hg hN hK hP hD (c_join l D cI cJ ad co fl ra li re wa pi k1 ((rd (gA fl 2) 40 k1) + 1) (gi co 0)) mw_102 mw_103 mw_104 mw_105 mw_106 pdv_X1_join ⟨Nat.le_of_ble_eq_true rfl, Nat.le_of_ble_eq_true rfl⟩ rfl rfl rfl hl.1 rfl (Nat.le_of_ble_eq_true rfl) dX1_leave_39 ⟨Nat.le_of_ble_eq_true rfl, Nat.le_of_ble_eq_true rfl⟩) hD hS hA (fun u_3 H locs hp hP hD hS => ?_)
    obtain rfl := hp.symm
    have hP : va_P D vwCl (XW ad cI cJ co (join fl k1 ((rd (gA fl 2) 40 k1) + 1) (gi co 0)) ra li re wa pi) H := hP
    have hD : va_D A (XW ad cI cJ co (join fl k1 ((rd (gA fl 2) 40 k1) + 1) (gi co 0)) ra li re wa pi) := hD
    refine lv_iload hx hb dX1_leave_42 (lv_at hl 0 rfl) ?_
    refine kI (rSN hx hb hml hown hg hN hK hP hD (c_jumps l D cI cJ (XW ad cI cJ co (join fl k1 ((rd (gA fl 2) 40 k1) + 1) (gi co 0)) ra li re wa pi) (rd (gA co 0) 40 (rd (gA fl 2) 40 k1))) mw_86 nw_67 mw_87 mw_77 pd_X7_jumps ⟨Nat.le_of_ble_eq_true rfl, Nat.le_of_ble_eq_true rfl⟩ rfl hl.1 rfl (Nat.le_of_ble_eq_true rfl) dX1_leave_44 ⟨Nat.le_of_ble_eq_true rfl, Nat.le_of_ble_eq_true rfl⟩) hD hS hA (fun r_4 u_4 H locs hp hP hD hS => ?_)
    obtain ⟨er, eu⟩ := hp
    obtain rfl := er.symm
    obtain rfl := eu.symm
    refine lv_if_eq (tgt := 67) hx hb dX1_leave_47 (by decide) (fun c_47 => ?_) (fun c_47 => ?_)
    · have c_47 : ¬ (jmp (rd (gA co 0) 40 (rd (gA fl 2) 40 k1))) = true := b2i_0 c_47
      refine lv_iload hx hb dX1_leave_67 (lv_at hl 0 rfl) ?_
      refine lv_iconst (v := 3) hx hb dX1_leave_69 (by decide) ?_
      refine lv_icmp_ne (tgt := 86) hx hb dX1_leave_70 (by decide) (fun c_70 => ?_) (fun c_70 => ?_)
      · exact W.vret hx hb hr (fun t ht hW => ⟨⟨(XW ad cI cJ co (join fl k1 ((rd (gA fl 2) 40 k1) + 1) (gi co 0)) ra li re wa pi), rfl, xw_eq rfl (show (join fl k1 ((rd (gA fl 2) 40 k1) + 1) (gi co 0)) = (leave co fl k1) from (by first | (simp only [leave, leaveA, leaveB, leaveC, leaveK, if_pos c_21, decide_eq_true c_21, decide_eq_false (not_not_intro c_21), if_neg c_47, bf_of c_47, if_neg c_70, decide_eq_false c_70, decide_eq_true c_70, if_pos c_70, gi_sl, gi_sA, gi_sB, gi_si_s, gi_si_n, gl_si, gl_sA, gl_sB, gl_sl_s, gl_sl_n, gA_si, gA_sl, gA_sB, gA_sA_s, gA_sA_n, gB_si, gB_sl, gB_sA, gB_sB_s, gB_sB_n, Nat.reduceBEq, if_true, if_false, eq_self, Bool.false_eq_true, reduceCtorEq, not_true_eq_false, not_false_eq_true, decide_true, decide_false, cond_true, cond_false, Bool.true_and, Bool.false_and, Bool.and_true, Bool.and_false, Bool.true_or, Bool.false_or, Bool.or_true, Bool.or_false, b2i_tt, b2i_ff]; done) | (simp only [leave, leaveA, leaveB, leaveC, leaveK, if_pos c_21, decide_eq_true c_21, decide_eq_false (not_not_intro c_21), if_neg c_47, bf_of c_47, if_neg c_70, decide_eq_false c_70, decide_eq_true c_70, if_pos c_70, gi_sl, gi_sA, gi_sB, gi_si_s, gi_si_n, gl_si, gl_sA, gl_sB, gl_sl_s, gl_sl_n, gA_si, gA_sl, gA_sB, gA_sA_s, gA_sA_n, gB_si, gB_sl, gB_sA, gB_sB_s, gB_sB_n, Nat.reduceBEq, if_true, if_false, eq_self, Bool.false_eq_true, reduceCtorEq, not_true_eq_false, not_false_eq_true, decide_true, decide_false, cond_true, cond_false, Bool.true_and, Bool.false_and, Bool.and_true, Bool.and_false, Bool.true_or, Bool.false_or, Bool.or_true, Bool.or_false, b2i_tt, b2i_ff]; rfl) | (simp [leave, leaveA, leaveB, leaveC, leaveK, c_21, c_47, c_70, gi_sl, gi_sA, gi_sB, gi_si_s, gi_si_n, gl_si, gl_sA, gl_sB, gl_sl_s, gl_sl_n, gA_si, gA_sl, gA_sB, gA_sA_s, gA_sA_n, gB_si, gB_sl, gB_sA, gB_sB_s, gB_sB_n, Nat.reduceBEq]; done))) rfl rfl rfl rfl rfl, ⟨by rw [ht]; exact hP, va_K.moved hW.alike hK, hD⟩⟩, hS.F ht⟩) hS.2.2 dX1_leave_86
      · refine lv_aload_n hx hb dX1_leave_73 rfl (lv_at hl 2 rfl) ?_
        refine lv_iload_n hx hb dX1_leave_74 rfl (lv_at hl 4 rfl) ?_
        refine lv_aload_n hx hb dX1_leave_75 rfl (lv_at hl 3 rfl) ?_
        refine va_getN (D := D) (ci := 0) (v := .int (gi co 0)) (C := RX0) (T := TX0) (N := 5) hx hb hg inGX0 hown hK hP 1 rfl rfl 4 (by decide) (hN.use nw_9) (fun _ h9 => h9) rfl dX1_leave_76 ?_
        refine lv_aload_n hx hb dX1_leave_79 rfl (lv_at hl 3 rfl) ?_
        refine va_getN (D := D) (ci := 0) (v := .int (gi co 0)) (C := RX0) (T := TX0) (N := 5) hx hb hg inGX0 hown hK hP 1 rfl rfl 4 (by decide) (hN.use nw_9) (fun _ h9 => h9) rfl dX1_leave_80 ?_
        refine kV (rV (q0 := 2) (ci := 1) hx hb hml hown hg hN hK hP hD (c_join l D cI cJ ad co (join fl k1 ((rd (gA fl 2) 40 k1) + 1) (gi co 0)) ra li re wa pi k1 (gi co 0) (gi co 0)) mw_102 mw_103 mw_104 mw_105 mw_106 pdv_X1_join ⟨Nat.le_of_ble_eq_true rfl, Nat.le_of_ble_eq_true rfl⟩ rfl rfl rfl hl.1 rfl (Nat.le_of_ble_eq_true rfl) dX1_leave_83 ⟨Nat.le_of_ble_eq_true rfl, Nat.le_of_ble_eq_true rfl⟩) hD hS hA (fun u_5 H locs hp hP hD hS => ?_)
        obtain rfl := hp.symm
        have hP : va_P D vwCl (XW ad cI cJ co (join (join fl k1 ((rd (gA fl 2) 40 k1) + 1) (gi co 0)) k1 (gi co 0) (gi co 0)) ra li re wa pi) H := hP
        have hD : va_D A (XW ad cI cJ co (join (join fl k1 ((rd (gA fl 2) 40 k1) + 1) (gi co 0)) k1 (gi co 0) (gi co 0)) ra li re wa pi) := hD
        exact W.vret hx hb hr (fun t ht hW => ⟨⟨(XW ad cI cJ co (join (join fl k1 ((rd (gA fl 2) 40 k1) + 1) (gi co 0)) k1 (gi co 0) (gi co 0)) ra li re wa pi), rfl, xw_eq rfl (show (join (join fl k1 ((rd (gA fl 2) 40 k1) + 1) (gi co 0)) k1 (gi co 0) (gi co 0)) = (leave co fl k1) from (by first | (simp only [leave, leaveA, leaveB, leaveC, leaveK, if_pos c_21, decide_eq_true c_21, decide_eq_false (not_not_intro c_21), if_neg c_47, bf_of c_47, if_pos c_70, decide_eq_true c_70, decide_eq_false (not_not_intro c_70), gi_sl, gi_sA, gi_sB, gi_si_s, gi_si_n, gl_si, gl_sA, gl_sB, gl_sl_s, gl_sl_n, gA_si, gA_sl, gA_sB, gA_sA_s, gA_sA_n, gB_si, gB_sl, gB_sA, gB_sB_s, gB_sB_n, Nat.reduceBEq, if_true, if_false, eq_self, Bool.false_eq_true, reduceCtorEq, not_true_eq_false, not_false_eq_true, decide_true, decide_false, cond_true, cond_false, Bool.true_and, Bool.false_and, Bool.and_true, Bool.and_false, Bool.true_or, Bool.false_or, Bool.or_true, Bool.or_false, b2i_tt, b2i_ff]; done) | (simp only [leave, leaveA, leaveB, leaveC, leaveK, if_pos c_21, decide_eq_true c_21, decide_eq_false (not_not_intro c_21), if_neg c_47, bf_of c_47, if_pos c_70, decide_eq_true c_70, decide_eq_false (not_not_intro c_70), gi_sl, gi_sA, gi_sB, gi_si_s, gi_si_n, gl_si, gl_sA, gl_sB, gl_sl_s, gl_sl_n, gA_si, gA_sl, gA_sB, gA_sA_s, gA_sA_n, gB_si, gB_sl, gB_sA, gB_sB_s, gB_sB_n, Nat.reduceBEq, if_true, if_false, eq_self, Bool.false_eq_true, reduceCtorEq, not_true_eq_false, not_false_eq_true, decide_true, decide_false, cond_true, cond_false, Bool.true_and, Bool.false_and, Bool.and_true, Bool.and_false, Bool.true_or, Bool.false_or, Bool.or_true, Bool.or_false, b2i_tt, b2i_ff]; rfl) | (simp [leave, leaveA, leaveB, leaveC, leaveK, c_21, c_47, c_70, gi_sl, gi_sA, gi_sB, gi_si_s, gi_si_n, gl_si, gl_sA, gl_sB, gl_sl_s, gl_sl_n, gA_si, gA_sl, gA_sB, gA_sA_s, gA_sA_n, gB_si, gB_sl, gB_sA, gB_sB_s, gB_sB_n, Nat.reduceBEq]; done))) rfl rfl rfl rfl rfl, ⟨by rw [ht]; exact hP, va_K.moved hW.alike hK, hD⟩⟩, hS.F ht⟩) hS.2.2 dX1_leave_86
    · have c_47 : (jmp (rd (gA co 0) 40 (rd (gA fl 2) 40 k1))) = true := b2i_1 c_47
      refine lv_aload_n hx hb dX1_leave_50 rfl (lv_at hl 2 rfl) ?_
      refine lv_iload_n hx hb dX1_leave_51 rfl (lv_at hl 4 rfl) ?_
      refine lv_aload_n hx hb dX1_leave_52 rfl (lv_at hl 3 rfl) ?_
      refine va_getN (D := D) (ci := 0) (v := .ref (ad 9)) (C := RX0) (T := TX0) (N := 5) hx hb hg inGX0 hown hK hP 1 rfl rfl 1 (by decide) (hN.use nw_3) (fun _ h9 => h9) rfl dX1_leave_53 ?_
      refine lv_iload_n hx hb dX1_leave_56 rfl (lv_at hl 1 rfl) ?_
      refine kI (rSN hx hb hml hown hg hN hK hP hD (c_at l D cI cJ (XW ad cI cJ co (join fl k1 ((rd (gA fl 2) 40 k1) + 1) (gi co 0)) ra li re wa pi) 9 (ad 9) 40 (gA co 1) (rd (gA fl 2) 40 k1) rfl (by decide)) mw_84 nw_65 mw_85 mw_77 pd_X7_at ⟨Nat.le_of_ble_eq_true rfl, Nat.le_of_ble_eq_true rfl⟩ rfl hl.1 rfl (Nat.le_of_ble_eq_true rfl) dX1_leave_57 ⟨Nat.le_of_ble_eq_true rfl, Nat.le_of_ble_eq_true rfl⟩) hD hS hA (fun r_6 u_6 H locs hp hP hD hS => ?_)
      obtain ⟨er, eu⟩ := hp
      obtain rfl := er.symm
      obtain rfl := eu.symm
      refine lv_aload_n hx hb dX1_leave_60 rfl (lv_at hl 3 rfl) ?_
      refine va_getN (D := D) (ci := 0) (v := .int (gi co 0)) (C := RX0) (T := TX0) (N := 5) hx hb hg inGX0 hown hK hP 1 rfl rfl 4 (by decide) (hN.use nw_9) (fun _ h9 => h9) rfl dX1_leave_61 ?_
      refine kV (rV (q0 := 2) (ci := 1) hx hb hml hown hg hN hK hP hD (c_join l D cI cJ ad co (join fl k1 ((rd (gA fl 2) 40 k1) + 1) (gi co 0)) ra li re wa pi k1 (rd (gA co 1) 40 (rd (gA fl 2) 40 k1)) (gi co 0)) mw_102 mw_103 mw_104 mw_105 mw_106 pdv_X1_join ⟨Nat.le_of_ble_eq_true rfl, Nat.le_of_ble_eq_true rfl⟩ rfl rfl rfl hl.1 rfl (Nat.le_of_ble_eq_true rfl) dX1_leave_64 ⟨Nat.le_of_ble_eq_true rfl, Nat.le_of_ble_eq_true rfl⟩) hD hS hA (fun u_7 H locs hp hP hD hS => ?_)
      obtain rfl := hp.symm
      have hP : va_P D vwCl (XW ad cI cJ co (join (join fl k1 ((rd (gA fl 2) 40 k1) + 1) (gi co 0)) k1 (rd (gA co 1) 40 (rd (gA fl 2) 40 k1)) (gi co 0)) ra li re wa pi) H := hP
      have hD : va_D A (XW ad cI cJ co (join (join fl k1 ((rd (gA fl 2) 40 k1) + 1) (gi co 0)) k1 (rd (gA co 1) 40 (rd (gA fl 2) 40 k1)) (gi co 0)) ra li re wa pi) := hD
      refine lv_iload hx hb dX1_leave_67 (lv_at hl 0 rfl) ?_
      refine lv_iconst (v := 3) hx hb dX1_leave_69 (by decide) ?_
      refine lv_icmp_ne (tgt := 86) hx hb dX1_leave_70 (by decide) (fun c_70 => ?_) (fun c_70 => ?_)
      · exact W.vret hx hb hr (fun t ht hW => ⟨⟨(XW ad cI cJ co (join (join fl k1 ((rd (gA fl 2) 40 k1) + 1) (gi co 0)) k1 (rd (gA co 1) 40 (rd (gA fl 2) 40 k1)) (gi co 0)) ra li re wa pi), rfl, xw_eq rfl (show (join (join fl k1 ((rd (gA fl 2) 40 k1) + 1) (gi co 0)) k1 (rd (gA co 1) 40 (rd (gA fl 2) 40 k1)) (gi co 0)) = (leave co fl k1) from (by first | (simp only [leave, leaveA, leaveB, leaveC, leaveK, if_pos c_21, decide_eq_true c_21, decide_eq_false (not_not_intro c_21), if_pos c_47, c_47, if_neg c_70, decide_eq_false c_70, decide_eq_true c_70, if_pos c_70, gi_sl, gi_sA, gi_sB, gi_si_s, gi_si_n, gl_si, gl_sA, gl_sB, gl_sl_s, gl_sl_n, gA_si, gA_sl, gA_sB, gA_sA_s, gA_sA_n, gB_si, gB_sl, gB_sA, gB_sB_s, gB_sB_n, Nat.reduceBEq, if_true, if_false, eq_self, Bool.false_eq_true, reduceCtorEq, not_true_eq_false, not_false_eq_true, decide_true, decide_false, cond_true, cond_false, Bool.true_and, Bool.false_and, Bool.and_true, Bool.and_false, Bool.true_or, Bool.false_or, Bool.or_true, Bool.or_false, b2i_tt, b2i_ff]; done) | (simp only [leave, leaveA, leaveB, leaveC, leaveK, if_pos c_21, decide_eq_true c_21, decide_eq_false (not_not_intro c_21), if_pos c_47, c_47, if_neg c_70, decide_eq_false c_70, decide_eq_true c_70, if_pos c_70, gi_sl, gi_sA, gi_sB, gi_si_s, gi_si_n, gl_si, gl_sA, gl_sB, gl_sl_s, gl_sl_n, gA_si, gA_sl, gA_sB, gA_sA_s, gA_sA_n, gB_si, gB_sl, gB_sA, gB_sB_s, gB_sB_n, Nat.reduceBEq, if_true, if_false, eq_self, Bool.false_eq_true, reduceCtorEq, not_true_eq_false, not_false_eq_true, decide_true, decide_false, cond_true, cond_false, Bool.true_and, Bool.false_and, Bool.and_true, Bool.and_false, Bool.true_or, Bool.false_or, Bool.or_true, Bool.or_false, b2i_tt, b2i_ff]; rfl) | (simp [leave, leaveA, leaveB, leaveC, leaveK, c_21, c_47, c_70, gi_sl, gi_sA, gi_sB, gi_si_s, gi_si_n, gl_si, gl_sA, gl_sB, gl_sl_s, gl_sl_n, gA_si, gA_sl, gA_sB, gA_sA_s, gA_sA_n, gB_si, gB_sl, gB_sA, gB_sB_s, gB_sB_n, Nat.reduceBEq]; done))) rfl rfl rfl rfl rfl, ⟨by rw [ht]; exact hP, va_K.moved hW.alike hK, hD⟩⟩, hS.F ht⟩) hS.2.2 dX1_leave_86
      · refine lv_aload_n hx hb dX1_leave_73 rfl (lv_at hl 2 rfl) ?_
        refine lv_iload_n hx hb dX1_leave_74 rfl (lv_at hl 4 rfl) ?_
        refine lv_aload_n hx hb dX1_leave_75 rfl (lv_at hl 3 rfl) ?_
        refine va_getN (D := D) (ci := 0) (v := .int (gi co 0)) (C := RX0) (T := TX0) (N := 5) hx hb hg inGX0 hown hK hP 1 rfl rfl 4 (by decide) (hN.use nw_9) (fun _ h9 => h9) rfl dX1_leave_76 ?_
        refine lv_aload_n hx hb dX1_leave_79 rfl (lv_at hl 3 rfl) ?_
        refine va_getN (D := D) (ci := 0) (v := .int (gi co 0)) (C := RX0) (T := TX0) (N := 5) hx hb hg inGX0 hown hK hP 1 rfl rfl 4 (by decide) (hN.use nw_9) (fun _ h9 => h9) rfl dX1_leave_80 ?_
        refine kV (rV (q0 := 2) (ci := 1) hx hb hml hown hg hN hK hP hD (c_join l D cI cJ ad co (join (join fl k1 ((rd (gA fl 2) 40 k1) + 1) (gi co 0)) k1 (rd (gA co 1) 40 (rd (gA fl 2) 40 k1)) (gi co 0)) ra li re wa pi k1 (gi co 0) (gi co 0)) mw_102 mw_103 mw_104 mw_105 mw_106 pdv_X1_join ⟨Nat.le_of_ble_eq_true rfl, Nat.le_of_ble_eq_true rfl⟩ rfl rfl rfl hl.1 rfl (Nat.le_of_ble_eq_true rfl) dX1_leave_83 ⟨Nat.le_of_ble_eq_true rfl, Nat.le_of_ble_eq_true rfl⟩) hD hS hA (fun u_8 H locs hp hP hD hS => ?_)
        obtain rfl := hp.symm
        have hP : va_P D vwCl (XW ad cI cJ co (join (join (join fl k1 ((rd (gA fl 2) 40 k1) + 1) (gi co 0)) k1 (rd (gA co 1) 40 (rd (gA fl 2) 40 k1)) (gi co 0)) k1 (gi co 0) (gi co 0)) ra li re wa pi) H := hP
        have hD : va_D A (XW ad cI cJ co (join (join (join fl k1 ((rd (gA fl 2) 40 k1) + 1) (gi co 0)) k1 (rd (gA co 1) 40 (rd (gA fl 2) 40 k1)) (gi co 0)) k1 (gi co 0) (gi co 0)) ra li re wa pi) := hD
        exact W.vret hx hb hr (fun t ht hW => ⟨⟨(XW ad cI cJ co (join (join (join fl k1 ((rd (gA fl 2) 40 k1) + 1) (gi co 0)) k1 (rd (gA co 1) 40 (rd (gA fl 2) 40 k1)) (gi co 0)) k1 (gi co 0) (gi co 0)) ra li re wa pi), rfl, xw_eq rfl (show (join (join (join fl k1 ((rd (gA fl 2) 40 k1) + 1) (gi co 0)) k1 (rd (gA co 1) 40 (rd (gA fl 2) 40 k1)) (gi co 0)) k1 (gi co 0) (gi co 0)) = (leave co fl k1) from (by first | (simp only [leave, leaveA, leaveB, leaveC, leaveK, if_pos c_21, decide_eq_true c_21, decide_eq_false (not_not_intro c_21), if_pos c_47, c_47, if_pos c_70, decide_eq_true c_70, decide_eq_false (not_not_intro c_70), gi_sl, gi_sA, gi_sB, gi_si_s, gi_si_n, gl_si, gl_sA, gl_sB, gl_sl_s, gl_sl_n, gA_si, gA_sl, gA_sB, gA_sA_s, gA_sA_n, gB_si, gB_sl, gB_sA, gB_sB_s, gB_sB_n, Nat.reduceBEq, if_true, if_false, eq_self, Bool.false_eq_true, reduceCtorEq, not_true_eq_false, not_false_eq_true, decide_true, decide_false, cond_true, cond_false, Bool.true_and, Bool.false_and, Bool.and_true, Bool.and_false, Bool.true_or, Bool.false_or, Bool.or_true, Bool.or_false, b2i_tt, b2i_ff]; done) | (simp only [leave, leaveA, leaveB, leaveC, leaveK, if_pos c_21, decide_eq_true c_21, decide_eq_false (not_not_intro c_21), if_pos c_47, c_47, if_pos c_70, decide_eq_true c_70, decide_eq_false (not_not_intro c_70), gi_sl, gi_sA, gi_sB, gi_si_s, gi_si_n, gl_si, gl_sA, gl_sB, gl_sl_s, gl_sl_n, gA_si, gA_sl, gA_sB, gA_sA_s, gA_sA_n, gB_si, gB_sl, gB_sA, gB_sB_s, gB_sB_n, Nat.reduceBEq, if_true, if_false, eq_self, Bool.false_eq_true, reduceCtorEq, not_true_eq_false, not_false_eq_true, decide_true, decide_false, cond_true, cond_false, Bool.true_and, Bool.false_and, Bool.and_true, Bool.and_false, Bool.true_or, Bool.false_or, Bool.or_true, Bool.or_false, b2i_tt, b2i_ff]; rfl) | (simp [leave, leaveA, leaveB, leaveC, leaveK, c_21, c_47, c_70, gi_sl, gi_sA, gi_sB, gi_si_s, gi_si_n, gl_si, gl_sA, gl_sB, gl_sl_s, gl_sl_n, gA_si, gA_sl, gA_sB, gA_sA_s, gA_sA_n, gB_si, gB_sl, gB_sA, gB_sB_s, gB_sB_n, Nat.reduceBEq]; done))) rfl rfl rfl rfl rfl, ⟨by rw [ht]; exact hP, va_K.moved hW.alike hK, hD⟩⟩, hS.F ht⟩) hS.2.2 dX1_leave_86
  · refine lv_iload hx hb dX1_leave_24 (lv_at hl 0 rfl) ?_
    refine lv_iconst (v := 1) hx hb dX1_leave_26 (by decide) ?_
    refine lv_icmp_ne (tgt := 42) hx hb dX1_leave_27 (by decide) (fun c_27 => ?_) (fun c_27 => ?_)
    · refine lv_iload hx hb dX1_leave_42 (lv_at hl 0 rfl) ?_
      refine kI (rSN hx hb hml hown hg hN hK hP hD (c_jumps l D cI cJ (XW ad cI cJ co fl ra li re wa pi) (rd (gA co 0) 40 (rd (gA fl 2) 40 k1))) mw_86 nw_67 mw_87 mw_77 pd_X7_jumps ⟨Nat.le_of_ble_eq_true rfl, Nat.le_of_ble_eq_true rfl⟩ rfl hl.1 rfl (Nat.le_of_ble_eq_true rfl) dX1_leave_44 ⟨Nat.le_of_ble_eq_true rfl, Nat.le_of_ble_eq_true rfl⟩) hD hS hA (fun r_9 u_9 H locs hp hP hD hS => ?_)
      obtain ⟨er, eu⟩ := hp
      obtain rfl := er.symm
      obtain rfl := eu.symm
      refine lv_if_eq (tgt := 67) hx hb dX1_leave_47 (by decide) (fun c_47 => ?_) (fun c_47 => ?_)
      · have c_47 : ¬ (jmp (rd (gA co 0) 40 (rd (gA fl 2) 40 k1))) = true := b2i_0 c_47
        refine lv_iload hx hb dX1_leave_67 (lv_at hl 0 rfl) ?_
        refine lv_iconst (v := 3) hx hb dX1_leave_69 (by decide) ?_
        refine lv_icmp_ne (tgt := 86) hx hb dX1_leave_70 (by decide) (fun c_70 => ?_) (fun c_70 => ?_)
        · exact W.vret hx hb hr (fun t ht hW => ⟨⟨(XW ad cI cJ co fl ra li re wa pi), rfl, xw_eq rfl (show fl = (leave co fl k1) from (by first | (simp only [leave, leaveA, leaveB, leaveC, leaveK, if_neg c_21, decide_eq_false c_21, decide_eq_true c_21, if_pos c_21, if_neg c_27, decide_eq_false c_27, decide_eq_true c_27, if_pos c_27, if_neg c_47, bf_of c_47, if_neg c_70, decide_eq_false c_70, decide_eq_true c_70, if_pos c_70, gi_sl, gi_sA, gi_sB, gi_si_s, gi_si_n, gl_si, gl_sA, gl_sB, gl_sl_s, gl_sl_n, gA_si, gA_sl, gA_sB, gA_sA_s, gA_sA_n, gB_si, gB_sl, gB_sA, gB_sB_s, gB_sB_n, Nat.reduceBEq, if_true, if_false, eq_self, Bool.false_eq_true, reduceCtorEq, not_true_eq_false, not_false_eq_true, decide_true, decide_false, cond_true, cond_false, Bool.true_and, Bool.false_and, Bool.and_true, Bool.and_false, Bool.true_or, Bool.false_or, Bool.or_true, Bool.or_false, b2i_tt, b2i_ff]; done) | (simp only [leave, leaveA, leaveB, leaveC, leaveK, if_neg c_21, decide_eq_false c_21, decide_eq_true c_21, if_pos c_21, if_neg c_27, decide_eq_false c_27, decide_eq_true c_27, if_pos c_27, if_neg c_47, bf_of c_47, if_neg c_70, decide_eq_false c_70, decide_eq_true c_70, if_pos c_70, gi_sl, gi_sA, gi_sB, gi_si_s, gi_si_n, gl_si, gl_sA, gl_sB, gl_sl_s, gl_sl_n, gA_si, gA_sl, gA_sB, gA_sA_s, gA_sA_n, gB_si, gB_sl, gB_sA, gB_sB_s, gB_sB_n, Nat.reduceBEq, if_true, if_false, eq_self, Bool.false_eq_true, reduceCtorEq, not_true_eq_false, not_false_eq_true, decide_true, decide_false, cond_true, cond_false, Bool.true_and, Bool.false_and, Bool.and_true, Bool.and_false, Bool.true_or, Bool.false_or, Bool.or_true, Bool.or_false, b2i_tt, b2i_ff]; rfl) | (simp [leave, leaveA, leaveB, leaveC, leaveK, c_21, c_27, c_47, c_70, gi_sl, gi_sA, gi_sB, gi_si_s, gi_si_n, gl_si, gl_sA, gl_sB, gl_sl_s, gl_sl_n, gA_si, gA_sl, gA_sB, gA_sA_s, gA_sA_n, gB_si, gB_sl, gB_sA, gB_sB_s, gB_sB_n, Nat.reduceBEq]; done))) rfl rfl rfl rfl rfl, ⟨by rw [ht]; exact hP, va_K.moved hW.alike hK, hD⟩⟩, hS.F ht⟩) hS.2.2 dX1_leave_86
        · refine lv_aload_n hx hb dX1_leave_73 rfl (lv_at hl 2 rfl) ?_
          refine lv_iload_n hx hb dX1_leave_74 rfl (lv_at hl 4 rfl) ?_
          refine lv_aload_n hx hb dX1_leave_75 rfl (lv_at hl 3 rfl) ?_
          refine va_getN (D := D) (ci := 0) (v := .int (gi co 0)) (C := RX0) (T := TX0) (N := 5) hx hb hg inGX0 hown hK hP 1 rfl rfl 4 (by decide) (hN.use nw_9) (fun _ h9 => h9) rfl dX1_leave_76 ?_
          refine lv_aload_n hx hb dX1_leave_79 rfl (lv_at hl 3 rfl) ?_
          refine va_getN (D := D) (ci := 0) (v := .int (gi co 0)) (C := RX0) (T := TX0) (N := 5) hx hb hg inGX0 hown hK hP 1 rfl rfl 4 (by decide) (hN.use nw_9) (fun _ h9 => h9) rfl dX1_leave_80 ?_
          refine kV (rV (q0 := 2) (ci := 1) hx hb hml hown hg hN hK hP hD (c_join l D cI cJ ad co fl ra li re wa pi k1 (gi co 0) (gi co 0)) mw_102 mw_103 mw_104 mw_105 mw_106 pdv_X1_join ⟨Nat.le_of_ble_eq_true rfl, Nat.le_of_ble_eq_true rfl⟩ rfl rfl rfl hl.1 rfl (Nat.le_of_ble_eq_true rfl) dX1_leave_83 ⟨Nat.le_of_ble_eq_true rfl, Nat.le_of_ble_eq_true rfl⟩) hD hS hA (fun u_10 H locs hp hP hD hS => ?_)
          obtain rfl := hp.symm
          have hP : va_P D vwCl (XW ad cI cJ co (join fl k1 (gi co 0) (gi co 0)) ra li re wa pi) H := hP
          have hD : va_D A (XW ad cI cJ co (join fl k1 (gi co 0) (gi co 0)) ra li re wa pi) := hD
          exact W.vret hx hb hr (fun t ht hW => ⟨⟨(XW ad cI cJ co (join fl k1 (gi co 0) (gi co 0)) ra li re wa pi), rfl, xw_eq rfl (show (join fl k1 (gi co 0) (gi co 0)) = (leave co fl k1) from (by first | (simp only [leave, leaveA, leaveB, leaveC, leaveK, if_neg c_21, decide_eq_false c_21, decide_eq_true c_21, if_pos c_21, if_neg c_27, decide_eq_false c_27, decide_eq_true c_27, if_pos c_27, if_neg c_47, bf_of c_47, if_pos c_70, decide_eq_true c_70, decide_eq_false (not_not_intro c_70), gi_sl, gi_sA, gi_sB, gi_si_s, gi_si_n, gl_si, gl_sA, gl_sB, gl_sl_s, gl_sl_n, gA_si, gA_sl, gA_sB, gA_sA_s, gA_sA_n, gB_si, gB_sl, gB_sA, gB_sB_s, gB_sB_n, Nat.reduceBEq, if_true, if_false, eq_self, Bool.false_eq_true, reduceCtorEq, not_true_eq_false, not_false_eq_true, decide_true, decide_false, cond_true, cond_false, Bool.true_and, Bool.false_and, Bool.and_true, Bool.and_false, Bool.true_or, Bool.false_or, Bool.or_true, Bool.or_false, b2i_tt, b2i_ff]; done) | (simp only [leave, leaveA, leaveB, leaveC, leaveK, if_neg c_21, decide_eq_false c_21, decide_eq_true c_21, if_pos c_21, if_neg c_27, decide_eq_false c_27, decide_eq_true c_27, if_pos c_27, if_neg c_47, bf_of c_47, if_pos c_70, decide_eq_true c_70, decide_eq_false (not_not_intro c_70), gi_sl, gi_sA, gi_sB, gi_si_s, gi_si_n, gl_si, gl_sA, gl_sB, gl_sl_s, gl_sl_n, gA_si, gA_sl, gA_sB, gA_sA_s, gA_sA_n, gB_si, gB_sl, gB_sA, gB_sB_s, gB_sB_n, Nat.reduceBEq, if_true, if_false, eq_self, Bool.false_eq_true, reduceCtorEq, not_true_eq_false, not_false_eq_true, decide_true, decide_false, cond_true, cond_false, Bool.true_and, Bool.false_and, Bool.and_true, Bool.and_false, Bool.true_or, Bool.false_or, Bool.or_true, Bool.or_false, b2i_tt, b2i_ff]; rfl) | (simp [leave, leaveA, leaveB, leaveC, leaveK, c_21, c_27, c_47, c_70, gi_sl, gi_sA, gi_sB, gi_si_s, gi_si_n, gl_si, gl_sA, gl_sB, gl_sl_s, gl_sl_n, gA_si, gA_sl, gA_sB, gA_sA_s, gA_sA_n, gB_si, gB_sl, gB_sA, gB_sB_s, gB_sB_n, Nat.reduceBEq]; done))) rfl rfl rfl rfl rfl, ⟨by rw [ht]; exact hP, va_K.moved hW.alike hK, hD⟩⟩, hS.F ht⟩) hS.2.2 dX1_leave_86
      · have c_47 : (jmp (rd (gA co 0) 40 (rd (gA fl 2) 40 k1))) = true := b2i_1 c_47
        refine lv_aload_n hx hb dX1_leave_50 rfl (lv_at hl 2 rfl) ?_
        refine lv_iload_n hx hb dX1_leave_51 rfl (lv_at hl 4 rfl) ?_
        refine lv_aload_n hx hb dX1_leave_52 rfl (lv_at hl 3 rfl) ?_
        refine va_getN (D := D) (ci := 0) (v := .ref (ad 9)) (C := RX0) (T := TX0) (N := 5) hx hb hg inGX0 hown hK hP 1 rfl rfl 1 (by decide) (hN.use nw_3) (fun _ h9 => h9) rfl dX1_leave_53 ?_
        refine lv_iload_n hx hb dX1_leave_56 rfl (lv_at hl 1 rfl) ?_
        refine kI (rSN hx hb hml hown hg hN hK hP hD (c_at l D cI cJ (XW ad cI cJ co fl ra li re wa pi) 9 (ad 9) 40 (gA co 1) (rd (gA fl 2) 40 k1) rfl (by decide)) mw_84 nw_65 mw_85 mw_77 pd_X7_at ⟨Nat.le_of_ble_eq_true rfl, Nat.le_of_ble_eq_true rfl⟩ rfl hl.1 rfl (Nat.le_of_ble_eq_true rfl) dX1_leave_57 ⟨Nat.le_of_ble_eq_true rfl, Nat.le_of_ble_eq_true rfl⟩) hD hS hA (fun r_11 u_11 H locs hp hP hD hS => ?_)
        obtain ⟨er, eu⟩ := hp
        obtain rfl := er.symm
        obtain rfl := eu.symm
        refine lv_aload_n hx hb dX1_leave_60 rfl (lv_at hl 3 rfl) ?_
        refine va_getN (D := D) (ci := 0) (v := .int (gi co 0)) (C := RX0) (T := TX0) (N := 5) hx hb hg inGX0 hown hK hP 1 rfl rfl 4 (by decide) (hN.use nw_9) (fun _ h9 => h9) rfl dX1_leave_61 ?_
        refine kV (rV (q0 := 2) (ci := 1) hx hb hml hown hg hN hK hP hD (c_join l D cI cJ ad co fl ra li re wa pi k1 (rd (gA co 1) 40 (rd (gA fl 2) 40 k1)) (gi co 0)) mw_102 mw_103 mw_104 mw_105 mw_106 pdv_X1_join ⟨Nat.le_of_ble_eq_true rfl, Nat.le_of_ble_eq_true rfl⟩ rfl rfl rfl hl.1 rfl (Nat.le_of_ble_eq_true rfl) dX1_leave_64 ⟨Nat.le_of_ble_eq_true rfl, Nat.le_of_ble_eq_true rfl⟩) hD hS hA (fun u_12 H locs hp hP hD hS => ?_)
        obtain rfl := hp.symm
        have hP : va_P D vwCl (XW ad cI cJ co (join fl k1 (rd (gA co 1) 40 (rd (gA fl 2) 40 k1)) (gi co 0)) ra li re wa pi) H := hP
        have hD : va_D A (XW ad cI cJ co (join fl k1 (rd (gA co 1) 40 (rd (gA fl 2) 40 k1)) (gi co 0)) ra li re wa pi) := hD
        refine lv_iload hx hb dX1_leave_67 (lv_at hl 0 rfl) ?_
        refine lv_iconst (v := 3) hx hb dX1_leave_69 (by decide) ?_
        refine lv_icmp_ne (tgt := 86) hx hb dX1_leave_70 (by decide) (fun c_70 => ?_) (fun c_70 => ?_)
        · exact W.vret hx hb hr (fun t ht hW => ⟨⟨(XW ad cI cJ co (join fl k1 (rd (gA co 1) 40 (rd (gA fl 2) 40 k1)) (gi co 0)) ra li re wa pi), rfl, xw_eq rfl (show (join fl k1 (rd (gA co 1) 40 (rd (gA fl 2) 40 k1)) (gi co 0)) = (leave co fl k1) from (by first | (simp only [leave, leaveA, leaveB, leaveC, leaveK, if_neg c_21, decide_eq_false c_21, decide_eq_true c_21, if_pos c_21, if_neg c_27, decide_eq_false c_27, decide_eq_true c_27, if_pos c_27, if_pos c_47, c_47, if_neg c_70, decide_eq_false c_70, decide_eq_true c_70, if_pos c_70, gi_sl, gi_sA, gi_sB, gi_si_s, gi_si_n, gl_si, gl_sA, gl_sB, gl_sl_s, gl_sl_n, gA_si, gA_sl, gA_sB, gA_sA_s, gA_sA_n, gB_si, gB_sl, gB_sA, gB_sB_s, gB_sB_n, Nat.reduceBEq, if_true, if_false, eq_self, Bool.false_eq_true, reduceCtorEq, not_true_eq_false, not_false_eq_true, decide_true, decide_false, cond_true, cond_false, Bool.true_and, Bool.false_and, Bool.and_true, Bool.and_false, Bool.true_or, Bool.false_or, Bool.or_true, Bool.or_false, b2i_tt, b2i_ff]; done) | (simp only [leave, leaveA, leaveB, leaveC, leaveK, if_neg c_21, decide_eq_false c_21, decide_eq_true c_21, if_pos c_21, if_neg c_27, decide_eq_false c_27, decide_eq_true c_27, if_pos c_27, if_pos c_47, c_47, if_neg c_70, decide_eq_false c_70, decide_eq_true c_70, if_pos c_70, gi_sl, gi_sA, gi_sB, gi_si_s, gi_si_n, gl_si, gl_sA, gl_sB, gl_sl_s, gl_sl_n, gA_si, gA_sl, gA_sB, gA_sA_s, gA_sA_n, gB_si, gB_sl, gB_sA, gB_sB_s, gB_sB_n, Nat.reduceBEq, if_true, if_false, eq_self, Bool.false_eq_true, reduceCtorEq, not_true_eq_false, not_false_eq_true, decide_true, decide_false, cond_true, cond_false, Bool.true_and, Bool.false_and, Bool.and_true, Bool.and_false, Bool.true_or, Bool.false_or, Bool.or_true, Bool.or_false, b2i_tt, b2i_ff]; rfl) | (simp [leave, leaveA, leaveB, leaveC, leaveK, c_21, c_27, c_47, c_70, gi_sl, gi_sA, gi_sB, gi_si_s, gi_si_n, gl_si, gl_sA, gl_sB, gl_sl_s, gl_sl_n, gA_si, gA_sl, gA_sB, gA_sA_s, gA_sA_n, gB_si, gB_sl, gB_sA, gB_sB_s, gB_sB_n, Nat.reduceBEq]; done))) rfl rfl rfl rfl rfl, ⟨by rw [ht]; exact hP, va_K.moved hW.alike hK, hD⟩⟩, hS.F ht⟩) hS.2.2 dX1_leave_86
        · refine lv_aload_n hx hb dX1_leave_73 rfl (lv_at hl 2 rfl) ?_
          refine lv_iload_n hx hb dX1_leave_74 rfl (lv_at hl 4 rfl) ?_
          refine lv_aload_n hx hb dX1_leave_75 rfl (lv_at hl 3 rfl) ?_
          refine va_getN (D := D) (ci := 0) (v := .int (gi co 0)) (C := RX0) (T := TX0) (N := 5) hx hb hg inGX0 hown hK hP 1 rfl rfl 4 (by decide) (hN.use nw_9) (fun _ h9 => h9) rfl dX1_leave_76 ?_
          refine lv_aload_n hx hb dX1_leave_79 rfl (lv_at hl 3 rfl) ?_
          refine va_getN (D := D) (ci := 0) (v := .int (gi co 0)) (C := RX0) (T := TX0) (N := 5) hx hb hg inGX0 hown hK hP 1 rfl rfl 4 (by decide) (hN.use nw_9) (fun _ h9 => h9) rfl dX1_leave_80 ?_
          refine kV (rV (q0 := 2) (ci := 1) hx hb hml hown hg hN hK hP hD (c_join l D cI cJ ad co (join fl k1 (rd (gA co 1) 40 (rd (gA fl 2) 40 k1)) (gi co 0)) ra li re wa pi k1 (gi co 0) (gi co 0)) mw_102 mw_103 mw_104 mw_105 mw_106 pdv_X1_join ⟨Nat.le_of_ble_eq_true rfl, Nat.le_of_ble_eq_true rfl⟩ rfl rfl rfl hl.1 rfl (Nat.le_of_ble_eq_true rfl) dX1_leave_83 ⟨Nat.le_of_ble_eq_true rfl, Nat.le_of_ble_eq_true rfl⟩) hD hS hA (fun u_13 H locs hp hP hD hS => ?_)
          obtain rfl := hp.symm
          have hP : va_P D vwCl (XW ad cI cJ co (join (join fl k1 (rd (gA co 1) 40 (rd (gA fl 2) 40 k1)) (gi co 0)) k1 (gi co 0) (gi co 0)) ra li re wa pi) H := hP
          have hD : va_D A (XW ad cI cJ co (join (join fl k1 (rd (gA co 1) 40 (rd (gA fl 2) 40 k1)) (gi co 0)) k1 (gi co 0) (gi co 0)) ra li re wa pi) := hD
          exact W.vret hx hb hr (fun t ht hW => ⟨⟨(XW ad cI cJ co (join (join fl k1 (rd (gA co 1) 40 (rd (gA fl 2) 40 k1)) (gi co 0)) k1 (gi co 0) (gi co 0)) ra li re wa pi), rfl, xw_eq rfl (show (join (join fl k1 (rd (gA co 1) 40 (rd (gA fl 2) 40 k1)) (gi co 0)) k1 (gi co 0) (gi co 0)) = (leave co fl k1) from (by first | (simp only [leave, leaveA, leaveB, leaveC, leaveK, if_neg c_21, decide_eq_false c_21, decide_eq_true c_21, if_pos c_21, if_neg c_27, decide_eq_false c_27, decide_eq_true c_27, if_pos c_27, if_pos c_47, c_47, if_pos c_70, decide_eq_true c_70, decide_eq_false (not_not_intro c_70), gi_sl, gi_sA, gi_sB, gi_si_s, gi_si_n, gl_si, gl_sA, gl_sB, gl_sl_s, gl_sl_n, gA_si, gA_sl, gA_sB, gA_sA_s, gA_sA_n, gB_si, gB_sl, gB_sA, gB_sB_s, gB_sB_n, Nat.reduceBEq, if_true, if_false, eq_self, Bool.false_eq_true, reduceCtorEq, not_true_eq_false, not_false_eq_true, decide_true, decide_false, cond_true, cond_false, Bool.true_and, Bool.false_and, Bool.and_true, Bool.and_false, Bool.true_or, Bool.false_or, Bool.or_true, Bool.or_false, b2i_tt, b2i_ff]; done) | (simp only [leave, leaveA, leaveB, leaveC, leaveK, if_neg c_21, decide_eq_false c_21, decide_eq_true c_21, if_pos c_21, if_neg c_27, decide_eq_false c_27, decide_eq_true c_27, if_pos c_27, if_pos c_47, c_47, if_pos c_70, decide_eq_true c_70, decide_eq_false (not_not_intro c_70), gi_sl, gi_sA, gi_sB, gi_si_s, gi_si_n, gl_si, gl_sA, gl_sB, gl_sl_s, gl_sl_n, gA_si, gA_sl, gA_sB, gA_sA_s, gA_sA_n, gB_si, gB_sl, gB_sA, gB_sB_s, gB_sB_n, Nat.reduceBEq, if_true, if_false, eq_self, Bool.false_eq_true, reduceCtorEq, not_true_eq_false, not_false_eq_true, decide_true, decide_false, cond_true, cond_false, Bool.true_and, Bool.false_and, Bool.and_true, Bool.and_false, Bool.true_or, Bool.false_or, Bool.or_true, Bool.or_false, b2i_tt, b2i_ff]; rfl) | (simp [leave, leaveA, leaveB, leaveC, leaveK, c_21, c_27, c_47, c_70, gi_sl, gi_sA, gi_sB, gi_si_s, gi_si_n, gl_si, gl_sA, gl_sB, gl_sl_s, gl_sl_n, gA_si, gA_sl, gA_sB, gA_sA_s, gA_sA_n, gB_si, gB_sl, gB_sA, gB_sB_s, gB_sB_n, Nat.reduceBEq]; done))) rfl rfl rfl rfl rfl, ⟨by rw [ht]; exact hP, va_K.moved hW.alike hK, hD⟩⟩, hS.F ht⟩) hS.2.2 dX1_leave_86
    · refine lv_aload_n hx hb dX1_leave_30 rfl (lv_at hl 2 rfl) ?_
      refine lv_iload_n hx hb dX1_leave_31 rfl (lv_at hl 4 rfl) ?_
      refine lv_iload_n hx hb dX1_leave_32 rfl (lv_at hl 1 rfl) ?_
      refine lv_iconst (v := 1) hx hb dX1_leave_33 (by decide) ?_
      refine lv_iadd hx hb dX1_leave_34 ?_
      refine lv_aload_n hx hb dX1_leave_35 rfl (lv_at hl 3 rfl) ?_
      refine va_getN (D := D) (ci := 0) (v := .int (gi co 0)) (C := RX0) (T := TX0) (N := 5) hx hb hg inGX0 hown hK hP 1 rfl rfl 4 (by decide) (hN.use nw_9) (fun _ h9 => h9) rfl dX1_leave_36 ?_
      refine kV (rV (q0 := 2) (ci := 1) hx hb hml hown hg hN hK hP hD (c_join l D cI cJ ad co fl ra li re wa pi k1 ((rd (gA fl 2) 40 k1) + 1) (gi co 0)) mw_102 mw_103 mw_104 mw_105 mw_106 pdv_X1_join ⟨Nat.le_of_ble_eq_true rfl, Nat.le_of_ble_eq_true rfl⟩ rfl rfl rfl hl.1 rfl (Nat.le_of_ble_eq_true rfl) dX1_leave_39 ⟨Nat.le_of_ble_eq_true rfl, Nat.le_of_ble_eq_true rfl⟩) hD hS hA (fun u_14 H locs hp hP hD hS => ?_)
      obtain rfl := hp.symm
      have hP : va_P D vwCl (XW ad cI cJ co (join fl k1 ((rd (gA fl 2) 40 k1) + 1) (gi co 0)) ra li re wa pi) H := hP
      have hD : va_D A (XW ad cI cJ co (join fl k1 ((rd (gA fl 2) 40 k1) + 1) (gi co 0)) ra li re wa pi) := hD
      refine lv_iload hx hb dX1_leave_42 (lv_at hl 0 rfl) ?_
      refine kI (rSN hx hb hml hown hg hN hK hP hD (c_jumps l D cI cJ (XW ad cI cJ co (join fl k1 ((rd (gA fl 2) 40 k1) + 1) (gi co 0)) ra li re wa pi) (rd (gA co 0) 40 (rd (gA fl 2) 40 k1))) mw_86 nw_67 mw_87 mw_77 pd_X7_jumps ⟨Nat.le_of_ble_eq_true rfl, Nat.le_of_ble_eq_true rfl⟩ rfl hl.1 rfl (Nat.le_of_ble_eq_true rfl) dX1_leave_44 ⟨Nat.le_of_ble_eq_true rfl, Nat.le_of_ble_eq_true rfl⟩) hD hS hA (fun r_15 u_15 H locs hp hP hD hS => ?_)
      obtain ⟨er, eu⟩ := hp
      obtain rfl := er.symm
      obtain rfl := eu.symm
      refine lv_if_eq (tgt := 67) hx hb dX1_leave_47 (by decide) (fun c_47 => ?_) (fun c_47 => ?_)
      · have c_47 : ¬ (jmp (rd (gA co 0) 40 (rd (gA fl 2) 40 k1))) = true := b2i_0 c_47
        refine lv_iload hx hb dX1_leave_67 (lv_at hl 0 rfl) ?_
        refine lv_iconst (v := 3) hx hb dX1_leave_69 (by decide) ?_
        refine lv_icmp_ne (tgt := 86) hx hb dX1_leave_70 (by decide) (fun c_70 => ?_) (fun c_70 => ?_)
        · exact W.vret hx hb hr (fun t ht hW => ⟨⟨(XW ad cI cJ co (join fl k1 ((rd (gA fl 2) 40 k1) + 1) (gi co 0)) ra li re wa pi), rfl, xw_eq rfl (show (join fl k1 ((rd (gA fl 2) 40 k1) + 1) (gi co 0)) = (leave co fl k1) from (by first | (simp only [leave, leaveA, leaveB, leaveC, leaveK, if_neg c_21, decide_eq_false c_21, decide_eq_true c_21, if_pos c_21, if_pos c_27, decide_eq_true c_27, decide_eq_false (not_not_intro c_27), if_neg c_47, bf_of c_47, if_neg c_70, decide_eq_false c_70, decide_eq_true c_70, if_pos c_70, gi_sl, gi_sA, gi_sB, gi_si_s, gi_si_n, gl_si, gl_sA, gl_sB, gl_sl_s, gl_sl_n, gA_si, gA_sl, gA_sB, gA_sA_s, gA_sA_n, gB_si, gB_sl, gB_sA, gB_sB_s, gB_sB_n, Nat.reduceBEq, if_true, if_false, eq_self, Bool.false_eq_true, reduceCtorEq, not_true_eq_false, not_false_eq_true, decide_true, decide_false, cond_true, cond_false, Bool.true_and, Bool.false_and, Bool.and_true, Bool.and_false, Bool.true_or, Bool.false_or, Bool.or_true, Bool.or_false, b2i_tt, b2i_ff]; done) | (simp only [leave, leaveA, leaveB, leaveC, leaveK, if_neg c_21, decide_eq_false c_21, decide_eq_true c_21, if_pos c_21, if_pos c_27, decide_eq_true c_27, decide_eq_false (not_not_intro c_27), if_neg c_47, bf_of c_47, if_neg c_70, decide_eq_false c_70, decide_eq_true c_70, if_pos c_70, gi_sl, gi_sA, gi_sB, gi_si_s, gi_si_n, gl_si, gl_sA, gl_sB, gl_sl_s, gl_sl_n, gA_si, gA_sl, gA_sB, gA_sA_s, gA_sA_n, gB_si, gB_sl, gB_sA, gB_sB_s, gB_sB_n, Nat.reduceBEq, if_true, if_false, eq_self, Bool.false_eq_true, reduceCtorEq, not_true_eq_false, not_false_eq_true, decide_true, decide_false, cond_true, cond_false, Bool.true_and, Bool.false_and, Bool.and_true, Bool.and_false, Bool.true_or, Bool.false_or, Bool.or_true, Bool.or_false, b2i_tt, b2i_ff]; rfl) | (simp [leave, leaveA, leaveB, leaveC, leaveK, c_21, c_27, c_47, c_70, gi_sl, gi_sA, gi_sB, gi_si_s, gi_si_n, gl_si, gl_sA, gl_sB, gl_sl_s, gl_sl_n, gA_si, gA_sl, gA_sB, gA_sA_s, gA_sA_n, gB_si, gB_sl, gB_sA, gB_sB_s, gB_sB_n, Nat.reduceBEq]; done))) rfl rfl rfl rfl rfl, ⟨by rw [ht]; exact hP, va_K.moved hW.alike hK, hD⟩⟩, hS.F ht⟩) hS.2.2 dX1_leave_86
        · refine lv_aload_n hx hb dX1_leave_73 rfl (lv_at hl 2 rfl) ?_
          refine lv_iload_n hx hb dX1_leave_74 rfl (lv_at hl 4 rfl) ?_
          refine lv_aload_n hx hb dX1_leave_75 rfl (lv_at hl 3 rfl) ?_
          refine va_getN (D := D) (ci := 0) (v := .int (gi co 0)) (C := RX0) (T := TX0) (N := 5) hx hb hg inGX0 hown hK hP 1 rfl rfl 4 (by decide) (hN.use nw_9) (fun _ h9 => h9) rfl dX1_leave_76 ?_
          refine lv_aload_n hx hb dX1_leave_79 rfl (lv_at hl 3 rfl) ?_
          refine va_getN (D := D) (ci := 0) (v := .int (gi co 0)) (C := RX0) (T := TX0) (N := 5) hx hb hg inGX0 hown hK hP 1 rfl rfl 4 (by decide) (hN.use nw_9) (fun _ h9 => h9) rfl dX1_leave_80 ?_
          refine kV (rV (q0 := 2) (ci := 1) hx hb hml hown hg hN hK hP hD (c_join l D cI cJ ad co (join fl k1 ((rd (gA fl 2) 40 k1) + 1) (gi co 0)) ra li re wa pi k1 (gi co 0) (gi co 0)) mw_102 mw_103 mw_104 mw_105 mw_106 pdv_X1_join ⟨Nat.le_of_ble_eq_true rfl, Nat.le_of_ble_eq_true rfl⟩ rfl rfl rfl hl.1 rfl (Nat.le_of_ble_eq_true rfl) dX1_leave_83 ⟨Nat.le_of_ble_eq_true rfl, Nat.le_of_ble_eq_true rfl⟩) hD hS hA (fun u_16 H locs hp hP hD hS => ?_)
          obtain rfl := hp.symm
          have hP : va_P D vwCl (XW ad cI cJ co (join (join fl k1 ((rd (gA fl 2) 40 k1) + 1) (gi co 0)) k1 (gi co 0) (gi co 0)) ra li re wa pi) H := hP
          have hD : va_D A (XW ad cI cJ co (join (join fl k1 ((rd (gA fl 2) 40 k1) + 1) (gi co 0)) k1 (gi co 0) (gi co 0)) ra li re wa pi) := hD
          exact W.vret hx hb hr (fun t ht hW => ⟨⟨(XW ad cI cJ co (join (join fl k1 ((rd (gA fl 2) 40 k1) + 1) (gi co 0)) k1 (gi co 0) (gi co 0)) ra li re wa pi), rfl, xw_eq rfl (show (join (join fl k1 ((rd (gA fl 2) 40 k1) + 1) (gi co 0)) k1 (gi co 0) (gi co 0)) = (leave co fl k1) from (by first | (simp only [leave, leaveA, leaveB, leaveC, leaveK, if_neg c_21, decide_eq_false c_21, decide_eq_true c_21, if_pos c_21, if_pos c_27, decide_eq_true c_27, decide_eq_false (not_not_intro c_27), if_neg c_47, bf_of c_47, if_pos c_70, decide_eq_true c_70, decide_eq_false (not_not_intro c_70), gi_sl, gi_sA, gi_sB, gi_si_s, gi_si_n, gl_si, gl_sA, gl_sB, gl_sl_s, gl_sl_n, gA_si, gA_sl, gA_sB, gA_sA_s, gA_sA_n, gB_si, gB_sl, gB_sA, gB_sB_s, gB_sB_n, Nat.reduceBEq, if_true, if_false, eq_self, Bool.false_eq_true, reduceCtorEq, not_true_eq_false, not_false_eq_true, decide_true, decide_false, cond_true, cond_false, Bool.true_and, Bool.false_and, Bool.and_true, Bool.and_false, Bool.true_or, Bool.false_or, Bool.or_true, Bool.or_false, b2i_tt, b2i_ff]; done) | (simp only [leave, leaveA, leaveB, leaveC, leaveK, if_neg c_21, decide_eq_false c_21, decide_eq_true c_21, if_pos c_21, if_pos c_27, decide_eq_true c_27, decide_eq_false (not_not_intro c_27), if_neg c_47, bf_of c_47, if_pos c_70, decide_eq_true c_70, decide_eq_false (not_not_intro c_70), gi_sl, gi_sA, gi_sB, gi_si_s, gi_si_n, gl_si, gl_sA, gl_sB, gl_sl_s, gl_sl_n, gA_si, gA_sl, gA_sB, gA_sA_s, gA_sA_n, gB_si, gB_sl, gB_sA, gB_sB_s, gB_sB_n, Nat.reduceBEq, if_true, if_false, eq_self, Bool.false_eq_true, reduceCtorEq, not_true_eq_false, not_false_eq_true, decide_true, decide_false, cond_true, cond_false, Bool.true_and, Bool.false_and, Bool.and_true, Bool.and_false, Bool.true_or, Bool.false_or, Bool.or_true, Bool.or_false, b2i_tt, b2i_ff]; rfl) | (simp [leave, leaveA, leaveB, leaveC, leaveK, c_21, c_27, c_47, c_70, gi_sl, gi_sA, gi_sB, gi_si_s, gi_si_n, gl_si, gl_sA, gl_sB, gl_sl_s, gl_sl_n, gA_si, gA_sl, gA_sB, gA_sA_s, gA_sA_n, gB_si, gB_sl, gB_sA, gB_sB_s, gB_sB_n, Nat.reduceBEq]; done))) rfl rfl rfl rfl rfl, ⟨by rw [ht]; exact hP, va_K.moved hW.alike hK, hD⟩⟩, hS.F ht⟩) hS.2.2 dX1_leave_86
      · have c_47 : (jmp (rd (gA co 0) 40 (rd (gA fl 2) 40 k1))) = true := b2i_1 c_47
        refine lv_aload_n hx hb dX1_leave_50 rfl (lv_at hl 2 rfl) ?_
        refine lv_iload_n hx hb dX1_leave_51 rfl (lv_at hl 4 rfl) ?_
        refine lv_aload_n hx hb dX1_leave_52 rfl (lv_at hl 3 rfl) ?_
        refine va_getN (D := D) (ci := 0) (v := .ref (ad 9)) (C := RX0) (T := TX0) (N := 5) hx hb hg inGX0 hown hK hP 1 rfl rfl 1 (by decide) (hN.use nw_3) (fun _ h9 => h9) rfl dX1_leave_53 ?_
        refine lv_iload_n hx hb dX1_leave_56 rfl (lv_at hl 1 rfl) ?_
        refine kI (rSN hx hb hml hown hg hN hK hP hD (c_at l D cI cJ (XW ad cI cJ co (join fl k1 ((rd (gA fl 2) 40 k1) + 1) (gi co 0)) ra li re wa pi) 9 (ad 9) 40 (gA co 1) (rd (gA fl 2) 40 k1) rfl (by decide)) mw_84 nw_65 mw_85 mw_77 pd_X7_at ⟨Nat.le_of_ble_eq_true rfl, Nat.le_of_ble_eq_true rfl⟩ rfl hl.1 rfl (Nat.le_of_ble_eq_true rfl) dX1_leave_57 ⟨Nat.le_of_ble_eq_true rfl, Nat.le_of_ble_eq_true rfl⟩) hD hS hA (fun r_17 u_17 H locs hp hP hD hS => ?_)
        obtain ⟨er, eu⟩ := hp
        obtain rfl := er.symm
        obtain rfl := eu.symm
        refine lv_aload_n hx hb dX1_leave_60 rfl (lv_at hl 3 rfl) ?_
        refine va_getN (D := D) (ci := 0) (v := .int (gi co 0)) (C := RX0) (T := TX0) (N := 5) hx hb hg inGX0 hown hK hP 1 rfl rfl 4 (by decide) (hN.use nw_9) (fun _ h9 => h9) rfl dX1_leave_61 ?_
        refine kV (rV (q0 := 2) (ci := 1) hx hb hml hown hg hN hK hP hD (c_join l D cI cJ ad co (join fl k1 ((rd (gA fl 2) 40 k1) + 1) (gi co 0)) ra li re wa pi k1 (rd (gA co 1) 40 (rd (gA fl 2) 40 k1)) (gi co 0)) mw_102 mw_103 mw_104 mw_105 mw_106 pdv_X1_join ⟨Nat.le_of_ble_eq_true rfl, Nat.le_of_ble_eq_true rfl⟩ rfl rfl rfl hl.1 rfl (Nat.le_of_ble_eq_true rfl) dX1_leave_64 ⟨Nat.le_of_ble_eq_true rfl, Nat.le_of_ble_eq_true rfl⟩) hD hS hA (fun u_18 H locs hp hP hD hS => ?_)
        obtain rfl := hp.symm
        have hP : va_P D vwCl (XW ad cI cJ co (join (join fl k1 ((rd (gA fl 2) 40 k1) + 1) (gi co 0)) k1 (rd (gA co 1) 40 (rd (gA fl 2) 40 k1)) (gi co 0)) ra li re wa pi) H := hP
        have hD : va_D A (XW ad cI cJ co (join (join fl k1 ((rd (gA fl 2) 40 k1) + 1) (gi co 0)) k1 (rd (gA co 1) 40 (rd (gA fl 2) 40 k1)) (gi co 0)) ra li re wa pi) := hD
        refine lv_iload hx hb dX1_leave_67 (lv_at hl 0 rfl) ?_
        refine lv_iconst (v := 3) hx hb dX1_leave_69 (by decide) ?_
        refine lv_icmp_ne (tgt := 86) hx hb dX1_leave_70 (by decide) (fun c_70 => ?_) (fun c_70 => ?_)
        · exact W.vret hx hb hr (fun t ht hW => ⟨⟨(XW ad cI cJ co (join (join fl k1 ((rd (gA fl 2) 40 k1) + 1) (gi co 0)) k1 (rd (gA co 1) 40 (rd (gA fl 2) 40 k1)) (gi co 0)) ra li re wa pi), rfl, xw_eq rfl (show (join (join fl k1 ((rd (gA fl 2) 40 k1) + 1) (gi co 0)) k1 (rd (gA co 1) 40 (rd (gA fl 2) 40 k1)) (gi co 0)) = (leave co fl k1) from (by first | (simp only [leave, leaveA, leaveB, leaveC, leaveK, if_neg c_21, decide_eq_false c_21, decide_eq_true c_21, if_pos c_21, if_pos c_27, decide_eq_true c_27, decide_eq_false (not_not_intro c_27), if_pos c_47, c_47, if_neg c_70, decide_eq_false c_70, decide_eq_true c_70, if_pos c_70, gi_sl, gi_sA, gi_sB, gi_si_s, gi_si_n, gl_si, gl_sA, gl_sB, gl_sl_s, gl_sl_n, gA_si, gA_sl, gA_sB, gA_sA_s, gA_sA_n, gB_si, gB_sl, gB_sA, gB_sB_s, gB_sB_n, Nat.reduceBEq, if_true, if_false, eq_self, Bool.false_eq_true, reduceCtorEq, not_true_eq_false, not_false_eq_true, decide_true, decide_false, cond_true, cond_false, Bool.true_and, Bool.false_and, Bool.and_true, Bool.and_false, Bool.true_or, Bool.false_or, Bool.or_true, Bool.or_false, b2i_tt, b2i_ff]; done) | (simp only [leave, leaveA, leaveB, leaveC, leaveK, if_neg c_21, decide_eq_false c_21, decide_eq_true c_21, if_pos c_21, if_pos c_27, decide_eq_true c_27, decide_eq_false (not_not_intro c_27), if_pos c_47, c_47, if_neg c_70, decide_eq_false c_70, decide_eq_true c_70, if_pos c_70, gi_sl, gi_sA, gi_sB, gi_si_s, gi_si_n, gl_si, gl_sA, gl_sB, gl_sl_s, gl_sl_n, gA_si, gA_sl, gA_sB, gA_sA_s, gA_sA_n, gB_si, gB_sl, gB_sA, gB_sB_s, gB_sB_n, Nat.reduceBEq, if_true, if_false, eq_self, Bool.false_eq_true, reduceCtorEq, not_true_eq_false, not_false_eq_true, decide_true, decide_false, cond_true, cond_false, Bool.true_and, Bool.false_and, Bool.and_true, Bool.and_false, Bool.true_or, Bool.false_or, Bool.or_true, Bool.or_false, b2i_tt, b2i_ff]; rfl) | (simp [leave, leaveA, leaveB, leaveC, leaveK, c_21, c_27, c_47, c_70, gi_sl, gi_sA, gi_sB, gi_si_s, gi_si_n, gl_si, gl_sA, gl_sB, gl_sl_s, gl_sl_n, gA_si, gA_sl, gA_sB, gA_sA_s, gA_sA_n, gB_si, gB_sl, gB_sA, gB_sB_s, gB_sB_n, Nat.reduceBEq]; done))) rfl rfl rfl rfl rfl, ⟨by rw [ht]; exact hP, va_K.moved hW.alike hK, hD⟩⟩, hS.F ht⟩) hS.2.2 dX1_leave_86
        · refine lv_aload_n hx hb dX1_leave_73 rfl (lv_at hl 2 rfl) ?_
          refine lv_iload_n hx hb dX1_leave_74 rfl (lv_at hl 4 rfl) ?_
          refine lv_aload_n hx hb dX1_leave_75 rfl (lv_at hl 3 rfl) ?_
          refine va_getN (D := D) (ci := 0) (v := .int (gi co 0)) (C := RX0) (T := TX0) (N := 5) hx hb hg inGX0 hown hK hP 1 rfl rfl 4 (by decide) (hN.use nw_9) (fun _ h9 => h9) rfl dX1_leave_76 ?_
          refine lv_aload_n hx hb dX1_leave_79 rfl (lv_at hl 3 rfl) ?_
          refine va_getN (D := D) (ci := 0) (v := .int (gi co 0)) (C := RX0) (T := TX0) (N := 5) hx hb hg inGX0 hown hK hP 1 rfl rfl 4 (by decide) (hN.use nw_9) (fun _ h9 => h9) rfl dX1_leave_80 ?_
          refine kV (rV (q0 := 2) (ci := 1) hx hb hml hown hg hN hK hP hD (c_join l D cI cJ ad co (join (join fl k1 ((rd (gA fl 2) 40 k1) + 1) (gi co 0)) k1 (rd (gA co 1) 40 (rd (gA fl 2) 40 k1)) (gi co 0)) ra li re wa pi k1 (gi co 0) (gi co 0)) mw_102 mw_103 mw_104 mw_105 mw_106 pdv_X1_join ⟨Nat.le_of_ble_eq_true rfl, Nat.le_of_ble_eq_true rfl⟩ rfl rfl rfl hl.1 rfl (Nat.le_of_ble_eq_true rfl) dX1_leave_83 ⟨Nat.le_of_ble_eq_true rfl, Nat.le_of_ble_eq_true rfl⟩) hD hS hA (fun u_19 H locs hp hP hD hS => ?_)
          obtain rfl := hp.symm
          have hP : va_P D vwCl (XW ad cI cJ co (join (join (join fl k1 ((rd (gA fl 2) 40 k1) + 1) (gi co 0)) k1 (rd (gA co 1) 40 (rd (gA fl 2) 40 k1)) (gi co 0)) k1 (gi co 0) (gi co 0)) ra li re wa pi) H := hP
          have hD : va_D A (XW ad cI cJ co (join (join (join fl k1 ((rd (gA fl 2) 40 k1) + 1) (gi co 0)) k1 (rd (gA co 1) 40 (rd (gA fl 2) 40 k1)) (gi co 0)) k1 (gi co 0) (gi co 0)) ra li re wa pi) := hD
          exact W.vret hx hb hr (fun t ht hW => ⟨⟨(XW ad cI cJ co (join (join (join fl k1 ((rd (gA fl 2) 40 k1) + 1) (gi co 0)) k1 (rd (gA co 1) 40 (rd (gA fl 2) 40 k1)) (gi co 0)) k1 (gi co 0) (gi co 0)) ra li re wa pi), rfl, xw_eq rfl (show (join (join (join fl k1 ((rd (gA fl 2) 40 k1) + 1) (gi co 0)) k1 (rd (gA co 1) 40 (rd (gA fl 2) 40 k1)) (gi co 0)) k1 (gi co 0) (gi co 0)) = (leave co fl k1) from (by first | (simp only [leave, leaveA, leaveB, leaveC, leaveK, if_neg c_21, decide_eq_false c_21, decide_eq_true c_21, if_pos c_21, if_pos c_27, decide_eq_true c_27, decide_eq_false (not_not_intro c_27), if_pos c_47, c_47, if_pos c_70, decide_eq_true c_70, decide_eq_false (not_not_intro c_70), gi_sl, gi_sA, gi_sB, gi_si_s, gi_si_n, gl_si, gl_sA, gl_sB, gl_sl_s, gl_sl_n, gA_si, gA_sl, gA_sB, gA_sA_s, gA_sA_n, gB_si, gB_sl, gB_sA, gB_sB_s, gB_sB_n, Nat.reduceBEq, if_true, if_false, eq_self, Bool.false_eq_true, reduceCtorEq, not_true_eq_false, not_false_eq_true, decide_true, decide_false, cond_true, cond_false, Bool.true_and, Bool.false_and, Bool.and_true, Bool.and_false, Bool.true_or, Bool.false_or, Bool.or_true, Bool.or_false, b2i_tt, b2i_ff]; done) | (simp only [leave, leaveA, leaveB, leaveC, leaveK, if_neg c_21, decide_eq_false c_21, decide_eq_true c_21, if_pos c_21, if_pos c_27, decide_eq_true c_27, decide_eq_false (not_not_intro c_27), if_pos c_47, c_47, if_pos c_70, decide_eq_true c_70, decide_eq_false (not_not_intro c_70), gi_sl, gi_sA, gi_sB, gi_si_s, gi_si_n, gl_si, gl_sA, gl_sB, gl_sl_s, gl_sl_n, gA_si, gA_sl, gA_sB, gA_sA_s, gA_sA_n, gB_si, gB_sl, gB_sA, gB_sB_s, gB_sB_n, Nat.reduceBEq, if_true, if_false, eq_self, Bool.false_eq_true, reduceCtorEq, not_true_eq_false, not_false_eq_true, decide_true, decide_false, cond_true, cond_false, Bool.true_and, Bool.false_and, Bool.and_true, Bool.and_false, Bool.true_or, Bool.false_or, Bool.or_true, Bool.or_false, b2i_tt, b2i_ff]; rfl) | (simp [leave, leaveA, leaveB, leaveC, leaveK, c_21, c_27, c_47, c_70, gi_sl, gi_sA, gi_sB, gi_si_s, gi_si_n, gl_si, gl_sA, gl_sB, gl_sl_s, gl_sl_n, gA_si, gA_sl, gA_sB, gA_sA_s, gA_sA_n, gB_si, gB_sl, gB_sA, gB_sB_s, gB_sB_n, Nat.reduceBEq]; done))) rfl rfl rfl rfl rfl, ⟨by rw [ht]; exact hP, va_K.moved hW.alike hK, hD⟩⟩, hS.F ht⟩) hS.2.2 dX1_leave_86
theorem join_bc (fl : Ob) (b i n : Int32) : gi (join fl b i n) 0 = gi fl 0 := by
  unfold join joinP
  split <;> rfl
theorem leave_bc (co fl : Ob) (b : Int32) : gi (leave co fl b) 0 = gi fl 0 := by
  unfold leave leaveC
  split
  · rw [join_bc]
    unfold leaveB
    split
    · rw [join_bc]; unfold leaveA; split
      · rw [join_bc]
      · split
        · rw [join_bc]
        · rfl
    · unfold leaveA; split
      · rw [join_bc]
      · split
        · rw [join_bc]
        · rfl
  · unfold leaveB
    split
    · rw [join_bc]; unfold leaveA; split
      · rw [join_bc]
      · split
        · rw [join_bc]
        · rfl
    · unfold leaveA; split
      · rw [join_bc]
      · split
        · rw [join_bc]
        · rfl
theorem part_bc (co : Ob) (i : Nat) (s : Ob) : gi (lp (partStep co) i s) 0 = gi s 0 := by
  induction i with
  | zero => rfl
  | succ i ih =>
    show gi (partStep co i (lp (partStep co) i s)) 0 = _
    unfold partStep
    rw [leave_bc]
    exact ih
set_option maxHeartbeats 4000000 in
set_option maxRecDepth 100000 in
theorem c_part (l : Launch) (D : va_G) (cI cJ : ClassId) (ad : Nat → Nat) (co fl ra li re wa pi : Ob) : CT l D (TY cI cJ) yX1_part (.code yX1_part cX1_part 3 (none : Option FieldType)) 3 0 0 (XW ad cI cJ co fl ra li re wa pi) [.ref (ad 2), .ref (ad 1)] (QV D (TY cI cJ) (fun u => u = (XW ad cI cJ co (part co fl) ra li re wa pi))) := by
  refine ent (by decide) (Nat.le_of_ble_eq_true rfl) ?_
  intro p e s m below meth c ls A hx hb hr hg hown hml hlocks hnm hP hK hD hS hA hN hl
  have hl : lv_has ls 3 [(0, .ref (ad 2)), (1, .ref (ad 1))] := hl
  refine lv_aload_n hx hb dX1_part_0 rfl (lv_at hl 0 rfl) ?_
  refine lv_aload_n hx hb dX1_part_1 rfl (lv_at hl 1 rfl) ?_
  refine va_getN (D := D) (ci := 0) (v := .int (gi co 0)) (C := RX0) (T := TX0) (N := 5) hx hb hg inGX0 hown hK hP 1 rfl rfl 4 (by decide) (hN.use nw_9) (fun _ h9 => h9) rfl dX1_part_2 ?_
  refine lv_aload_n hx hb dX1_part_5 rfl (lv_at hl 1 rfl) ?_
  refine kL (rS hx hb hml hown hg hN hK hP hD (c_leadersOf l D cI cJ ad co fl ra li re wa pi) mw_107 mw_108 mw_109 mw_106 pd_X1_leadersOf ⟨Nat.le_of_ble_eq_true rfl, Nat.le_of_ble_eq_true rfl⟩ rfl hl.1 rfl (Nat.le_of_ble_eq_true rfl) dX1_part_6 ⟨Nat.le_of_ble_eq_true rfl, Nat.le_of_ble_eq_true rfl⟩) hD hS hA (fun r_1 u_1 H locs hp hP hD hS => ?_)
  obtain ⟨er, eu⟩ := hp
  obtain rfl := er.symm
  obtain rfl := eu.symm
  refine kV (rV (q0 := 2) (ci := 1) hx hb hml hown hg hN hK hP hD (c_cut l D cI cJ ad co fl ra li re wa pi (gi co 0) (leaders co)) mw_110 mw_111 mw_112 mw_113 mw_106 pdv_X1_cut ⟨Nat.le_of_ble_eq_true rfl, Nat.le_of_ble_eq_true rfl⟩ rfl rfl rfl hl.1 rfl (Nat.le_of_ble_eq_true rfl) dX1_part_9 ⟨Nat.le_of_ble_eq_true rfl, Nat.le_of_ble_eq_true rfl⟩) hD hS hA (fun u_2 H locs hp hP hD hS => ?_)
  obtain rfl := hp.symm
  have hP : va_P D vwCl (XW ad cI cJ co (cut fl (gi co 0) (leaders co)) ra li re wa pi) H := hP
  have hD : va_D A (XW ad cI cJ co (cut fl (gi co 0) (leaders co)) ra li re wa pi) := hD
  refine lv_aload_n hx hb dX1_part_12 rfl (lv_at hl 0 rfl) ?_
  refine lv_iconst (v := 0) hx hb dX1_part_13 (by decide) ?_
  refine va_put (D := D) (ci := 1) (v := .int 0) (C := RX1) (T := TX1) (N := 11) hx hb hg inGX1 tyX1 tyX1_ok nmX1 hown hK hP hD hS 2 rfl rfl 8 (by decide) (hg _ mw_100) (fun _ h9 => h9) rfl (tyX1_ok 8 (by decide)) rfl rfl (Nat.le_of_ble_eq_true rfl) dX1_part_14 (fun H locs hP hD hS => ?_)
  have hP : va_P D vwCl (XW ad cI cJ co (si (cut fl (gi co 0) (leaders co)) 1 0) ra li re wa pi) H := hP
  have hD : va_D A (XW ad cI cJ co (si (cut fl (gi co 0) (leaders co)) 1 0) ra li re wa pi) := hD
  refine lv_iconst (v := 0) hx hb dX1_part_17 (by decide) ?_
  refine lv_istore_n (lv' := [(2, .int 0), (0, .ref (ad 2)), (1, .ref (ad 1))]) hx hb dX1_part_18 rfl hl (by decide) rfl (fun ls hl => ?_)
  refine w_loop (σ := Ob) (fun (i_3 : Nat) (p_3 : Ob) (H : Heap) (locs : List Loc) (ls : Array Slot) => p_3 = (lp (partStep co) i_3 (si (cut fl (gi co 0) (leaders co)) 1 0)) ∧ va_P D vwCl (XW ad cI cJ co p_3 ra li re wa pi) H ∧ va_D A (XW ad cI cJ co p_3 ra li re wa pi) ∧ va_S A s.heap H locs ∧ lv_has ls 3 [(0, .ref (ad 2)), (1, .ref (ad 1)), (2, .int (nI i_3))]) (nN (gi (cut fl (gi co 0) (leaders co)) 0)) (fun p_3 H locs ls hI => ?_) (fun i_3 p_3 H locs ls hi_3 hI ih_3 => ?_) 0 (si (cut fl (gi co 0) (leaders co)) 1 0) (Nat.zero_le _) ⟨rfl, hP, hD, hS, (by rw [nI_0]; exact lv_sub hl [1, 2, 0] rfl)⟩
  · obtain ⟨h_3, hP, hD, hS, hl⟩ := hI
    have h_3 := h_3.symm
    subst h_3
    have hP : va_P D vwCl (XW ad cI cJ co ((lp (partStep co) (nN (gi (cut fl (gi co 0) (leaders co)) 0)) (si (cut fl (gi co 0) (leaders co)) 1 0))) ra li re wa pi) H := hP
    have hD : va_D A (XW ad cI cJ co ((lp (partStep co) (nN (gi (cut fl (gi co 0) (leaders co)) 0)) (si (cut fl (gi co 0) (leaders co)) 1 0))) ra li re wa pi) := hD
    have hl : lv_has ls 3 [(0, .ref (ad 2)), (1, .ref (ad 1)), (2, .int (nI ((nN (gi (cut fl (gi co 0) (leaders co)) 0)))))] := hl
    refine lv_iload_n hx hb dX1_part_19 rfl (lv_at hl 2 rfl) ?_
    refine lv_aload_n hx hb dX1_part_20 rfl (lv_at hl 0 rfl) ?_
    refine va_get (D := D) (ci := 1) (v := .int (gi ((lp (partStep co) (nN (gi (cut fl (gi co 0) (leaders co)) 0)) (si (cut fl (gi co 0) (leaders co)) 1 0))) 0)) (C := RX1) (T := TX1) (N := 11) hx hb hg inGX1 hown hK hP 2 rfl rfl 7 (by decide) (hg _ mw_88) (fun _ h9 => h9) rfl dX1_part_21 ?_
    refine lv_icmp_ge (tgt := 60) hx hb dX1_part_24 (by decide) (fun _ => ?_) (fun c_24 => absurd (by rw [part_bc]; exact lp_out _) c_24)
    refine lv_aload_n hx hb dX1_part_60 rfl (lv_at hl 0 rfl) ?_
    refine va_get (D := D) (ci := 1) (v := .ref (ad 17)) (C := RX1) (T := TX1) (N := 11) hx hb hg inGX1 hown hK hP 2 rfl rfl 5 (by decide) (hg _ mw_114) (fun _ h9 => h9) rfl dX1_part_61 ?_
    refine lv_aload_n hx hb dX1_part_64 rfl (lv_at hl 0 rfl) ?_
    refine va_get (D := D) (ci := 1) (v := .int (gi ((lp (partStep co) (nN (gi (cut fl (gi co 0) (leaders co)) 0)) (si (cut fl (gi co 0) (leaders co)) 1 0))) 0)) (C := RX1) (T := TX1) (N := 11) hx hb hg inGX1 hown hK hP 2 rfl rfl 7 (by decide) (hg _ mw_88) (fun _ h9 => h9) rfl dX1_part_65 ?_
    refine lv_aload_n hx hb dX1_part_68 rfl (lv_at hl 0 rfl) ?_
    refine va_get (D := D) (ci := 1) (v := .int (gi ((lp (partStep co) (nN (gi (cut fl (gi co 0) (leaders co)) 0)) (si (cut fl (gi co 0) (leaders co)) 1 0))) 1)) (C := RX1) (T := TX1) (N := 11) hx hb hg inGX1 hown hK hP 2 rfl rfl 8 (by decide) (hg _ mw_100) (fun _ h9 => h9) rfl dX1_part_69 ?_
    refine kV (rSN hx hb hml hown hg hN hK hP hD (c_put l D cI cJ (XW ad cI cJ co ((lp (partStep co) (nN (gi (cut fl (gi co 0) (leaders co)) 0)) (si (cut fl (gi co 0) (leaders co)) 1 0))) ra li re wa pi) 17 (ad 17) 41 (gA ((lp (partStep co) (nN (gi (cut fl (gi co 0) (leaders co)) 0)) (si (cut fl (gi co 0) (leaders co)) 1 0))) 5) (gi ((lp (partStep co) (nN (gi (cut fl (gi co 0) (leaders co)) 0)) (si (cut fl (gi co 0) (leaders co)) 1 0))) 0) (gi ((lp (partStep co) (nN (gi (cut fl (gi co 0) (leaders co)) 0)) (si (cut fl (gi co 0) (leaders co)) 1 0))) 1) rfl (by decide)) mw_92 nw_69 mw_93 mw_77 pd_X7_put ⟨Nat.le_of_ble_eq_true rfl, Nat.le_of_ble_eq_true rfl⟩ rfl hl.1 rfl (Nat.le_of_ble_eq_true rfl) dX1_part_72 ⟨Nat.le_of_ble_eq_true rfl, Nat.le_of_ble_eq_true rfl⟩) hD hS hA (fun u_4 H locs hp hP hD hS => ?_)
    obtain rfl := hp.symm
    have hP : va_P D vwCl (XW ad cI cJ co (sA ((lp (partStep co) (nN (gi (cut fl (gi co 0) (leaders co)) 0)) (si (cut fl (gi co 0) (leaders co)) 1 0))) 5 (wr (gA ((lp (partStep co) (nN (gi (cut fl (gi co 0) (leaders co)) 0)) (si (cut fl (gi co 0) (leaders co)) 1 0))) 5) 41 (gi ((lp (partStep co) (nN (gi (cut fl (gi co 0) (leaders co)) 0)) (si (cut fl (gi co 0) (leaders co)) 1 0))) 0) (gi ((lp (partStep co) (nN (gi (cut fl (gi co 0) (leaders co)) 0)) (si (cut fl (gi co 0) (leaders co)) 1 0))) 1))) ra li re wa pi) H := hP
    have hD : va_D A (XW ad cI cJ co (sA ((lp (partStep co) (nN (gi (cut fl (gi co 0) (leaders co)) 0)) (si (cut fl (gi co 0) (leaders co)) 1 0))) 5 (wr (gA ((lp (partStep co) (nN (gi (cut fl (gi co 0) (leaders co)) 0)) (si (cut fl (gi co 0) (leaders co)) 1 0))) 5) 41 (gi ((lp (partStep co) (nN (gi (cut fl (gi co 0) (leaders co)) 0)) (si (cut fl (gi co 0) (leaders co)) 1 0))) 0) (gi ((lp (partStep co) (nN (gi (cut fl (gi co 0) (leaders co)) 0)) (si (cut fl (gi co 0) (leaders co)) 1 0))) 1))) ra li re wa pi) := hD
    refine lv_aload_n hx hb dX1_part_75 rfl (lv_at hl 0 rfl) ?_
    refine lv_aload_n hx hb dX1_part_76 rfl (lv_at hl 0 rfl) ?_
    refine va_get (D := D) (ci := 1) (v := .int (gi ((lp (partStep co) (nN (gi (cut fl (gi co 0) (leaders co)) 0)) (si (cut fl (gi co 0) (leaders co)) 1 0))) 0)) (C := RX1) (T := TX1) (N := 11) hx hb hg inGX1 hown hK hP 2 rfl rfl 7 (by decide) (hg _ mw_88) (fun _ h9 => h9) rfl dX1_part_77 ?_
    refine lv_if_le (tgt := 99) hx hb dX1_part_80 (by decide) (fun c_80 => ?_) (fun c_80 => ?_)
    · have c_80 : ¬ 0 < (gi ((lp (partStep co) (nN (gi (cut fl (gi co 0) (leaders co)) 0)) (si (cut fl (gi co 0) (leaders co)) 1 0))) 0) := i_ge c_80
      refine lv_lconst (v := 0) hx hb dX1_part_99 (by decide) ?_
      refine va_put (D := D) (ci := 1) (v := .long 0) (C := RX1) (T := TX1) (N := 11) hx hb hg inGX1 tyX1 tyX1_ok nmX1 hown hK hP hD hS 2 rfl rfl 9 (by decide) (hg _ mw_115) (fun _ h9 => h9) rfl (tyX1_ok 9 (by decide)) rfl rfl (Nat.le_of_ble_eq_true rfl) dX1_part_100 (fun H locs hP hD hS => ?_)
      have hP : va_P D vwCl (XW ad cI cJ co (sl (sA ((lp (partStep co) (nN (gi (cut fl (gi co 0) (leaders co)) 0)) (si (cut fl (gi co 0) (leaders co)) 1 0))) 5 (wr (gA ((lp (partStep co) (nN (gi (cut fl (gi co 0) (leaders co)) 0)) (si (cut fl (gi co 0) (leaders co)) 1 0))) 5) 41 (gi ((lp (partStep co) (nN (gi (cut fl (gi co 0) (leaders co)) 0)) (si (cut fl (gi co 0) (leaders co)) 1 0))) 0) (gi ((lp (partStep co) (nN (gi (cut fl (gi co 0) (leaders co)) 0)) (si (cut fl (gi co 0) (leaders co)) 1 0))) 1))) 0 0) ra li re wa pi) H := hP
      have hD : va_D A (XW ad cI cJ co (sl (sA ((lp (partStep co) (nN (gi (cut fl (gi co 0) (leaders co)) 0)) (si (cut fl (gi co 0) (leaders co)) 1 0))) 5 (wr (gA ((lp (partStep co) (nN (gi (cut fl (gi co 0) (leaders co)) 0)) (si (cut fl (gi co 0) (leaders co)) 1 0))) 5) 41 (gi ((lp (partStep co) (nN (gi (cut fl (gi co 0) (leaders co)) 0)) (si (cut fl (gi co 0) (leaders co)) 1 0))) 0) (gi ((lp (partStep co) (nN (gi (cut fl (gi co 0) (leaders co)) 0)) (si (cut fl (gi co 0) (leaders co)) 1 0))) 1))) 0 0) ra li re wa pi) := hD
      exact W.vret hx hb hr (fun t ht hW => ⟨⟨(XW ad cI cJ co (sl (sA ((lp (partStep co) (nN (gi (cut fl (gi co 0) (leaders co)) 0)) (si (cut fl (gi co 0) (leaders co)) 1 0))) 5 (wr (gA ((lp (partStep co) (nN (gi (cut fl (gi co 0) (leaders co)) 0)) (si (cut fl (gi co 0) (leaders co)) 1 0))) 5) 41 (gi ((lp (partStep co) (nN (gi (cut fl (gi co 0) (leaders co)) 0)) (si (cut fl (gi co 0) (leaders co)) 1 0))) 0) (gi ((lp (partStep co) (nN (gi (cut fl (gi co 0) (leaders co)) 0)) (si (cut fl (gi co 0) (leaders co)) 1 0))) 1))) 0 0) ra li re wa pi), rfl, xw_eq rfl (show (sl (sA ((lp (partStep co) (nN (gi (cut fl (gi co 0) (leaders co)) 0)) (si (cut fl (gi co 0) (leaders co)) 1 0))) 5 (wr (gA ((lp (partStep co) (nN (gi (cut fl (gi co 0) (leaders co)) 0)) (si (cut fl (gi co 0) (leaders co)) 1 0))) 5) 41 (gi ((lp (partStep co) (nN (gi (cut fl (gi co 0) (leaders co)) 0)) (si (cut fl (gi co 0) (leaders co)) 1 0))) 0) (gi ((lp (partStep co) (nN (gi (cut fl (gi co 0) (leaders co)) 0)) (si (cut fl (gi co 0) (leaders co)) 1 0))) 1))) 0 0) = (part co fl) from (by first | (simp only [part, partE, partL, if_neg c_80, decide_eq_false c_80, decide_eq_true c_80, if_pos c_80, gi_sl, gi_sA, gi_sB, gi_si_s, gi_si_n, gl_si, gl_sA, gl_sB, gl_sl_s, gl_sl_n, gA_si, gA_sl, gA_sB, gA_sA_s, gA_sA_n, gB_si, gB_sl, gB_sA, gB_sB_s, gB_sB_n, Nat.reduceBEq, if_true, if_false, eq_self, Bool.false_eq_true, reduceCtorEq, not_true_eq_false, not_false_eq_true, decide_true, decide_false, cond_true, cond_false, Bool.true_and, Bool.false_and, Bool.and_true, Bool.and_false, Bool.true_or, Bool.false_or, Bool.or_true, Bool.or_false, b2i_tt, b2i_ff]; done) | (simp only [part, partE, partL, if_neg c_80, decide_eq_false c_80, decide_eq_true c_80, if_pos c_80, gi_sl, gi_sA, gi_sB, gi_si_s, gi_si_n, gl_si, gl_sA, gl_sB, gl_sl_s, gl_sl_n, gA_si, gA_sl, gA_sB, gA_sA_s, gA_sA_n, gB_si, gB_sl, gB_sA, gB_sB_s, gB_sB_n, Nat.reduceBEq, if_true, if_false, eq_self, Bool.false_eq_true, reduceCtorEq, not_true_eq_false, not_false_eq_true, decide_true, decide_false, cond_true, cond_false, Bool.true_and, Bool.false_and, Bool.and_true, Bool.and_false, Bool.true_or, Bool.false_or, Bool.or_true, Bool.or_false, b2i_tt, b2i_ff]; rfl) | (simp [part, partE, partL, c_80, gi_sl, gi_sA, gi_sB, gi_si_s, gi_si_n, gl_si, gl_sA, gl_sB, gl_sl_s, gl_sl_n, gA_si, gA_sl, gA_sB, gA_sA_s, gA_sA_n, gB_si, gB_sl, gB_sA, gB_sB_s, gB_sB_n, Nat.reduceBEq]; done))) rfl rfl rfl rfl rfl, ⟨by rw [ht]; exact hP, va_K.moved hW.alike hK, hD⟩⟩, hS.F ht⟩) hS.2.2 dX1_part_103
    · have c_80 : 0 < (gi ((lp (partStep co) (nN (gi (cut fl (gi co 0) (leaders co)) 0)) (si (cut fl (gi co 0) (leaders co)) 1 0))) 0) := i_nge c_80
      refine lv_aload_n hx hb dX1_part_83 rfl (lv_at hl 0 rfl) ?_
      refine va_get (D := D) (ci := 1) (v := .ref (ad 18)) (C := RX1) (T := TX1) (N := 11) hx hb hg inGX1 hown hK hP 2 rfl rfl 6 (by decide) (hg _ mw_96) (fun _ h9 => h9) rfl dX1_part_84 ?_
      refine lv_lconst (v := 1) hx hb dX1_part_87 (by decide) ?_
      refine lv_bipush (v := 40) hx hb dX1_part_88 (by decide) ?_
      refine kL (rSN hx hb hml hown hg hN hK hP hD (c_bit l D cI cJ (XW ad cI cJ co (sA ((lp (partStep co) (nN (gi (cut fl (gi co 0) (leaders co)) 0)) (si (cut fl (gi co 0) (leaders co)) 1 0))) 5 (wr (gA ((lp (partStep co) (nN (gi (cut fl (gi co 0) (leaders co)) 0)) (si (cut fl (gi co 0) (leaders co)) 1 0))) 5) 41 (gi ((lp (partStep co) (nN (gi (cut fl (gi co 0) (leaders co)) 0)) (si (cut fl (gi co 0) (leaders co)) 1 0))) 0) (gi ((lp (partStep co) (nN (gi (cut fl (gi co 0) (leaders co)) 0)) (si (cut fl (gi co 0) (leaders co)) 1 0))) 1))) ra li re wa pi) 40) mw_78 nw_66 mw_80 mw_77 pd_X7_bit ⟨Nat.le_of_ble_eq_true rfl, Nat.le_of_ble_eq_true rfl⟩ rfl hl.1 rfl (Nat.le_of_ble_eq_true rfl) dX1_part_90 ⟨Nat.le_of_ble_eq_true rfl, Nat.le_of_ble_eq_true rfl⟩) hD hS hA (fun r_5 u_5 H locs hp hP hD hS => ?_)
      obtain ⟨er, eu⟩ := hp
      obtain rfl := er.symm
      obtain rfl := eu.symm
      refine kL (rSN hx hb hml hown hg hN hK hP hD (c_spread l D cI cJ (XW ad cI cJ co (sA ((lp (partStep co) (nN (gi (cut fl (gi co 0) (leaders co)) 0)) (si (cut fl (gi co 0) (leaders co)) 1 0))) 5 (wr (gA ((lp (partStep co) (nN (gi (cut fl (gi co 0) (leaders co)) 0)) (si (cut fl (gi co 0) (leaders co)) 1 0))) 5) 41 (gi ((lp (partStep co) (nN (gi (cut fl (gi co 0) (leaders co)) 0)) (si (cut fl (gi co 0) (leaders co)) 1 0))) 0) (gi ((lp (partStep co) (nN (gi (cut fl (gi co 0) (leaders co)) 0)) (si (cut fl (gi co 0) (leaders co)) 1 0))) 1))) ra li re wa pi) 18 (ad 18) (gB ((lp (partStep co) (nN (gi (cut fl (gi co 0) (leaders co)) 0)) (si (cut fl (gi co 0) (leaders co)) 1 0))) 0) 1 (bitL 40) rfl) mw_116 nw_72 mw_117 mw_77 pd_X7_spread ⟨Nat.le_of_ble_eq_true rfl, Nat.le_of_ble_eq_true rfl⟩ rfl hl.1 rfl (Nat.le_of_ble_eq_true rfl) dX1_part_93 ⟨Nat.le_of_ble_eq_true rfl, Nat.le_of_ble_eq_true rfl⟩) hD hS hA (fun r_6 u_6 H locs hp hP hD hS => ?_)
      obtain ⟨er, eu⟩ := hp
      obtain rfl := er.symm
      obtain rfl := eu.symm
      refine lv_goto (tgt := 100) hx hb dX1_part_96 (by decide) ?_
      refine va_put (D := D) (ci := 1) (v := .long (spread (gB ((lp (partStep co) (nN (gi (cut fl (gi co 0) (leaders co)) 0)) (si (cut fl (gi co 0) (leaders co)) 1 0))) 0) 1 (bitL 40))) (C := RX1) (T := TX1) (N := 11) hx hb hg inGX1 tyX1 tyX1_ok nmX1 hown hK hP hD hS 2 rfl rfl 9 (by decide) (hg _ mw_115) (fun _ h9 => h9) rfl (tyX1_ok 9 (by decide)) rfl rfl (Nat.le_of_ble_eq_true rfl) dX1_part_100 (fun H locs hP hD hS => ?_)
      have hP : va_P D vwCl (XW ad cI cJ co (sl (sA ((lp (partStep co) (nN (gi (cut fl (gi co 0) (leaders co)) 0)) (si (cut fl (gi co 0) (leaders co)) 1 0))) 5 (wr (gA ((lp (partStep co) (nN (gi (cut fl (gi co 0) (leaders co)) 0)) (si (cut fl (gi co 0) (leaders co)) 1 0))) 5) 41 (gi ((lp (partStep co) (nN (gi (cut fl (gi co 0) (leaders co)) 0)) (si (cut fl (gi co 0) (leaders co)) 1 0))) 0) (gi ((lp (partStep co) (nN (gi (cut fl (gi co 0) (leaders co)) 0)) (si (cut fl (gi co 0) (leaders co)) 1 0))) 1))) 0 (spread (gB ((lp (partStep co) (nN (gi (cut fl (gi co 0) (leaders co)) 0)) (si (cut fl (gi co 0) (leaders co)) 1 0))) 0) 1 (bitL 40))) ra li re wa pi) H := hP
      have hD : va_D A (XW ad cI cJ co (sl (sA ((lp (partStep co) (nN (gi (cut fl (gi co 0) (leaders co)) 0)) (si (cut fl (gi co 0) (leaders co)) 1 0))) 5 (wr (gA ((lp (partStep co) (nN (gi (cut fl (gi co 0) (leaders co)) 0)) (si (cut fl (gi co 0) (leaders co)) 1 0))) 5) 41 (gi ((lp (partStep co) (nN (gi (cut fl (gi co 0) (leaders co)) 0)) (si (cut fl (gi co 0) (leaders co)) 1 0))) 0) (gi ((lp (partStep co) (nN (gi (cut fl (gi co 0) (leaders co)) 0)) (si (cut fl (gi co 0) (leaders co)) 1 0))) 1))) 0 (spread (gB ((lp (partStep co) (nN (gi (cut fl (gi co 0) (leaders co)) 0)) (si (cut fl (gi co 0) (leaders co)) 1 0))) 0) 1 (bitL 40))) ra li re wa pi) := hD
      exact W.vret hx hb hr (fun t ht hW => ⟨⟨(XW ad cI cJ co (sl (sA ((lp (partStep co) (nN (gi (cut fl (gi co 0) (leaders co)) 0)) (si (cut fl (gi co 0) (leaders co)) 1 0))) 5 (wr (gA ((lp (partStep co) (nN (gi (cut fl (gi co 0) (leaders co)) 0)) (si (cut fl (gi co 0) (leaders co)) 1 0))) 5) 41 (gi ((lp (partStep co) (nN (gi (cut fl (gi co 0) (leaders co)) 0)) (si (cut fl (gi co 0) (leaders co)) 1 0))) 0) (gi ((lp (partStep co) (nN (gi (cut fl (gi co 0) (leaders co)) 0)) (si (cut fl (gi co 0) (leaders co)) 1 0))) 1))) 0 (spread (gB ((lp (partStep co) (nN (gi (cut fl (gi co 0) (leaders co)) 0)) (si (cut fl (gi co 0) (leaders co)) 1 0))) 0) 1 (bitL 40))) ra li re wa pi), rfl, xw_eq rfl (show (sl (sA ((lp (partStep co) (nN (gi (cut fl (gi co 0) (leaders co)) 0)) (si (cut fl (gi co 0) (leaders co)) 1 0))) 5 (wr (gA ((lp (partStep co) (nN (gi (cut fl (gi co 0) (leaders co)) 0)) (si (cut fl (gi co 0) (leaders co)) 1 0))) 5) 41 (gi ((lp (partStep co) (nN (gi (cut fl (gi co 0) (leaders co)) 0)) (si (cut fl (gi co 0) (leaders co)) 1 0))) 0) (gi ((lp (partStep co) (nN (gi (cut fl (gi co 0) (leaders co)) 0)) (si (cut fl (gi co 0) (leaders co)) 1 0))) 1))) 0 (spread (gB ((lp (partStep co) (nN (gi (cut fl (gi co 0) (leaders co)) 0)) (si (cut fl (gi co 0) (leaders co)) 1 0))) 0) 1 (bitL 40))) = (part co fl) from (by first | (simp only [part, partE, partL, if_pos c_80, decide_eq_true c_80, decide_eq_false (not_not_intro c_80), gi_sl, gi_sA, gi_sB, gi_si_s, gi_si_n, gl_si, gl_sA, gl_sB, gl_sl_s, gl_sl_n, gA_si, gA_sl, gA_sB, gA_sA_s, gA_sA_n, gB_si, gB_sl, gB_sA, gB_sB_s, gB_sB_n, Nat.reduceBEq, if_true, if_false, eq_self, Bool.false_eq_true, reduceCtorEq, not_true_eq_false, not_false_eq_true, decide_true, decide_false, cond_true, cond_false, Bool.true_and, Bool.false_and, Bool.and_true, Bool.and_false, Bool.true_or, Bool.false_or, Bool.or_true, Bool.or_false, b2i_tt, b2i_ff]; done) | (simp only [part, partE, partL, if_pos c_80, decide_eq_true c_80, decide_eq_false (not_not_intro c_80), gi_sl, gi_sA, gi_sB, gi_si_s, gi_si_n, gl_si, gl_sA, gl_sB, gl_sl_s, gl_sl_n, gA_si, gA_sl, gA_sB, gA_sA_s, gA_sA_n, gB_si, gB_sl, gB_sA, gB_sB_s, gB_sB_n, Nat.reduceBEq, if_true, if_false, eq_self, Bool.false_eq_true, reduceCtorEq, not_true_eq_false, not_false_eq_true, decide_true, decide_false, cond_true, cond_false, Bool.true_and, Bool.false_and, Bool.and_true, Bool.and_false, Bool.true_or, Bool.false_or, Bool.or_true, Bool.or_false, b2i_tt, b2i_ff]; rfl) | (simp [part, partE, partL, c_80, gi_sl, gi_sA, gi_sB, gi_si_s, gi_si_n, gl_si, gl_sA, gl_sB, gl_sl_s, gl_sl_n, gA_si, gA_sl, gA_sB, gA_sA_s, gA_sA_n, gB_si, gB_sl, gB_sA, gB_sB_s, gB_sB_n, Nat.reduceBEq]; done))) rfl rfl rfl rfl rfl, ⟨by rw [ht]; exact hP, va_K.moved hW.alike hK, hD⟩⟩, hS.F ht⟩) hS.2.2 dX1_part_103
  · obtain ⟨h_3, hP, hD, hS, hl⟩ := hI
    have hP : va_P D vwCl (XW ad cI cJ co p_3 ra li re wa pi) H := hP
    have hD : va_D A (XW ad cI cJ co p_3 ra li re wa pi) := hD
    have hl : lv_has ls 3 [(0, .ref (ad 2)), (1, .ref (ad 1)), (2, .int (nI i_3))] := hl
    refine lv_iload_n hx hb dX1_part_19 rfl (lv_at hl 2 rfl) ?_
    refine lv_aload_n hx hb dX1_part_20 rfl (lv_at hl 0 rfl) ?_
    refine va_get (D := D) (ci := 1) (v := .int (gi p_3 0)) (C := RX1) (T := TX1) (N := 11) hx hb hg inGX1 hown hK hP 2 rfl rfl 7 (by decide) (hg _ mw_88) (fun _ h9 => h9) rfl dX1_part_21 ?_
    refine lv_icmp_ge (tgt := 60) hx hb dX1_part_24 (by decide) (fun c_24 => absurd c_24 (by rw [h_3, part_bc]; exact lp_in hi_3)) (fun _ => ?_)
    refine lv_aload_n hx hb dX1_part_27 rfl (lv_at hl 0 rfl) ?_
    refine va_get (D := D) (ci := 1) (v := .ref (ad 17)) (C := RX1) (T := TX1) (N := 11) hx hb hg inGX1 hown hK hP 2 rfl rfl 5 (by decide) (hg _ mw_114) (fun _ h9 => h9) rfl dX1_part_28 ?_
    refine lv_iload_n hx hb dX1_part_31 rfl (lv_at hl 2 rfl) ?_
    refine lv_aload_n hx hb dX1_part_32 rfl (lv_at hl 0 rfl) ?_
    refine va_get (D := D) (ci := 1) (v := .int (gi p_3 1)) (C := RX1) (T := TX1) (N := 11) hx hb hg inGX1 hown hK hP 2 rfl rfl 8 (by decide) (hg _ mw_100) (fun _ h9 => h9) rfl dX1_part_33 ?_
    refine kV (rSN hx hb hml hown hg hN hK hP hD (c_put l D cI cJ (XW ad cI cJ co p_3 ra li re wa pi) 17 (ad 17) 41 (gA p_3 5) (nI i_3) (gi p_3 1) rfl (by decide)) mw_92 nw_69 mw_93 mw_77 pd_X7_put ⟨Nat.le_of_ble_eq_true rfl, Nat.le_of_ble_eq_true rfl⟩ rfl hl.1 rfl (Nat.le_of_ble_eq_true rfl) dX1_part_36 ⟨Nat.le_of_ble_eq_true rfl, Nat.le_of_ble_eq_true rfl⟩) hD hS hA (fun u_7 H locs hp hP hD hS => ?_)
    obtain rfl := hp.symm
    have hP : va_P D vwCl (XW ad cI cJ co (sA p_3 5 (wr (gA p_3 5) 41 (nI i_3) (gi p_3 1))) ra li re wa pi) H := hP
    have hD : va_D A (XW ad cI cJ co (sA p_3 5 (wr (gA p_3 5) 41 (nI i_3) (gi p_3 1))) ra li re wa pi) := hD
    refine lv_aload_n hx hb dX1_part_39 rfl (lv_at hl 0 rfl) ?_
    refine va_get (D := D) (ci := 1) (v := .ref (ad 18)) (C := RX1) (T := TX1) (N := 11) hx hb hg inGX1 hown hK hP 2 rfl rfl 6 (by decide) (hg _ mw_96) (fun _ h9 => h9) rfl dX1_part_40 ?_
    refine lv_iload_n hx hb dX1_part_43 rfl (lv_at hl 2 rfl) ?_
    refine lv_lconst (v := 0) hx hb dX1_part_44 (by decide) ?_
    refine kV (rSN hx hb hml hown hg hN hK hP hD (c_putL l D cI cJ (XW ad cI cJ co (sA p_3 5 (wr (gA p_3 5) 41 (nI i_3) (gi p_3 1))) ra li re wa pi) 18 (ad 18) 40 (gB p_3 0) (nI i_3) 0 rfl (by decide)) mw_97 nw_70 mw_98 mw_77 pd_X7_put_ ⟨Nat.le_of_ble_eq_true rfl, Nat.le_of_ble_eq_true rfl⟩ rfl hl.1 rfl (Nat.le_of_ble_eq_true rfl) dX1_part_45 ⟨Nat.le_of_ble_eq_true rfl, Nat.le_of_ble_eq_true rfl⟩) hD hS hA (fun u_8 H locs hp hP hD hS => ?_)
    obtain rfl := hp.symm
    have hP : va_P D vwCl (XW ad cI cJ co (sB (sA p_3 5 (wr (gA p_3 5) 41 (nI i_3) (gi p_3 1))) 0 (wrL (gB p_3 0) 40 (nI i_3) 0)) ra li re wa pi) H := hP
    have hD : va_D A (XW ad cI cJ co (sB (sA p_3 5 (wr (gA p_3 5) 41 (nI i_3) (gi p_3 1))) 0 (wrL (gB p_3 0) 40 (nI i_3) 0)) ra li re wa pi) := hD
    refine lv_aload_n hx hb dX1_part_48 rfl (lv_at hl 0 rfl) ?_
    refine lv_aload_n hx hb dX1_part_49 rfl (lv_at hl 1 rfl) ?_
    refine lv_iload_n hx hb dX1_part_50 rfl (lv_at hl 2 rfl) ?_
    refine kV (rV (q0 := 2) (ci := 1) hx hb hml hown hg hN hK hP hD (c_leave l D cI cJ ad co (sB (sA p_3 5 (wr (gA p_3 5) 41 (nI i_3) (gi p_3 1))) 0 (wrL (gB p_3 0) 40 (nI i_3) 0)) ra li re wa pi (nI i_3)) mw_118 mw_119 mw_120 mw_121 mw_106 pdv_X1_leave ⟨Nat.le_of_ble_eq_true rfl, Nat.le_of_ble_eq_true rfl⟩ rfl rfl rfl hl.1 rfl (Nat.le_of_ble_eq_true rfl) dX1_part_51 ⟨Nat.le_of_ble_eq_true rfl, Nat.le_of_ble_eq_true rfl⟩) hD hS hA (fun u_9 H locs hp hP hD hS => ?_)
    obtain rfl := hp.symm
    have hP : va_P D vwCl (XW ad cI cJ co (leave co (sB (sA p_3 5 (wr (gA p_3 5) 41 (nI i_3) (gi p_3 1))) 0 (wrL (gB p_3 0) 40 (nI i_3) 0)) (nI i_3)) ra li re wa pi) H := hP
    have hD : va_D A (XW ad cI cJ co (leave co (sB (sA p_3 5 (wr (gA p_3 5) 41 (nI i_3) (gi p_3 1))) 0 (wrL (gB p_3 0) 40 (nI i_3) 0)) (nI i_3)) ra li re wa pi) := hD
    refine lv_iinc (v := (nI (i_3 + 1))) (lv' := [(2, .int (nI (i_3 + 1))), (0, .ref (ad 2)), (1, .ref (ad 1))]) hx hb dX1_part_54 hl (k := 2) rfl (nI_1 i_3) (by decide) rfl (fun ls hl => ?_)
    refine lv_goto (tgt := 19) hx hb dX1_part_57 (by decide) ?_
    exact ih_3 (leave co (sB (sA p_3 5 (wr (gA p_3 5) 41 (nI i_3) (gi p_3 1))) 0 (wrL (gB p_3 0) 40 (nI i_3) 0)) (nI i_3)) H locs ls ⟨((show (leave co (sB (sA p_3 5 (wr (gA p_3 5) 41 (nI i_3) (gi p_3 1))) 0 (wrL (gB p_3 0) 40 (nI i_3) 0)) (nI i_3)) = (partStep co) i_3 p_3 from (by first | with_reducible rfl | (simp only [partStep, gi_sl, gi_sA, gi_sB, gi_si_s, gi_si_n, gl_si, gl_sA, gl_sB, gl_sl_s, gl_sl_n, gA_si, gA_sl, gA_sB, gA_sA_s, gA_sA_n, gB_si, gB_sl, gB_sA, gB_sB_s, gB_sB_n, Nat.reduceBEq, if_true, if_false, eq_self, Bool.false_eq_true, reduceCtorEq, not_true_eq_false, not_false_eq_true, decide_true, decide_false, cond_true, cond_false, Bool.true_and, Bool.false_and, Bool.and_true, Bool.and_false, Bool.true_or, Bool.false_or, Bool.or_true, Bool.or_false, b2i_tt, b2i_ff]; done) | rfl)).trans (lp_go h_3)), hP, hD, hS, lv_sub hl [1, 2, 0] rfl⟩
set_option maxHeartbeats 4000000 in
set_option maxRecDepth 100000 in
theorem c_countWindings (l : Launch) (D : va_G) (cI cJ : ClassId) (ad : Nat → Nat) (co fl ra li re wa pi : Ob) : CT l D (TY cI cJ) yX1_countWindings (.code yX1_countWindings cX1_countWindings 3 (some Jvm.ClassFile.FieldType.int)) 1 0 0 (XW ad cI cJ co fl ra li re wa pi) [.ref (ad 2)] (QI D (TY cI cJ) (fun r u => r = (windings fl) ∧ u = (XW ad cI cJ co fl ra li re wa pi))) := by
  refine ent (by decide) (Nat.le_of_ble_eq_true rfl) ?_
  intro p e s m below meth c ls A hx hb hr hg hown hml hlocks hnm hP hK hD hS hA hN hl
  have hl : lv_has ls 3 [(0, .ref (ad 2))] := hl
  refine lv_aload_n hx hb dX1_countWindings_0 rfl (lv_at hl 0 rfl) ?_
  refine va_get (D := D) (ci := 1) (v := .int (gi fl 0)) (C := RX1) (T := TX1) (N := 11) hx hb hg inGX1 hown hK hP 2 rfl rfl 7 (by decide) (hg _ mw_88) (fun _ h9 => h9) rfl dX1_countWindings_1 ?_
  refine lv_if_ne (tgt := 9) hx hb dX1_countWindings_4 (by decide) (fun c_4 => ?_) (fun c_4 => ?_)
  · refine lv_iconst (v := 0) hx hb dX1_countWindings_9 (by decide) ?_
    refine lv_istore_n (lv' := [(1, .int 0), (0, .ref (ad 2))]) hx hb dX1_countWindings_10 rfl hl (by decide) rfl (fun ls hl => ?_)
    refine lv_iconst (v := 0) hx hb dX1_countWindings_11 (by decide) ?_
    refine lv_istore_n (lv' := [(2, .int 0), (1, .int 0), (0, .ref (ad 2))]) hx hb dX1_countWindings_12 rfl hl (by decide) rfl (fun ls hl => ?_)
    refine w_loop (σ := Int32) (fun (i_1 : Nat) (p_1 : Int32) (H : Heap) (locs : List Loc) (ls : Array Slot) => p_1 = (lp (windStep fl) i_1 0) ∧ va_P D vwCl (XW ad cI cJ co fl ra li re wa pi) H ∧ va_D A (XW ad cI cJ co fl ra li re wa pi) ∧ va_S A s.heap H locs ∧ lv_has ls 3 [(0, .ref (ad 2)), (1, .int p_1), (2, .int (nI i_1))]) (nN (gi fl 1)) (fun p_1 H locs ls hI => ?_) (fun i_1 p_1 H locs ls hi_1 hI ih_1 => ?_) 0 0 (Nat.zero_le _) ⟨rfl, hP, hD, hS, (by rw [nI_0]; exact lv_sub hl [2, 1, 0] rfl)⟩
    · obtain ⟨h_1, hP, hD, hS, hl⟩ := hI
      have h_1 := h_1.symm
      subst h_1
      have hP : va_P D vwCl (XW ad cI cJ co fl ra li re wa pi) H := hP
      have hD : va_D A (XW ad cI cJ co fl ra li re wa pi) := hD
      have hl : lv_has ls 3 [(0, .ref (ad 2)), (1, .int ((lp (windStep fl) (nN (gi fl 1)) 0))), (2, .int (nI ((nN (gi fl 1)))))] := hl
      refine lv_iload_n hx hb dX1_countWindings_13 rfl (lv_at hl 2 rfl) ?_
      refine lv_aload_n hx hb dX1_countWindings_14 rfl (lv_at hl 0 rfl) ?_
      refine va_get (D := D) (ci := 1) (v := .int (gi fl 1)) (C := RX1) (T := TX1) (N := 11) hx hb hg inGX1 hown hK hP 2 rfl rfl 8 (by decide) (hg _ mw_100) (fun _ h9 => h9) rfl dX1_countWindings_15 ?_
      refine lv_icmp_ge (tgt := 48) hx hb dX1_countWindings_18 (by decide) (fun _ => ?_) (fun c_18 => absurd (lp_out _) c_18)
      refine lv_iload_n hx hb dX1_countWindings_48 rfl (lv_at hl 1 rfl) ?_
      refine lv_aload_n hx hb dX1_countWindings_49 rfl (lv_at hl 0 rfl) ?_
      refine va_get (D := D) (ci := 1) (v := .long (gl fl 0)) (C := RX1) (T := TX1) (N := 11) hx hb hg inGX1 hown hK hP 2 rfl rfl 9 (by decide) (hg _ mw_115) (fun _ h9 => h9) rfl dX1_countWindings_50 ?_
      refine kI (rS hx hb hml hown hg hN hK hP hD (c_bitCount l D cI cJ (XW ad cI cJ co fl ra li re wa pi) (gl fl 0)) mw_68 mw_122 mw_70 mw_71 pd_J13_bitCount_95d88 ⟨Nat.le_of_ble_eq_true rfl, Nat.le_of_ble_eq_true rfl⟩ rfl hl.1 rfl (Nat.le_of_ble_eq_true rfl) dX1_countWindings_53 ⟨Nat.le_of_ble_eq_true rfl, Nat.le_of_ble_eq_true rfl⟩) hD hS hA (fun r_2 u_2 H locs hp hP hD hS => ?_)
      obtain ⟨er, eu⟩ := hp
      obtain rfl := er.symm
      obtain rfl := eu.symm
      refine lv_isub hx hb dX1_countWindings_56 ?_
      refine lv_iconst (v := 1) hx hb dX1_countWindings_57 (by decide) ?_
      refine lv_isub hx hb dX1_countWindings_58 ?_
      refine lv_iconst (v := 2) hx hb dX1_countWindings_59 (by decide) ?_
      refine lv_iadd hx hb dX1_countWindings_60 ?_
      exact W.iret (v := (((((lp (windStep fl) (nN (gi fl 1)) 0)) - (bc (gl fl 0))) - 1) + 2)) hx hb hr (fun t ht hW => ⟨⟨(((((lp (windStep fl) (nN (gi fl 1)) 0)) - (bc (gl fl 0))) - 1) + 2), (XW ad cI cJ co fl ra li re wa pi), rfl, ⟨(show ((((((lp (windStep fl) (nN (gi fl 1)) 0)) - (bc (gl fl 0))) - 1) + 2) : Int32) = (windings fl) from (by first | (simp only [windings, if_neg c_4, decide_eq_false c_4, decide_eq_true c_4, if_pos c_4, gi_sl, gi_sA, gi_sB, gi_si_s, gi_si_n, gl_si, gl_sA, gl_sB, gl_sl_s, gl_sl_n, gA_si, gA_sl, gA_sB, gA_sA_s, gA_sA_n, gB_si, gB_sl, gB_sA, gB_sB_s, gB_sB_n, Nat.reduceBEq, if_true, if_false, eq_self, Bool.false_eq_true, reduceCtorEq, not_true_eq_false, not_false_eq_true, decide_true, decide_false, cond_true, cond_false, Bool.true_and, Bool.false_and, Bool.and_true, Bool.and_false, Bool.true_or, Bool.false_or, Bool.or_true, Bool.or_false, b2i_tt, b2i_ff]; done) | (simp only [windings, if_neg c_4, decide_eq_false c_4, decide_eq_true c_4, if_pos c_4, gi_sl, gi_sA, gi_sB, gi_si_s, gi_si_n, gl_si, gl_sA, gl_sB, gl_sl_s, gl_sl_n, gA_si, gA_sl, gA_sB, gA_sA_s, gA_sA_n, gB_si, gB_sl, gB_sA, gB_sB_s, gB_sB_n, Nat.reduceBEq, if_true, if_false, eq_self, Bool.false_eq_true, reduceCtorEq, not_true_eq_false, not_false_eq_true, decide_true, decide_false, cond_true, cond_false, Bool.true_and, Bool.false_and, Bool.and_true, Bool.and_false, Bool.true_or, Bool.false_or, Bool.or_true, Bool.or_false, b2i_tt, b2i_ff]; rfl) | (simp [windings, c_4, gi_sl, gi_sA, gi_sB, gi_si_s, gi_si_n, gl_si, gl_sA, gl_sB, gl_sl_s, gl_sl_n, gA_si, gA_sl, gA_sB, gA_sA_s, gA_sA_n, gB_si, gB_sl, gB_sA, gB_sB_s, gB_sB_n, Nat.reduceBEq]; done))), xw_eq rfl rfl rfl rfl rfl rfl rfl⟩, ⟨by rw [ht]; exact hP, va_K.moved hW.alike hK, hD⟩⟩, hS.F ht⟩) hS.2.2 dX1_countWindings_61
    · obtain ⟨h_1, hP, hD, hS, hl⟩ := hI
      have hP : va_P D vwCl (XW ad cI cJ co fl ra li re wa pi) H := hP
      have hD : va_D A (XW ad cI cJ co fl ra li re wa pi) := hD
      have hl : lv_has ls 3 [(0, .ref (ad 2)), (1, .int p_1), (2, .int (nI i_1))] := hl
      refine lv_iload_n hx hb dX1_countWindings_13 rfl (lv_at hl 2 rfl) ?_
      refine lv_aload_n hx hb dX1_countWindings_14 rfl (lv_at hl 0 rfl) ?_
      refine va_get (D := D) (ci := 1) (v := .int (gi fl 1)) (C := RX1) (T := TX1) (N := 11) hx hb hg inGX1 hown hK hP 2 rfl rfl 8 (by decide) (hg _ mw_100) (fun _ h9 => h9) rfl dX1_countWindings_15 ?_
      refine lv_icmp_ge (tgt := 48) hx hb dX1_countWindings_18 (by decide) (fun c_18 => absurd c_18 (lp_in hi_1)) (fun _ => ?_)
      refine lv_aload_n hx hb dX1_countWindings_21 rfl (lv_at hl 0 rfl) ?_
      refine va_get (D := D) (ci := 1) (v := .long (gl fl 0)) (C := RX1) (T := TX1) (N := 11) hx hb hg inGX1 hown hK hP 2 rfl rfl 9 (by decide) (hg _ mw_115) (fun _ h9 => h9) rfl dX1_countWindings_22 ?_
      refine lv_aload_n hx hb dX1_countWindings_25 rfl (lv_at hl 0 rfl) ?_
      refine va_get (D := D) (ci := 1) (v := .ref (ad 15)) (C := RX1) (T := TX1) (N := 11) hx hb hg inGX1 hown hK hP 2 rfl rfl 3 (by decide) (hg _ mw_99) (fun _ h9 => h9) rfl dX1_countWindings_26 ?_
      refine lv_iload_n hx hb dX1_countWindings_29 rfl (lv_at hl 2 rfl) ?_
      refine kI (rSN hx hb hml hown hg hN hK hP hD (c_at l D cI cJ (XW ad cI cJ co fl ra li re wa pi) 15 (ad 15) 80 (gA fl 3) (nI i_1) rfl (by decide)) mw_84 nw_65 mw_85 mw_77 pd_X7_at ⟨Nat.le_of_ble_eq_true rfl, Nat.le_of_ble_eq_true rfl⟩ rfl hl.1 rfl (Nat.le_of_ble_eq_true rfl) dX1_countWindings_30 ⟨Nat.le_of_ble_eq_true rfl, Nat.le_of_ble_eq_true rfl⟩) hD hS hA (fun r_3 u_3 H locs hp hP hD hS => ?_)
      obtain ⟨er, eu⟩ := hp
      obtain rfl := er.symm
      obtain rfl := eu.symm
      refine kI (rSN hx hb hml hown hg hN hK hP hD (c_has l D cI cJ (XW ad cI cJ co fl ra li re wa pi) (gl fl 0) (rd (gA fl 3) 80 (nI i_1))) mw_89 nw_68 mw_90 mw_77 pd_X7_has ⟨Nat.le_of_ble_eq_true rfl, Nat.le_of_ble_eq_true rfl⟩ rfl hl.1 rfl (Nat.le_of_ble_eq_true rfl) dX1_countWindings_33 ⟨Nat.le_of_ble_eq_true rfl, Nat.le_of_ble_eq_true rfl⟩) hD hS hA (fun r_4 u_4 H locs hp hP hD hS => ?_)
      obtain ⟨er, eu⟩ := hp
      obtain rfl := er.symm
      obtain rfl := eu.symm
      refine lv_if_eq (tgt := 42) hx hb dX1_countWindings_36 (by decide) (fun c_36 => ?_) (fun c_36 => ?_)
      · have c_36 : ¬ (hs (gl fl 0) (rd (gA fl 3) 80 (nI i_1))) = true := b2i_0 c_36
        refine lv_iinc (v := (nI (i_1 + 1))) (lv' := [(2, .int (nI (i_1 + 1))), (0, .ref (ad 2)), (1, .int p_1)]) hx hb dX1_countWindings_42 hl (k := 2) rfl (nI_1 i_1) (by decide) rfl (fun ls hl => ?_)
        refine lv_goto (tgt := 13) hx hb dX1_countWindings_45 (by decide) ?_
        exact ih_1 p_1 H locs ls ⟨((show p_1 = (windStep fl) i_1 p_1 from (by first | (simp only [windStep, if_neg c_4, decide_eq_false c_4, decide_eq_true c_4, if_pos c_4, if_neg c_36, bf_of c_36, gi_sl, gi_sA, gi_sB, gi_si_s, gi_si_n, gl_si, gl_sA, gl_sB, gl_sl_s, gl_sl_n, gA_si, gA_sl, gA_sB, gA_sA_s, gA_sA_n, gB_si, gB_sl, gB_sA, gB_sB_s, gB_sB_n, Nat.reduceBEq, if_true, if_false, eq_self, Bool.false_eq_true, reduceCtorEq, not_true_eq_false, not_false_eq_true, decide_true, decide_false, cond_true, cond_false, Bool.true_and, Bool.false_and, Bool.and_true, Bool.and_false, Bool.true_or, Bool.false_or, Bool.or_true, Bool.or_false, b2i_tt, b2i_ff]; done) | (simp only [windStep, if_neg c_4, decide_eq_false c_4, decide_eq_true c_4, if_pos c_4, if_neg c_36, bf_of c_36, gi_sl, gi_sA, gi_sB, gi_si_s, gi_si_n, gl_si, gl_sA, gl_sB, gl_sl_s, gl_sl_n, gA_si, gA_sl, gA_sB, gA_sA_s, gA_sA_n, gB_si, gB_sl, gB_sA, gB_sB_s, gB_sB_n, Nat.reduceBEq, if_true, if_false, eq_self, Bool.false_eq_true, reduceCtorEq, not_true_eq_false, not_false_eq_true, decide_true, decide_false, cond_true, cond_false, Bool.true_and, Bool.false_and, Bool.and_true, Bool.and_false, Bool.true_or, Bool.false_or, Bool.or_true, Bool.or_false, b2i_tt, b2i_ff]; rfl) | (simp [windStep, c_4, c_36, gi_sl, gi_sA, gi_sB, gi_si_s, gi_si_n, gl_si, gl_sA, gl_sB, gl_sl_s, gl_sl_n, gA_si, gA_sl, gA_sB, gA_sA_s, gA_sA_n, gB_si, gB_sl, gB_sA, gB_sB_s, gB_sB_n, Nat.reduceBEq]; done))).trans (lp_go h_1)), hP, hD, hS, lv_sub hl [1, 2, 0] rfl⟩
      · have c_36 : (hs (gl fl 0) (rd (gA fl 3) 80 (nI i_1))) = true := b2i_1 c_36
        refine lv_iinc (v := (p_1 + 1)) (lv' := [(1, .int (p_1 + 1)), (0, .ref (ad 2)), (2, .int (nI i_1))]) hx hb dX1_countWindings_39 hl (k := 1) rfl rfl (by decide) rfl (fun ls hl => ?_)
        refine lv_iinc (v := (nI (i_1 + 1))) (lv' := [(2, .int (nI (i_1 + 1))), (1, .int (p_1 + 1)), (0, .ref (ad 2))]) hx hb dX1_countWindings_42 hl (k := 2) rfl (nI_1 i_1) (by decide) rfl (fun ls hl => ?_)
        refine lv_goto (tgt := 13) hx hb dX1_countWindings_45 (by decide) ?_
        exact ih_1 (p_1 + 1) H locs ls ⟨((show (p_1 + 1) = (windStep fl) i_1 p_1 from (by first | (simp only [windStep, if_neg c_4, decide_eq_false c_4, decide_eq_true c_4, if_pos c_4, if_pos c_36, c_36, gi_sl, gi_sA, gi_sB, gi_si_s, gi_si_n, gl_si, gl_sA, gl_sB, gl_sl_s, gl_sl_n, gA_si, gA_sl, gA_sB, gA_sA_s, gA_sA_n, gB_si, gB_sl, gB_sA, gB_sB_s, gB_sB_n, Nat.reduceBEq, if_true, if_false, eq_self, Bool.false_eq_true, reduceCtorEq, not_true_eq_false, not_false_eq_true, decide_true, decide_false, cond_true, cond_false, Bool.true_and, Bool.false_and, Bool.and_true, Bool.and_false, Bool.true_or, Bool.false_or, Bool.or_true, Bool.or_false, b2i_tt, b2i_ff]; done) | (simp only [windStep, if_neg c_4, decide_eq_false c_4, decide_eq_true c_4, if_pos c_4, if_pos c_36, c_36, gi_sl, gi_sA, gi_sB, gi_si_s, gi_si_n, gl_si, gl_sA, gl_sB, gl_sl_s, gl_sl_n, gA_si, gA_sl, gA_sB, gA_sA_s, gA_sA_n, gB_si, gB_sl, gB_sA, gB_sB_s, gB_sB_n, Nat.reduceBEq, if_true, if_false, eq_self, Bool.false_eq_true, reduceCtorEq, not_true_eq_false, not_false_eq_true, decide_true, decide_false, cond_true, cond_false, Bool.true_and, Bool.false_and, Bool.and_true, Bool.and_false, Bool.true_or, Bool.false_or, Bool.or_true, Bool.or_false, b2i_tt, b2i_ff]; rfl) | (simp [windStep, c_4, c_36, gi_sl, gi_sA, gi_sB, gi_si_s, gi_si_n, gl_si, gl_sA, gl_sB, gl_sl_s, gl_sl_n, gA_si, gA_sl, gA_sB, gA_sA_s, gA_sA_n, gB_si, gB_sl, gB_sA, gB_sB_s, gB_sB_n, Nat.reduceBEq]; done))).trans (lp_go h_1)), hP, hD, hS, lv_sub hl [2, 1, 0] rfl⟩
  · refine lv_iconst (v := 0) hx hb dX1_countWindings_7 (by decide) ?_
    exact W.iret (v := 0) hx hb hr (fun t ht hW => ⟨⟨0, (XW ad cI cJ co fl ra li re wa pi), rfl, ⟨(show (0 : Int32) = (windings fl) from (by first | (simp only [windings, if_pos c_4, decide_eq_true c_4, decide_eq_false (not_not_intro c_4), gi_sl, gi_sA, gi_sB, gi_si_s, gi_si_n, gl_si, gl_sA, gl_sB, gl_sl_s, gl_sl_n, gA_si, gA_sl, gA_sB, gA_sA_s, gA_sA_n, gB_si, gB_sl, gB_sA, gB_sB_s, gB_sB_n, Nat.reduceBEq, if_true, if_false, eq_self, Bool.false_eq_true, reduceCtorEq, not_true_eq_false, not_false_eq_true, decide_true, decide_false, cond_true, cond_false, Bool.true_and, Bool.false_and, Bool.and_true, Bool.and_false, Bool.true_or, Bool.false_or, Bool.or_true, Bool.or_false, b2i_tt, b2i_ff]; done) | (simp only [windings, if_pos c_4, decide_eq_true c_4, decide_eq_false (not_not_intro c_4), gi_sl, gi_sA, gi_sB, gi_si_s, gi_si_n, gl_si, gl_sA, gl_sB, gl_sl_s, gl_sl_n, gA_si, gA_sl, gA_sB, gA_sA_s, gA_sA_n, gB_si, gB_sl, gB_sA, gB_sB_s, gB_sB_n, Nat.reduceBEq, if_true, if_false, eq_self, Bool.false_eq_true, reduceCtorEq, not_true_eq_false, not_false_eq_true, decide_true, decide_false, cond_true, cond_false, Bool.true_and, Bool.false_and, Bool.and_true, Bool.and_false, Bool.true_or, Bool.false_or, Bool.or_true, Bool.or_false, b2i_tt, b2i_ff]; rfl) | (simp [windings, c_4, gi_sl, gi_sA, gi_sB, gi_si_s, gi_si_n, gl_si, gl_sA, gl_sB, gl_sl_s, gl_sl_n, gA_si, gA_sl, gA_sB, gA_sA_s, gA_sA_n, gB_si, gB_sl, gB_sA, gB_sB_s, gB_sB_n, Nat.reduceBEq]; done))), xw_eq rfl rfl rfl rfl rfl rfl rfl⟩, ⟨by rw [ht]; exact hP, va_K.moved hW.alike hK, hD⟩⟩, hS.F ht⟩) hS.2.2 dX1_countWindings_8
end
