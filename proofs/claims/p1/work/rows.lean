section
-- ===== PART A: goes FIRST, ahead of the names: the tables' words, and 'selects' of the private methods out of them =====
/-- a private method of a class that the tables say can be made, by its rows of tables_1 -/
def lw_okq (q : MethodName × Nat) : Prop := (q.1.cls ≠ "java/lang/invoke/MethodHandle" ∧ q.1.cls ≠ "java/lang/invoke/VarHandle") ∧ Cond.instantiable q.1.cls q.2 ∈ tables_1 ∧ Cond.privateMethod q.1 ∈ tables_1 ∧ Cond.instanceMethod q.1 ∈ tables_1
theorem lw_p0 : lw_okq (⟨"OrielChart", "freshFlow", "()LOrielChart$Flow;"⟩, 6) := ⟨⟨by decide +kernel, by decide +kernel⟩, List.mem_of_getElem? (i := 23) (by decide +kernel), List.mem_of_getElem? (i := 339) (by decide +kernel), List.mem_of_getElem? (i := 340) (by decide +kernel)⟩
theorem lw_p1 : lw_okq (⟨"OrielChart$Flow", "cut", "(IJ)V"⟩, 11) := ⟨⟨by decide +kernel, by decide +kernel⟩, List.mem_of_getElem? (i := 64) (by decide +kernel), List.mem_of_getElem? (i := 359) (by decide +kernel), List.mem_of_getElem? (i := 360) (by decide +kernel)⟩
theorem lw_p2 : lw_okq (⟨"OrielChart$Flow", "leave", "(LOrielChart$Code;I)V"⟩, 11) := ⟨⟨by decide +kernel, by decide +kernel⟩, List.mem_of_getElem? (i := 64) (by decide +kernel), List.mem_of_getElem? (i := 372) (by decide +kernel), List.mem_of_getElem? (i := 373) (by decide +kernel)⟩
theorem lw_p3 : lw_okq (⟨"OrielChart$Flow", "join", "(III)V"⟩, 11) := ⟨⟨by decide +kernel, by decide +kernel⟩, List.mem_of_getElem? (i := 64) (by decide +kernel), List.mem_of_getElem? (i := 376) (by decide +kernel), List.mem_of_getElem? (i := 377) (by decide +kernel)⟩
theorem lw_p4 : lw_okq (⟨"OrielChart", "freshRanks", "()LOrielChart$Ranks;"⟩, 6) := ⟨⟨by decide +kernel, by decide +kernel⟩, List.mem_of_getElem? (i := 23) (by decide +kernel), List.mem_of_getElem? (i := 406) (by decide +kernel), List.mem_of_getElem? (i := 407) (by decide +kernel)⟩
theorem lw_p5 : lw_okq (⟨"OrielChart$Ranks", "sortEdges", "(LOrielChart$Flow;)V"⟩, 7) := ⟨⟨by decide +kernel, by decide +kernel⟩, List.mem_of_getElem? (i := 129) (by decide +kernel), List.mem_of_getElem? (i := 422) (by decide +kernel), List.mem_of_getElem? (i := 423) (by decide +kernel)⟩
theorem lw_p6 : lw_okq (⟨"OrielChart$Ranks", "closeLoop", "(I)V"⟩, 7) := ⟨⟨by decide +kernel, by decide +kernel⟩, List.mem_of_getElem? (i := 129) (by decide +kernel), List.mem_of_getElem? (i := 432) (by decide +kernel), List.mem_of_getElem? (i := 433) (by decide +kernel)⟩
theorem lw_p7 : lw_okq (⟨"OrielChart", "freshLives", "()LOrielChart$Lives;"⟩, 6) := ⟨⟨by decide +kernel, by decide +kernel⟩, List.mem_of_getElem? (i := 23) (by decide +kernel), List.mem_of_getElem? (i := 444) (by decide +kernel), List.mem_of_getElem? (i := 445) (by decide +kernel)⟩
theorem lw_p8 : lw_okq (⟨"OrielChart$Lives", "passUp", "(LOrielChart$Code;LOrielChart$Flow;)Z"⟩, 3) := ⟨⟨by decide +kernel, by decide +kernel⟩, List.mem_of_getElem? (i := 160) (by decide +kernel), List.mem_of_getElem? (i := 453) (by decide +kernel), List.mem_of_getElem? (i := 454) (by decide +kernel)⟩
theorem lw_p9 : lw_okq (⟨"OrielChart$Lives", "behind", "(LOrielChart$Flow;I)I"⟩, 3) := ⟨⟨by decide +kernel, by decide +kernel⟩, List.mem_of_getElem? (i := 160) (by decide +kernel), List.mem_of_getElem? (i := 458) (by decide +kernel), List.mem_of_getElem? (i := 459) (by decide +kernel)⟩
theorem lw_p10 : lw_okq (⟨"OrielChart$Lives", "vainIn", "(LOrielChart$Code;LOrielChart$Flow;I)I"⟩, 3) := ⟨⟨by decide +kernel, by decide +kernel⟩, List.mem_of_getElem? (i := 160) (by decide +kernel), List.mem_of_getElem? (i := 467) (by decide +kernel), List.mem_of_getElem? (i := 468) (by decide +kernel)⟩
theorem lw_p11 : lw_okq (⟨"OrielChart", "freshReduction", "()LOrielChart$Reduction;"⟩, 6) := ⟨⟨by decide +kernel, by decide +kernel⟩, List.mem_of_getElem? (i := 23) (by decide +kernel), List.mem_of_getElem? (i := 484) (by decide +kernel), List.mem_of_getElem? (i := 485) (by decide +kernel)⟩
theorem lw_p12 : lw_okq (⟨"OrielChart$Reduction", "takeStep", "()Z"⟩, 8) := ⟨⟨by decide +kernel, by decide +kernel⟩, List.mem_of_getElem? (i := 178) (by decide +kernel), List.mem_of_getElem? (i := 496) (by decide +kernel), List.mem_of_getElem? (i := 497) (by decide +kernel)⟩
theorem lw_p13 : lw_okq (⟨"OrielChart$Reduction", "findEntries", "()V"⟩, 8) := ⟨⟨by decide +kernel, by decide +kernel⟩, List.mem_of_getElem? (i := 178) (by decide +kernel), List.mem_of_getElem? (i := 500) (by decide +kernel), List.mem_of_getElem? (i := 501) (by decide +kernel)⟩
theorem lw_p14 : lw_okq (⟨"OrielChart$Reduction", "ruleFor", "(I)I"⟩, 8) := ⟨⟨by decide +kernel, by decide +kernel⟩, List.mem_of_getElem? (i := 178) (by decide +kernel), List.mem_of_getElem? (i := 506) (by decide +kernel), List.mem_of_getElem? (i := 507) (by decide +kernel)⟩
theorem lw_p15 : lw_okq (⟨"OrielChart$Reduction", "isSingle", "(III)Z"⟩, 8) := ⟨⟨by decide +kernel, by decide +kernel⟩, List.mem_of_getElem? (i := 178) (by decide +kernel), List.mem_of_getElem? (i := 513) (by decide +kernel), List.mem_of_getElem? (i := 514) (by decide +kernel)⟩
def lw_privs_1 : List (MethodName × Nat) := [(⟨"OrielChart", "freshFlow", "()LOrielChart$Flow;"⟩, 6), (⟨"OrielChart$Flow", "cut", "(IJ)V"⟩, 11), (⟨"OrielChart$Flow", "leave", "(LOrielChart$Code;I)V"⟩, 11), (⟨"OrielChart$Flow", "join", "(III)V"⟩, 11), (⟨"OrielChart", "freshRanks", "()LOrielChart$Ranks;"⟩, 6), (⟨"OrielChart$Ranks", "sortEdges", "(LOrielChart$Flow;)V"⟩, 7), (⟨"OrielChart$Ranks", "closeLoop", "(I)V"⟩, 7), (⟨"OrielChart", "freshLives", "()LOrielChart$Lives;"⟩, 6), (⟨"OrielChart$Lives", "passUp", "(LOrielChart$Code;LOrielChart$Flow;)Z"⟩, 3), (⟨"OrielChart$Lives", "behind", "(LOrielChart$Flow;I)I"⟩, 3), (⟨"OrielChart$Lives", "vainIn", "(LOrielChart$Code;LOrielChart$Flow;I)I"⟩, 3), (⟨"OrielChart", "freshReduction", "()LOrielChart$Reduction;"⟩, 6), (⟨"OrielChart$Reduction", "takeStep", "()Z"⟩, 8), (⟨"OrielChart$Reduction", "findEntries", "()V"⟩, 8), (⟨"OrielChart$Reduction", "ruleFor", "(I)I"⟩, 8), (⟨"OrielChart$Reduction", "isSingle", "(III)Z"⟩, 8)]
theorem lw_r1 : ∀ q ∈ lw_privs_1, lw_okq q := List.forall_mem_cons.mpr ⟨lw_p0, List.forall_mem_cons.mpr ⟨lw_p1, List.forall_mem_cons.mpr ⟨lw_p2, List.forall_mem_cons.mpr ⟨lw_p3, List.forall_mem_cons.mpr ⟨lw_p4, List.forall_mem_cons.mpr ⟨lw_p5, List.forall_mem_cons.mpr ⟨lw_p6, List.forall_mem_cons.mpr ⟨lw_p7, List.forall_mem_cons.mpr ⟨lw_p8, List.forall_mem_cons.mpr ⟨lw_p9, List.forall_mem_cons.mpr ⟨lw_p10, List.forall_mem_cons.mpr ⟨lw_p11, List.forall_mem_cons.mpr ⟨lw_p12, List.forall_mem_cons.mpr ⟨lw_p13, List.forall_mem_cons.mpr ⟨lw_p14, List.forall_mem_cons.mpr ⟨lw_p15, fun _ h => absurd h List.not_mem_nil⟩⟩⟩⟩⟩⟩⟩⟩⟩⟩⟩⟩⟩⟩⟩⟩
theorem lw_p16 : lw_okq (⟨"OrielChart$Reduction", "isDouble", "(III)Z"⟩, 8) := ⟨⟨by decide +kernel, by decide +kernel⟩, List.mem_of_getElem? (i := 178) (by decide +kernel), List.mem_of_getElem? (i := 517) (by decide +kernel), List.mem_of_getElem? (i := 518) (by decide +kernel)⟩
theorem lw_p17 : lw_okq (⟨"OrielChart$Reduction", "apply", "(II)V"⟩, 8) := ⟨⟨by decide +kernel, by decide +kernel⟩, List.mem_of_getElem? (i := 178) (by decide +kernel), List.mem_of_getElem? (i := 521) (by decide +kernel), List.mem_of_getElem? (i := 522) (by decide +kernel)⟩
theorem lw_p18 : lw_okq (⟨"OrielChart$Reduction", "merge", "(JIZ)V"⟩, 8) := ⟨⟨by decide +kernel, by decide +kernel⟩, List.mem_of_getElem? (i := 178) (by decide +kernel), List.mem_of_getElem? (i := 525) (by decide +kernel), List.mem_of_getElem? (i := 526) (by decide +kernel)⟩
theorem lw_p19 : lw_okq (⟨"OrielChart", "freshPicture", "()LOrielChart$Picture;"⟩, 6) := ⟨⟨by decide +kernel, by decide +kernel⟩, List.mem_of_getElem? (i := 23) (by decide +kernel), List.mem_of_getElem? (i := 541) (by decide +kernel), List.mem_of_getElem? (i := 542) (by decide +kernel)⟩
theorem lw_p20 : lw_okq (⟨"OrielChart$Walk", "enter", "(LOrielChart$Flow;I)V"⟩, 9) := ⟨⟨by decide +kernel, by decide +kernel⟩, List.mem_of_getElem? (i := 220) (by decide +kernel), List.mem_of_getElem? (i := 554) (by decide +kernel), List.mem_of_getElem? (i := 555) (by decide +kernel)⟩
theorem lw_p21 : lw_okq (⟨"OrielChart$Walk", "goOn", "(LOrielChart$Flow;I)V"⟩, 9) := ⟨⟨by decide +kernel, by decide +kernel⟩, List.mem_of_getElem? (i := 220) (by decide +kernel), List.mem_of_getElem? (i := 560) (by decide +kernel), List.mem_of_getElem? (i := 561) (by decide +kernel)⟩
theorem lw_p22 : lw_okq (⟨"OrielChart$Picture", "setLayers", "()V"⟩, 16) := ⟨⟨by decide +kernel, by decide +kernel⟩, List.mem_of_getElem? (i := 214) (by decide +kernel), List.mem_of_getElem? (i := 566) (by decide +kernel), List.mem_of_getElem? (i := 567) (by decide +kernel)⟩
theorem lw_p23 : lw_okq (⟨"OrielChart$Picture", "pushDown", "()Z"⟩, 16) := ⟨⟨by decide +kernel, by decide +kernel⟩, List.mem_of_getElem? (i := 214) (by decide +kernel), List.mem_of_getElem? (i := 572) (by decide +kernel), List.mem_of_getElem? (i := 573) (by decide +kernel)⟩
theorem lw_p24 : lw_okq (⟨"OrielChart$Picture", "top", "(I)I"⟩, 16) := ⟨⟨by decide +kernel, by decide +kernel⟩, List.mem_of_getElem? (i := 214) (by decide +kernel), List.mem_of_getElem? (i := 581) (by decide +kernel), List.mem_of_getElem? (i := 582) (by decide +kernel)⟩
theorem lw_p25 : lw_okq (⟨"OrielChart$Picture", "numberBends", "()V"⟩, 16) := ⟨⟨by decide +kernel, by decide +kernel⟩, List.mem_of_getElem? (i := 214) (by decide +kernel), List.mem_of_getElem? (i := 588) (by decide +kernel), List.mem_of_getElem? (i := 589) (by decide +kernel)⟩
theorem lw_p26 : lw_okq (⟨"OrielChart$Picture", "bottom", "(I)I"⟩, 16) := ⟨⟨by decide +kernel, by decide +kernel⟩, List.mem_of_getElem? (i := 214) (by decide +kernel), List.mem_of_getElem? (i := 596) (by decide +kernel), List.mem_of_getElem? (i := 597) (by decide +kernel)⟩
theorem lw_p27 : lw_okq (⟨"OrielChart$Picture", "fill", "(II)I"⟩, 16) := ⟨⟨by decide +kernel, by decide +kernel⟩, List.mem_of_getElem? (i := 214) (by decide +kernel), List.mem_of_getElem? (i := 600) (by decide +kernel), List.mem_of_getElem? (i := 601) (by decide +kernel)⟩
theorem lw_p28 : lw_okq (⟨"OrielChart$Picture", "putPoint", "(III)V"⟩, 16) := ⟨⟨by decide +kernel, by decide +kernel⟩, List.mem_of_getElem? (i := 214) (by decide +kernel), List.mem_of_getElem? (i := 604) (by decide +kernel), List.mem_of_getElem? (i := 605) (by decide +kernel)⟩
theorem lw_p29 : lw_okq (⟨"OrielChart$Picture", "pointOn", "(II)I"⟩, 16) := ⟨⟨by decide +kernel, by decide +kernel⟩, List.mem_of_getElem? (i := 214) (by decide +kernel), List.mem_of_getElem? (i := 608) (by decide +kernel), List.mem_of_getElem? (i := 609) (by decide +kernel)⟩
theorem lw_p30 : lw_okq (⟨"OrielChart$Picture", "crossingsUnder", "(I)I"⟩, 16) := ⟨⟨by decide +kernel, by decide +kernel⟩, List.mem_of_getElem? (i := 214) (by decide +kernel), List.mem_of_getElem? (i := 620) (by decide +kernel), List.mem_of_getElem? (i := 621) (by decide +kernel)⟩
theorem lw_p31 : lw_okq (⟨"OrielChart$Picture", "leaves", "(II)Z"⟩, 16) := ⟨⟨by decide +kernel, by decide +kernel⟩, List.mem_of_getElem? (i := 214) (by decide +kernel), List.mem_of_getElem? (i := 624) (by decide +kernel), List.mem_of_getElem? (i := 625) (by decide +kernel)⟩
def lw_privs_2 : List (MethodName × Nat) := [(⟨"OrielChart$Reduction", "isDouble", "(III)Z"⟩, 8), (⟨"OrielChart$Reduction", "apply", "(II)V"⟩, 8), (⟨"OrielChart$Reduction", "merge", "(JIZ)V"⟩, 8), (⟨"OrielChart", "freshPicture", "()LOrielChart$Picture;"⟩, 6), (⟨"OrielChart$Walk", "enter", "(LOrielChart$Flow;I)V"⟩, 9), (⟨"OrielChart$Walk", "goOn", "(LOrielChart$Flow;I)V"⟩, 9), (⟨"OrielChart$Picture", "setLayers", "()V"⟩, 16), (⟨"OrielChart$Picture", "pushDown", "()Z"⟩, 16), (⟨"OrielChart$Picture", "top", "(I)I"⟩, 16), (⟨"OrielChart$Picture", "numberBends", "()V"⟩, 16), (⟨"OrielChart$Picture", "bottom", "(I)I"⟩, 16), (⟨"OrielChart$Picture", "fill", "(II)I"⟩, 16), (⟨"OrielChart$Picture", "putPoint", "(III)V"⟩, 16), (⟨"OrielChart$Picture", "pointOn", "(II)I"⟩, 16), (⟨"OrielChart$Picture", "crossingsUnder", "(I)I"⟩, 16), (⟨"OrielChart$Picture", "leaves", "(II)Z"⟩, 16)]
theorem lw_r2 : ∀ q ∈ lw_privs_2, lw_okq q := List.forall_mem_cons.mpr ⟨lw_p16, List.forall_mem_cons.mpr ⟨lw_p17, List.forall_mem_cons.mpr ⟨lw_p18, List.forall_mem_cons.mpr ⟨lw_p19, List.forall_mem_cons.mpr ⟨lw_p20, List.forall_mem_cons.mpr ⟨lw_p21, List.forall_mem_cons.mpr ⟨lw_p22, List.forall_mem_cons.mpr ⟨lw_p23, List.forall_mem_cons.mpr ⟨lw_p24, List.forall_mem_cons.mpr ⟨lw_p25, List.forall_mem_cons.mpr ⟨lw_p26, List.forall_mem_cons.mpr ⟨lw_p27, List.forall_mem_cons.mpr ⟨lw_p28, List.forall_mem_cons.mpr ⟨lw_p29, List.forall_mem_cons.mpr ⟨lw_p30, List.forall_mem_cons.mpr ⟨lw_p31, fun _ h => absurd h List.not_mem_nil⟩⟩⟩⟩⟩⟩⟩⟩⟩⟩⟩⟩⟩⟩⟩⟩
theorem lw_p32 : lw_okq (⟨"OrielChart", "digestOfCode", "(J)J"⟩, 6) := ⟨⟨by decide +kernel, by decide +kernel⟩, List.mem_of_getElem? (i := 23) (by decide +kernel), List.mem_of_getElem? (i := 645) (by decide +kernel), List.mem_of_getElem? (i := 646) (by decide +kernel)⟩
theorem lw_p33 : lw_okq (⟨"OrielChart", "digestOfBlocks", "(J)J"⟩, 6) := ⟨⟨by decide +kernel, by decide +kernel⟩, List.mem_of_getElem? (i := 23) (by decide +kernel), List.mem_of_getElem? (i := 654) (by decide +kernel), List.mem_of_getElem? (i := 655) (by decide +kernel)⟩
theorem lw_p34 : lw_okq (⟨"OrielChart", "digestOfEdges", "(J)J"⟩, 6) := ⟨⟨by decide +kernel, by decide +kernel⟩, List.mem_of_getElem? (i := 23) (by decide +kernel), List.mem_of_getElem? (i := 675) (by decide +kernel), List.mem_of_getElem? (i := 676) (by decide +kernel)⟩
theorem lw_p35 : lw_okq (⟨"OrielChart", "digestOfSteps", "(J)J"⟩, 6) := ⟨⟨by decide +kernel, by decide +kernel⟩, List.mem_of_getElem? (i := 23) (by decide +kernel), List.mem_of_getElem? (i := 689) (by decide +kernel), List.mem_of_getElem? (i := 690) (by decide +kernel)⟩
theorem lw_p36 : lw_okq (⟨"OrielChart", "digestOfLayers", "(J)J"⟩, 6) := ⟨⟨by decide +kernel, by decide +kernel⟩, List.mem_of_getElem? (i := 23) (by decide +kernel), List.mem_of_getElem? (i := 693) (by decide +kernel), List.mem_of_getElem? (i := 694) (by decide +kernel)⟩
theorem lw_p37 : lw_okq (⟨"java/lang/Throwable", "fillInStackTrace", "(I)Ljava/lang/Throwable;"⟩, 6) := ⟨⟨by decide +kernel, by decide +kernel⟩, List.mem_of_getElem? (i := 752) (by decide +kernel), List.mem_of_getElem? (i := 750) (by decide +kernel), List.mem_of_getElem? (i := 751) (by decide +kernel)⟩
theorem lw_p38 : lw_okq (⟨"OrielChart$Code", "shiftTargets", "(II)V"⟩, 5) := ⟨⟨by decide +kernel, by decide +kernel⟩, List.mem_of_getElem? (i := 31) (by decide +kernel), List.mem_of_getElem? (i := 808) (by decide +kernel), List.mem_of_getElem? (i := 809) (by decide +kernel)⟩
theorem lw_p39 : lw_okq (⟨"OrielChart$Code", "copy", "(II)V"⟩, 5) := ⟨⟨by decide +kernel, by decide +kernel⟩, List.mem_of_getElem? (i := 31) (by decide +kernel), List.mem_of_getElem? (i := 817) (by decide +kernel), List.mem_of_getElem? (i := 818) (by decide +kernel)⟩
theorem lw_p40 : lw_okq (⟨"OrielChart", "forget", "()V"⟩, 6) := ⟨⟨by decide +kernel, by decide +kernel⟩, List.mem_of_getElem? (i := 23) (by decide +kernel), List.mem_of_getElem? (i := 821) (by decide +kernel), List.mem_of_getElem? (i := 822) (by decide +kernel)⟩
theorem lw_p41 : lw_okq (⟨"OrielChart", "needInstruction", "(I)V"⟩, 6) := ⟨⟨by decide +kernel, by decide +kernel⟩, List.mem_of_getElem? (i := 23) (by decide +kernel), List.mem_of_getElem? (i := 833) (by decide +kernel), List.mem_of_getElem? (i := 834) (by decide +kernel)⟩
theorem lw_p42 : lw_okq (⟨"OrielChart", "needBlock", "(I)V"⟩, 6) := ⟨⟨by decide +kernel, by decide +kernel⟩, List.mem_of_getElem? (i := 23) (by decide +kernel), List.mem_of_getElem? (i := 903) (by decide +kernel), List.mem_of_getElem? (i := 904) (by decide +kernel)⟩
theorem lw_p43 : lw_okq (⟨"OrielChart", "needEdge", "(I)V"⟩, 6) := ⟨⟨by decide +kernel, by decide +kernel⟩, List.mem_of_getElem? (i := 23) (by decide +kernel), List.mem_of_getElem? (i := 922) (by decide +kernel), List.mem_of_getElem? (i := 923) (by decide +kernel)⟩
theorem lw_p44 : lw_okq (⟨"OrielChart", "needStep", "(I)V"⟩, 6) := ⟨⟨by decide +kernel, by decide +kernel⟩, List.mem_of_getElem? (i := 23) (by decide +kernel), List.mem_of_getElem? (i := 995) (by decide +kernel), List.mem_of_getElem? (i := 996) (by decide +kernel)⟩
theorem lw_p45 : lw_okq (⟨"OrielChart", "needLayer", "(I)V"⟩, 6) := ⟨⟨by decide +kernel, by decide +kernel⟩, List.mem_of_getElem? (i := 23) (by decide +kernel), List.mem_of_getElem? (i := 1035) (by decide +kernel), List.mem_of_getElem? (i := 1036) (by decide +kernel)⟩
theorem lw_p46 : lw_okq (⟨"OrielChart$Picture", "arrange", "(II)V"⟩, 16) := ⟨⟨by decide +kernel, by decide +kernel⟩, List.mem_of_getElem? (i := 214) (by decide +kernel), List.mem_of_getElem? (i := 1088) (by decide +kernel), List.mem_of_getElem? (i := 1089) (by decide +kernel)⟩
theorem lw_p47 : lw_okq (⟨"OrielChart$Picture", "weigh", "(III)V"⟩, 16) := ⟨⟨by decide +kernel, by decide +kernel⟩, List.mem_of_getElem? (i := 214) (by decide +kernel), List.mem_of_getElem? (i := 1093) (by decide +kernel), List.mem_of_getElem? (i := 1094) (by decide +kernel)⟩
def lw_privs_3 : List (MethodName × Nat) := [(⟨"OrielChart", "digestOfCode", "(J)J"⟩, 6), (⟨"OrielChart", "digestOfBlocks", "(J)J"⟩, 6), (⟨"OrielChart", "digestOfEdges", "(J)J"⟩, 6), (⟨"OrielChart", "digestOfSteps", "(J)J"⟩, 6), (⟨"OrielChart", "digestOfLayers", "(J)J"⟩, 6), (⟨"java/lang/Throwable", "fillInStackTrace", "(I)Ljava/lang/Throwable;"⟩, 6), (⟨"OrielChart$Code", "shiftTargets", "(II)V"⟩, 5), (⟨"OrielChart$Code", "copy", "(II)V"⟩, 5), (⟨"OrielChart", "forget", "()V"⟩, 6), (⟨"OrielChart", "needInstruction", "(I)V"⟩, 6), (⟨"OrielChart", "needBlock", "(I)V"⟩, 6), (⟨"OrielChart", "needEdge", "(I)V"⟩, 6), (⟨"OrielChart", "needStep", "(I)V"⟩, 6), (⟨"OrielChart", "needLayer", "(I)V"⟩, 6), (⟨"OrielChart$Picture", "arrange", "(II)V"⟩, 16), (⟨"OrielChart$Picture", "weigh", "(III)V"⟩, 16)]
theorem lw_r3 : ∀ q ∈ lw_privs_3, lw_okq q := List.forall_mem_cons.mpr ⟨lw_p32, List.forall_mem_cons.mpr ⟨lw_p33, List.forall_mem_cons.mpr ⟨lw_p34, List.forall_mem_cons.mpr ⟨lw_p35, List.forall_mem_cons.mpr ⟨lw_p36, List.forall_mem_cons.mpr ⟨lw_p37, List.forall_mem_cons.mpr ⟨lw_p38, List.forall_mem_cons.mpr ⟨lw_p39, List.forall_mem_cons.mpr ⟨lw_p40, List.forall_mem_cons.mpr ⟨lw_p41, List.forall_mem_cons.mpr ⟨lw_p42, List.forall_mem_cons.mpr ⟨lw_p43, List.forall_mem_cons.mpr ⟨lw_p44, List.forall_mem_cons.mpr ⟨lw_p45, List.forall_mem_cons.mpr ⟨lw_p46, List.forall_mem_cons.mpr ⟨lw_p47, fun _ h => absurd h List.not_mem_nil⟩⟩⟩⟩⟩⟩⟩⟩⟩⟩⟩⟩⟩⟩⟩⟩
theorem lw_p48 : lw_okq (⟨"OrielChart$Picture", "isAhead", "(II)Z"⟩, 16) := ⟨⟨by decide +kernel, by decide +kernel⟩, List.mem_of_getElem? (i := 214) (by decide +kernel), List.mem_of_getElem? (i := 1098) (by decide +kernel), List.mem_of_getElem? (i := 1099) (by decide +kernel)⟩
theorem lw_p49 : lw_okq (⟨"OrielChartModel", "refuse", "(I)I"⟩, 32) := ⟨⟨by decide +kernel, by decide +kernel⟩, List.mem_of_getElem? (i := 1115) (by decide +kernel), List.mem_of_getElem? (i := 1235) (by decide +kernel), List.mem_of_getElem? (i := 1236) (by decide +kernel)⟩
theorem lw_p50 : lw_okq (⟨"OrielChartModel", "copy", "(II)V"⟩, 32) := ⟨⟨by decide +kernel, by decide +kernel⟩, List.mem_of_getElem? (i := 1115) (by decide +kernel), List.mem_of_getElem? (i := 1239) (by decide +kernel), List.mem_of_getElem? (i := 1240) (by decide +kernel)⟩
theorem lw_p51 : lw_okq (⟨"OrielChartModel", "beginAnew", "()V"⟩, 32) := ⟨⟨by decide +kernel, by decide +kernel⟩, List.mem_of_getElem? (i := 1115) (by decide +kernel), List.mem_of_getElem? (i := 1243) (by decide +kernel), List.mem_of_getElem? (i := 1244) (by decide +kernel)⟩
theorem lw_p52 : lw_okq (⟨"OrielChartModel", "isInstruction", "(I)Z"⟩, 32) := ⟨⟨by decide +kernel, by decide +kernel⟩, List.mem_of_getElem? (i := 1115) (by decide +kernel), List.mem_of_getElem? (i := 1251) (by decide +kernel), List.mem_of_getElem? (i := 1252) (by decide +kernel)⟩
theorem lw_p53 : lw_okq (⟨"OrielChartModel", "lay", "()V"⟩, 32) := ⟨⟨by decide +kernel, by decide +kernel⟩, List.mem_of_getElem? (i := 1115) (by decide +kernel), List.mem_of_getElem? (i := 1279) (by decide +kernel), List.mem_of_getElem? (i := 1280) (by decide +kernel)⟩
theorem lw_p54 : lw_okq (⟨"OrielChartModel", "isLeader", "(I)Z"⟩, 32) := ⟨⟨by decide +kernel, by decide +kernel⟩, List.mem_of_getElem? (i := 1115) (by decide +kernel), List.mem_of_getElem? (i := 1283) (by decide +kernel), List.mem_of_getElem? (i := 1284) (by decide +kernel)⟩
theorem lw_p55 : lw_okq (⟨"OrielChartModel", "blockAt", "(I)I"⟩, 32) := ⟨⟨by decide +kernel, by decide +kernel⟩, List.mem_of_getElem? (i := 1115) (by decide +kernel), List.mem_of_getElem? (i := 1287) (by decide +kernel), List.mem_of_getElem? (i := 1288) (by decide +kernel)⟩
theorem lw_p56 : lw_okq (⟨"OrielChartModel", "addEdge", "(II)V"⟩, 32) := ⟨⟨by decide +kernel, by decide +kernel⟩, List.mem_of_getElem? (i := 1115) (by decide +kernel), List.mem_of_getElem? (i := 1291) (by decide +kernel), List.mem_of_getElem? (i := 1292) (by decide +kernel)⟩
theorem lw_p57 : lw_okq (⟨"OrielChartModel", "reachedFrom", "(IJ)J"⟩, 32) := ⟨⟨by decide +kernel, by decide +kernel⟩, List.mem_of_getElem? (i := 1115) (by decide +kernel), List.mem_of_getElem? (i := 1295) (by decide +kernel), List.mem_of_getElem? (i := 1296) (by decide +kernel)⟩
theorem lw_p58 : lw_okq (⟨"OrielChartModel", "loopOf", "(I)J"⟩, 32) := ⟨⟨by decide +kernel, by decide +kernel⟩, List.mem_of_getElem? (i := 1115) (by decide +kernel), List.mem_of_getElem? (i := 1302) (by decide +kernel), List.mem_of_getElem? (i := 1303) (by decide +kernel)⟩
theorem lw_p59 : lw_okq (⟨"OrielChartModel", "isBackNow", "(I)Z"⟩, 32) := ⟨⟨by decide +kernel, by decide +kernel⟩, List.mem_of_getElem? (i := 1115) (by decide +kernel), List.mem_of_getElem? (i := 1306) (by decide +kernel), List.mem_of_getElem? (i := 1307) (by decide +kernel)⟩
theorem lw_p60 : lw_okq (⟨"OrielChartModel", "dominatesNow", "(II)Z"⟩, 32) := ⟨⟨by decide +kernel, by decide +kernel⟩, List.mem_of_getElem? (i := 1115) (by decide +kernel), List.mem_of_getElem? (i := 1310) (by decide +kernel), List.mem_of_getElem? (i := 1311) (by decide +kernel)⟩
theorem lw_p61 : lw_okq (⟨"OrielChartModel", "isReachedNow", "(I)Z"⟩, 32) := ⟨⟨by decide +kernel, by decide +kernel⟩, List.mem_of_getElem? (i := 1115) (by decide +kernel), List.mem_of_getElem? (i := 1314) (by decide +kernel), List.mem_of_getElem? (i := 1315) (by decide +kernel)⟩
theorem lw_p62 : lw_okq (⟨"OrielChartModel", "isGraph", "(I)Z"⟩, 32) := ⟨⟨by decide +kernel, by decide +kernel⟩, List.mem_of_getElem? (i := 1115) (by decide +kernel), List.mem_of_getElem? (i := 1318) (by decide +kernel), List.mem_of_getElem? (i := 1319) (by decide +kernel)⟩
theorem lw_p63 : lw_okq (⟨"OrielChartModel", "layLive", "()V"⟩, 32) := ⟨⟨by decide +kernel, by decide +kernel⟩, List.mem_of_getElem? (i := 1115) (by decide +kernel), List.mem_of_getElem? (i := 1322) (by decide +kernel), List.mem_of_getElem? (i := 1323) (by decide +kernel)⟩
def lw_privs_4 : List (MethodName × Nat) := [(⟨"OrielChart$Picture", "isAhead", "(II)Z"⟩, 16), (⟨"OrielChartModel", "refuse", "(I)I"⟩, 32), (⟨"OrielChartModel", "copy", "(II)V"⟩, 32), (⟨"OrielChartModel", "beginAnew", "()V"⟩, 32), (⟨"OrielChartModel", "isInstruction", "(I)Z"⟩, 32), (⟨"OrielChartModel", "lay", "()V"⟩, 32), (⟨"OrielChartModel", "isLeader", "(I)Z"⟩, 32), (⟨"OrielChartModel", "blockAt", "(I)I"⟩, 32), (⟨"OrielChartModel", "addEdge", "(II)V"⟩, 32), (⟨"OrielChartModel", "reachedFrom", "(IJ)J"⟩, 32), (⟨"OrielChartModel", "loopOf", "(I)J"⟩, 32), (⟨"OrielChartModel", "isBackNow", "(I)Z"⟩, 32), (⟨"OrielChartModel", "dominatesNow", "(II)Z"⟩, 32), (⟨"OrielChartModel", "isReachedNow", "(I)Z"⟩, 32), (⟨"OrielChartModel", "isGraph", "(I)Z"⟩, 32), (⟨"OrielChartModel", "layLive", "()V"⟩, 32)]
theorem lw_r4 : ∀ q ∈ lw_privs_4, lw_okq q := List.forall_mem_cons.mpr ⟨lw_p48, List.forall_mem_cons.mpr ⟨lw_p49, List.forall_mem_cons.mpr ⟨lw_p50, List.forall_mem_cons.mpr ⟨lw_p51, List.forall_mem_cons.mpr ⟨lw_p52, List.forall_mem_cons.mpr ⟨lw_p53, List.forall_mem_cons.mpr ⟨lw_p54, List.forall_mem_cons.mpr ⟨lw_p55, List.forall_mem_cons.mpr ⟨lw_p56, List.forall_mem_cons.mpr ⟨lw_p57, List.forall_mem_cons.mpr ⟨lw_p58, List.forall_mem_cons.mpr ⟨lw_p59, List.forall_mem_cons.mpr ⟨lw_p60, List.forall_mem_cons.mpr ⟨lw_p61, List.forall_mem_cons.mpr ⟨lw_p62, List.forall_mem_cons.mpr ⟨lw_p63, fun _ h => absurd h List.not_mem_nil⟩⟩⟩⟩⟩⟩⟩⟩⟩⟩⟩⟩⟩⟩⟩⟩
theorem lw_p64 : lw_okq (⟨"OrielChartModel", "liveOut", "(I)I"⟩, 32) := ⟨⟨by decide +kernel, by decide +kernel⟩, List.mem_of_getElem? (i := 1115) (by decide +kernel), List.mem_of_getElem? (i := 1329) (by decide +kernel), List.mem_of_getElem? (i := 1330) (by decide +kernel)⟩
theorem lw_p65 : lw_okq (⟨"OrielChartModel", "ahead", "(II)I"⟩, 32) := ⟨⟨by decide +kernel, by decide +kernel⟩, List.mem_of_getElem? (i := 1115) (by decide +kernel), List.mem_of_getElem? (i := 1333) (by decide +kernel), List.mem_of_getElem? (i := 1334) (by decide +kernel)⟩
theorem lw_p66 : lw_okq (⟨"OrielChartModel", "reduce", "()V"⟩, 32) := ⟨⟨by decide +kernel, by decide +kernel⟩, List.mem_of_getElem? (i := 1115) (by decide +kernel), List.mem_of_getElem? (i := 1337) (by decide +kernel), List.mem_of_getElem? (i := 1338) (by decide +kernel)⟩
theorem lw_p67 : lw_okq (⟨"OrielChartModel", "step", "(I)Z"⟩, 32) := ⟨⟨by decide +kernel, by decide +kernel⟩, List.mem_of_getElem? (i := 1115) (by decide +kernel), List.mem_of_getElem? (i := 1344) (by decide +kernel), List.mem_of_getElem? (i := 1345) (by decide +kernel)⟩
theorem lw_p68 : lw_okq (⟨"OrielChartModel", "tell", "(II)Z"⟩, 32) := ⟨⟨by decide +kernel, by decide +kernel⟩, List.mem_of_getElem? (i := 1115) (by decide +kernel), List.mem_of_getElem? (i := 1349) (by decide +kernel), List.mem_of_getElem? (i := 1350) (by decide +kernel)⟩
theorem lw_p69 : lw_okq (⟨"OrielChartModel", "isInner", "(I)Z"⟩, 32) := ⟨⟨by decide +kernel, by decide +kernel⟩, List.mem_of_getElem? (i := 1115) (by decide +kernel), List.mem_of_getElem? (i := 1364) (by decide +kernel), List.mem_of_getElem? (i := 1365) (by decide +kernel)⟩
theorem lw_p70 : lw_okq (⟨"OrielChartModel", "comers", "(I)I"⟩, 32) := ⟨⟨by decide +kernel, by decide +kernel⟩, List.mem_of_getElem? (i := 1115) (by decide +kernel), List.mem_of_getElem? (i := 1368) (by decide +kernel), List.mem_of_getElem? (i := 1369) (by decide +kernel)⟩
theorem lw_p71 : lw_okq (⟨"OrielChartModel", "merge", "(II)Z"⟩, 32) := ⟨⟨by decide +kernel, by decide +kernel⟩, List.mem_of_getElem? (i := 1115) (by decide +kernel), List.mem_of_getElem? (i := 1372) (by decide +kernel), List.mem_of_getElem? (i := 1373) (by decide +kernel)⟩
theorem lw_p72 : lw_okq (⟨"OrielChartModel", "isSingle", "(II)Z"⟩, 32) := ⟨⟨by decide +kernel, by decide +kernel⟩, List.mem_of_getElem? (i := 1115) (by decide +kernel), List.mem_of_getElem? (i := 1378) (by decide +kernel), List.mem_of_getElem? (i := 1379) (by decide +kernel)⟩
theorem lw_p73 : lw_okq (⟨"OrielChartModel", "single", "(III)Z"⟩, 32) := ⟨⟨by decide +kernel, by decide +kernel⟩, List.mem_of_getElem? (i := 1115) (by decide +kernel), List.mem_of_getElem? (i := 1382) (by decide +kernel), List.mem_of_getElem? (i := 1383) (by decide +kernel)⟩
theorem lw_p74 : lw_okq (⟨"OrielChartModel", "layLayers", "()V"⟩, 32) := ⟨⟨by decide +kernel, by decide +kernel⟩, List.mem_of_getElem? (i := 1115) (by decide +kernel), List.mem_of_getElem? (i := 1386) (by decide +kernel), List.mem_of_getElem? (i := 1387) (by decide +kernel)⟩
theorem lw_p75 : lw_okq (⟨"OrielChartModel", "go", "(I)V"⟩, 32) := ⟨⟨by decide +kernel, by decide +kernel⟩, List.mem_of_getElem? (i := 1115) (by decide +kernel), List.mem_of_getElem? (i := 1393) (by decide +kernel), List.mem_of_getElem? (i := 1394) (by decide +kernel)⟩
theorem lw_p76 : lw_okq (⟨"OrielChartModel", "isDrawn", "(I)Z"⟩, 32) := ⟨⟨by decide +kernel, by decide +kernel⟩, List.mem_of_getElem? (i := 1115) (by decide +kernel), List.mem_of_getElem? (i := 1397) (by decide +kernel), List.mem_of_getElem? (i := 1398) (by decide +kernel)⟩
theorem lw_p77 : lw_okq (⟨"OrielChartModel", "bottom", "(I)I"⟩, 32) := ⟨⟨by decide +kernel, by decide +kernel⟩, List.mem_of_getElem? (i := 1115) (by decide +kernel), List.mem_of_getElem? (i := 1401) (by decide +kernel), List.mem_of_getElem? (i := 1402) (by decide +kernel)⟩
theorem lw_p78 : lw_okq (⟨"OrielChartModel", "top", "(I)I"⟩, 32) := ⟨⟨by decide +kernel, by decide +kernel⟩, List.mem_of_getElem? (i := 1115) (by decide +kernel), List.mem_of_getElem? (i := 1405) (by decide +kernel), List.mem_of_getElem? (i := 1406) (by decide +kernel)⟩
theorem lw_p79 : lw_okq (⟨"OrielChartModel", "firstOrder", "(I)[I"⟩, 32) := ⟨⟨by decide +kernel, by decide +kernel⟩, List.mem_of_getElem? (i := 1115) (by decide +kernel), List.mem_of_getElem? (i := 1409) (by decide +kernel), List.mem_of_getElem? (i := 1410) (by decide +kernel)⟩
def lw_privs_5 : List (MethodName × Nat) := [(⟨"OrielChartModel", "liveOut", "(I)I"⟩, 32), (⟨"OrielChartModel", "ahead", "(II)I"⟩, 32), (⟨"OrielChartModel", "reduce", "()V"⟩, 32), (⟨"OrielChartModel", "step", "(I)Z"⟩, 32), (⟨"OrielChartModel", "tell", "(II)Z"⟩, 32), (⟨"OrielChartModel", "isInner", "(I)Z"⟩, 32), (⟨"OrielChartModel", "comers", "(I)I"⟩, 32), (⟨"OrielChartModel", "merge", "(II)Z"⟩, 32), (⟨"OrielChartModel", "isSingle", "(II)Z"⟩, 32), (⟨"OrielChartModel", "single", "(III)Z"⟩, 32), (⟨"OrielChartModel", "layLayers", "()V"⟩, 32), (⟨"OrielChartModel", "go", "(I)V"⟩, 32), (⟨"OrielChartModel", "isDrawn", "(I)Z"⟩, 32), (⟨"OrielChartModel", "bottom", "(I)I"⟩, 32), (⟨"OrielChartModel", "top", "(I)I"⟩, 32), (⟨"OrielChartModel", "firstOrder", "(I)[I"⟩, 32)]
theorem lw_r5 : ∀ q ∈ lw_privs_5, lw_okq q := List.forall_mem_cons.mpr ⟨lw_p64, List.forall_mem_cons.mpr ⟨lw_p65, List.forall_mem_cons.mpr ⟨lw_p66, List.forall_mem_cons.mpr ⟨lw_p67, List.forall_mem_cons.mpr ⟨lw_p68, List.forall_mem_cons.mpr ⟨lw_p69, List.forall_mem_cons.mpr ⟨lw_p70, List.forall_mem_cons.mpr ⟨lw_p71, List.forall_mem_cons.mpr ⟨lw_p72, List.forall_mem_cons.mpr ⟨lw_p73, List.forall_mem_cons.mpr ⟨lw_p74, List.forall_mem_cons.mpr ⟨lw_p75, List.forall_mem_cons.mpr ⟨lw_p76, List.forall_mem_cons.mpr ⟨lw_p77, List.forall_mem_cons.mpr ⟨lw_p78, List.forall_mem_cons.mpr ⟨lw_p79, fun _ h => absurd h List.not_mem_nil⟩⟩⟩⟩⟩⟩⟩⟩⟩⟩⟩⟩⟩⟩⟩⟩
theorem lw_p80 : lw_okq (⟨"OrielChartModel", "isThrough", "(II)Z"⟩, 32) := ⟨⟨by decide +kernel, by decide +kernel⟩, List.mem_of_getElem? (i := 1115) (by decide +kernel), List.mem_of_getElem? (i := 1413) (by decide +kernel), List.mem_of_getElem? (i := 1414) (by decide +kernel)⟩
theorem lw_p81 : lw_okq (⟨"OrielChartModel", "pointOf", "(II)I"⟩, 32) := ⟨⟨by decide +kernel, by decide +kernel⟩, List.mem_of_getElem? (i := 1115) (by decide +kernel), List.mem_of_getElem? (i := 1417) (by decide +kernel), List.mem_of_getElem? (i := 1418) (by decide +kernel)⟩
theorem lw_p82 : lw_okq (⟨"OrielChartModel", "isBlock", "(I)Z"⟩, 32) := ⟨⟨by decide +kernel, by decide +kernel⟩, List.mem_of_getElem? (i := 1115) (by decide +kernel), List.mem_of_getElem? (i := 1443) (by decide +kernel), List.mem_of_getElem? (i := 1444) (by decide +kernel)⟩
theorem lw_p83 : lw_okq (⟨"OrielChartModel", "isEdge", "(I)Z"⟩, 32) := ⟨⟨by decide +kernel, by decide +kernel⟩, List.mem_of_getElem? (i := 1115) (by decide +kernel), List.mem_of_getElem? (i := 1459) (by decide +kernel), List.mem_of_getElem? (i := 1460) (by decide +kernel)⟩
theorem lw_p84 : lw_okq (⟨"OrielChartModel", "parentNow", "(I)I"⟩, 32) := ⟨⟨by decide +kernel, by decide +kernel⟩, List.mem_of_getElem? (i := 1115) (by decide +kernel), List.mem_of_getElem? (i := 1475) (by decide +kernel), List.mem_of_getElem? (i := 1476) (by decide +kernel)⟩
theorem lw_p85 : lw_okq (⟨"OrielChartModel", "comesToExit", "(IJ)Z"⟩, 32) := ⟨⟨by decide +kernel, by decide +kernel⟩, List.mem_of_getElem? (i := 1115) (by decide +kernel), List.mem_of_getElem? (i := 1483) (by decide +kernel), List.mem_of_getElem? (i := 1484) (by decide +kernel)⟩
theorem lw_p86 : lw_okq (⟨"OrielChartModel", "loopsNow", "()I"⟩, 32) := ⟨⟨by decide +kernel, by decide +kernel⟩, List.mem_of_getElem? (i := 1115) (by decide +kernel), List.mem_of_getElem? (i := 1495) (by decide +kernel), List.mem_of_getElem? (i := 1496) (by decide +kernel)⟩
theorem lw_p87 : lw_okq (⟨"OrielChartModel", "depthNow", "(I)I"⟩, 32) := ⟨⟨by decide +kernel, by decide +kernel⟩, List.mem_of_getElem? (i := 1115) (by decide +kernel), List.mem_of_getElem? (i := 1507) (by decide +kernel), List.mem_of_getElem? (i := 1508) (by decide +kernel)⟩
theorem lw_p88 : lw_okq (⟨"OrielChartModel", "isTameNow", "()Z"⟩, 32) := ⟨⟨by decide +kernel, by decide +kernel⟩, List.mem_of_getElem? (i := 1115) (by decide +kernel), List.mem_of_getElem? (i := 1515) (by decide +kernel), List.mem_of_getElem? (i := 1516) (by decide +kernel)⟩
theorem lw_p89 : lw_okq (⟨"OrielChartModel", "liveNow", "(I)I"⟩, 32) := ⟨⟨by decide +kernel, by decide +kernel⟩, List.mem_of_getElem? (i := 1115) (by decide +kernel), List.mem_of_getElem? (i := 1523) (by decide +kernel), List.mem_of_getElem? (i := 1524) (by decide +kernel)⟩
theorem lw_p90 : lw_okq (⟨"OrielChartModel", "vainNow", "()I"⟩, 32) := ⟨⟨by decide +kernel, by decide +kernel⟩, List.mem_of_getElem? (i := 1115) (by decide +kernel), List.mem_of_getElem? (i := 1531) (by decide +kernel), List.mem_of_getElem? (i := 1532) (by decide +kernel)⟩
theorem lw_p91 : lw_okq (⟨"OrielChartModel", "windingsNow", "()I"⟩, 32) := ⟨⟨by decide +kernel, by decide +kernel⟩, List.mem_of_getElem? (i := 1115) (by decide +kernel), List.mem_of_getElem? (i := 1539) (by decide +kernel), List.mem_of_getElem? (i := 1540) (by decide +kernel)⟩
theorem lw_p92 : lw_okq (⟨"OrielChartModel", "layerNow", "(I)I"⟩, 32) := ⟨⟨by decide +kernel, by decide +kernel⟩, List.mem_of_getElem? (i := 1115) (by decide +kernel), List.mem_of_getElem? (i := 1575) (by decide +kernel), List.mem_of_getElem? (i := 1576) (by decide +kernel)⟩
theorem lw_p93 : lw_okq (⟨"OrielChartModel", "isLayer", "(I)Z"⟩, 32) := ⟨⟨by decide +kernel, by decide +kernel⟩, List.mem_of_getElem? (i := 1115) (by decide +kernel), List.mem_of_getElem? (i := 1587) (by decide +kernel), List.mem_of_getElem? (i := 1588) (by decide +kernel)⟩
theorem lw_p94 : lw_okq (⟨"OrielChartModel", "placeNow", "(I)I"⟩, 32) := ⟨⟨by decide +kernel, by decide +kernel⟩, List.mem_of_getElem? (i := 1115) (by decide +kernel), List.mem_of_getElem? (i := 1599) (by decide +kernel), List.mem_of_getElem? (i := 1600) (by decide +kernel)⟩
theorem lw_p95 : lw_okq (⟨"OrielChartModel", "bendsNow", "(I)I"⟩, 32) := ⟨⟨by decide +kernel, by decide +kernel⟩, List.mem_of_getElem? (i := 1115) (by decide +kernel), List.mem_of_getElem? (i := 1610) (by decide +kernel), List.mem_of_getElem? (i := 1611) (by decide +kernel)⟩
def lw_privs_6 : List (MethodName × Nat) := [(⟨"OrielChartModel", "isThrough", "(II)Z"⟩, 32), (⟨"OrielChartModel", "pointOf", "(II)I"⟩, 32), (⟨"OrielChartModel", "isBlock", "(I)Z"⟩, 32), (⟨"OrielChartModel", "isEdge", "(I)Z"⟩, 32), (⟨"OrielChartModel", "parentNow", "(I)I"⟩, 32), (⟨"OrielChartModel", "comesToExit", "(IJ)Z"⟩, 32), (⟨"OrielChartModel", "loopsNow", "()I"⟩, 32), (⟨"OrielChartModel", "depthNow", "(I)I"⟩, 32), (⟨"OrielChartModel", "isTameNow", "()Z"⟩, 32), (⟨"OrielChartModel", "liveNow", "(I)I"⟩, 32), (⟨"OrielChartModel", "vainNow", "()I"⟩, 32), (⟨"OrielChartModel", "windingsNow", "()I"⟩, 32), (⟨"OrielChartModel", "layerNow", "(I)I"⟩, 32), (⟨"OrielChartModel", "isLayer", "(I)Z"⟩, 32), (⟨"OrielChartModel", "placeNow", "(I)I"⟩, 32), (⟨"OrielChartModel", "bendsNow", "(I)I"⟩, 32)]
theorem lw_r6 : ∀ q ∈ lw_privs_6, lw_okq q := List.forall_mem_cons.mpr ⟨lw_p80, List.forall_mem_cons.mpr ⟨lw_p81, List.forall_mem_cons.mpr ⟨lw_p82, List.forall_mem_cons.mpr ⟨lw_p83, List.forall_mem_cons.mpr ⟨lw_p84, List.forall_mem_cons.mpr ⟨lw_p85, List.forall_mem_cons.mpr ⟨lw_p86, List.forall_mem_cons.mpr ⟨lw_p87, List.forall_mem_cons.mpr ⟨lw_p88, List.forall_mem_cons.mpr ⟨lw_p89, List.forall_mem_cons.mpr ⟨lw_p90, List.forall_mem_cons.mpr ⟨lw_p91, List.forall_mem_cons.mpr ⟨lw_p92, List.forall_mem_cons.mpr ⟨lw_p93, List.forall_mem_cons.mpr ⟨lw_p94, List.forall_mem_cons.mpr ⟨lw_p95, fun _ h => absurd h List.not_mem_nil⟩⟩⟩⟩⟩⟩⟩⟩⟩⟩⟩⟩⟩⟩⟩⟩
theorem lw_p96 : lw_okq (⟨"OrielChartModel", "crossingsIn", "([[I)I"⟩, 32) := ⟨⟨by decide +kernel, by decide +kernel⟩, List.mem_of_getElem? (i := 1115) (by decide +kernel), List.mem_of_getElem? (i := 1622) (by decide +kernel), List.mem_of_getElem? (i := 1623) (by decide +kernel)⟩
theorem lw_p97 : lw_okq (⟨"OrielChartModel", "swept", "([[II)I"⟩, 32) := ⟨⟨by decide +kernel, by decide +kernel⟩, List.mem_of_getElem? (i := 1115) (by decide +kernel), List.mem_of_getElem? (i := 1630) (by decide +kernel), List.mem_of_getElem? (i := 1631) (by decide +kernel)⟩
theorem lw_p98 : lw_okq (⟨"OrielChartModel", "sweepOnce", "([[IZ)V"⟩, 32) := ⟨⟨by decide +kernel, by decide +kernel⟩, List.mem_of_getElem? (i := 1115) (by decide +kernel), List.mem_of_getElem? (i := 1634) (by decide +kernel), List.mem_of_getElem? (i := 1635) (by decide +kernel)⟩
theorem lw_p99 : lw_okq (⟨"OrielChartModel", "orderBy", "([[III)V"⟩, 32) := ⟨⟨by decide +kernel, by decide +kernel⟩, List.mem_of_getElem? (i := 1115) (by decide +kernel), List.mem_of_getElem? (i := 1638) (by decide +kernel), List.mem_of_getElem? (i := 1639) (by decide +kernel)⟩
theorem lw_p100 : lw_okq (⟨"OrielChartModel", "add", "(I)V"⟩, 32) := ⟨⟨by decide +kernel, by decide +kernel⟩, List.mem_of_getElem? (i := 1115) (by decide +kernel), List.mem_of_getElem? (i := 1668) (by decide +kernel), List.mem_of_getElem? (i := 1669) (by decide +kernel)⟩
theorem lw_p101 : lw_okq (⟨"OrielChartModel", "addBlock", "(I)V"⟩, 32) := ⟨⟨by decide +kernel, by decide +kernel⟩, List.mem_of_getElem? (i := 1115) (by decide +kernel), List.mem_of_getElem? (i := 1673) (by decide +kernel), List.mem_of_getElem? (i := 1674) (by decide +kernel)⟩
theorem lw_p102 : lw_okq (⟨"OrielChartModel", "add", "(Z)V"⟩, 32) := ⟨⟨by decide +kernel, by decide +kernel⟩, List.mem_of_getElem? (i := 1115) (by decide +kernel), List.mem_of_getElem? (i := 1677) (by decide +kernel), List.mem_of_getElem? (i := 1678) (by decide +kernel)⟩
def lw_privs_7 : List (MethodName × Nat) := [(⟨"OrielChartModel", "crossingsIn", "([[I)I"⟩, 32), (⟨"OrielChartModel", "swept", "([[II)I"⟩, 32), (⟨"OrielChartModel", "sweepOnce", "([[IZ)V"⟩, 32), (⟨"OrielChartModel", "orderBy", "([[III)V"⟩, 32), (⟨"OrielChartModel", "add", "(I)V"⟩, 32), (⟨"OrielChartModel", "addBlock", "(I)V"⟩, 32), (⟨"OrielChartModel", "add", "(Z)V"⟩, 32)]
theorem lw_r7 : ∀ q ∈ lw_privs_7, lw_okq q := List.forall_mem_cons.mpr ⟨lw_p96, List.forall_mem_cons.mpr ⟨lw_p97, List.forall_mem_cons.mpr ⟨lw_p98, List.forall_mem_cons.mpr ⟨lw_p99, List.forall_mem_cons.mpr ⟨lw_p100, List.forall_mem_cons.mpr ⟨lw_p101, List.forall_mem_cons.mpr ⟨lw_p102, fun _ h => absurd h List.not_mem_nil⟩⟩⟩⟩⟩⟩⟩
def lw_privs : List (MethodName × Nat) := lw_privs_1 ++ (lw_privs_2 ++ (lw_privs_3 ++ (lw_privs_4 ++ (lw_privs_5 ++ (lw_privs_6 ++ (lw_privs_7))))))
def lw_tbl : List Cond := k2_sels lw_privs ++ tables_1
theorem lw_privs_ok : ∀ q ∈ lw_privs, lw_okq q := by
  show ∀ q ∈ lw_privs_1 ++ (lw_privs_2 ++ (lw_privs_3 ++ (lw_privs_4 ++ (lw_privs_5 ++ (lw_privs_6 ++ (lw_privs_7)))))), lw_okq q
  exact List.forall_mem_append.mpr ⟨lw_r1, List.forall_mem_append.mpr ⟨lw_r2, List.forall_mem_append.mpr ⟨lw_r3, List.forall_mem_append.mpr ⟨lw_r4, List.forall_mem_append.mpr ⟨lw_r5, List.forall_mem_append.mpr ⟨lw_r6, lw_r7⟩⟩⟩⟩⟩⟩
/-- the streams that the claim lets the run draw from -/
abbrev lw_cs : List Choice := [Jvm.Choice.named "NaN.bits"]
theorem lw_bits : nanBits ∈ lw_cs := by first | decide | exact List.mem_cons_self | simp [lw_cs, nanBits]
end
section
/-! ===== BEGIN words of one list among another's, by their places ===== -/
theorem goodIn_r {big : List Cond} (ws : List Cond) (ps : List Nat) (hp : ws = ps.filterMap (fun i => big[i]?)) (h : ws.all goodWord = true) : GoodIn big ws := by
  intro w hw
  have h1 := List.all_eq_true.mp h w hw
  rw [hp] at hw
  obtain ⟨i, -, hi⟩ := List.mem_filterMap.mp hw
  have hm : w ∈ big := by first | exact List.mem_of_getElem? hi | exact List.getElem?_mem hi
  exact ⟨hm, good_of_word h1⟩
theorem goodIn_app {big a b : List Cond} (ha : GoodIn big a) (hb : GoodIn big b) : GoodIn big (a ++ b) := fun w h => (List.mem_append.mp h).elim (ha w) (hb w)
theorem goodIn_ca {big a b : List Cond} {c : Cond} (ha : GoodIn big (c :: a)) (hb : GoodIn big b) : GoodIn big (c :: (a ++ b)) := fun w h => (List.mem_cons.mp h).elim (fun e => ha w (List.mem_cons.mpr (Or.inl e))) (fun h => (List.mem_append.mp h).elim (fun h => ha w (List.mem_cons.mpr (Or.inr h))) (hb w))
theorem goodIn_sub {big ws : List Cond} (hm : ∀ w ∈ ws, w ∈ big) (h : ws.all goodWord = true) : GoodIn big ws := fun w hw => ⟨hm w hw, good_of_word (List.all_eq_true.mp h w hw)⟩
/-! ===== END ===== -/

/-! ===== BEGIN exceptions that leave a method, and their catching by the caller (launches without stack traces) ===== -/
section VXA
/-! The laws vx_back, vx_callV, vx_callS, vx_callSW, vx_throw0, vx_throwS follow proofs of the library, with one case more: JvmDerived/Free/Laws.lean (Back.of_free), Shelf42/LK1.lean (callV, callS), Shelf/KitTraced.lean (throwNew0V, throwNewS). -/
/-- where a method has thrown q: the class by its name, the cell, what was written, the world -/
def vx_T (XC : String → State → State → Prop) (st : State) (q : Addr) (t : State) (mc ms : Nat) (free : Addr → Prop) : Prop :=
  ∃ (E : String) (ce : Cell) (L : List Loc), XC E st t ∧ t.heap[q]? = some ce ∧ ce.vm = .none ∧ st.vm.findClass E = some ce.cls ∧ st.WarmedH t.vm ∧ st.sameButNew ({ t with vm := st.vm } : State) L mc ms ∧ ∀ z ∈ L, free z.base
def vx_Q (Qc : Array Value → State → Outcome → State → Prop) (XC : String → State → State → Prop) (mc ms : Nat) (free : Addr → Prop) : Array Value → State → Outcome → State → Prop := fun a st o t =>
  (Qc a st o t ∧ ∃ L, FrameEnd st o t L mc ms ∧ ∀ q ∈ L, free q.base) ∨ ∃ q, o = .threw q ∧ vx_T XC st q t mc ms free
/-- a callee that returns or throws -/
def vx_Met (l : Launch) (y : MethodName) (ws : List Cond) (rm : Room) (Pc : Array Value → State → Prop) (Qc : Array Value → State → Outcome → State → Prop) (XC : String → State → State → Prop) (mc ms : Nat) (free : Addr → Prop) : Prop :=
  MetFree l y (headSpec ws rm) Pc (fun _ _ _ _ _ => True) (vx_Q Qc XC mc ms free)
def vx_Post (XC : String → State → State → Prop) (mc ms : Nat) (free : Addr → Prop) : Pt → Array Value → Addr → Pt → Prop := fun A a q B =>
  ∃ (g : JFrame) (mk : MethodId) (t : State) (L : List Loc) (E : String) (ce : Cell), B.U.heap = t.heap ∧ B.U.vm = t.vm ∧ XC E (A.U.calling g mk a) t ∧ t.heap[q]? = some ce ∧ ce.vm = .none ∧ A.U.vm.findClass E = some ce.cls ∧ B.locs = A.locs ++ L ∧ (∀ z ∈ L, free z.base) ∧ B.cells = A.cells + mc ∧ B.slots = A.slots + ms
def vx_Back (l : Launch) (R : Room) (p : Program) (e : Env) (below : List Frame) (s : State) (sargs : Array Value) (y : MethodName) (len W9 : Nat)
    (Pre : Pt → Array Value → Prop) (Post : Pt → Array Value → Option Value → Pt → Prop) (PostX : Pt → Array Value → Addr → Pt → Prop) : Prop :=
  ∀ (m : MethodId) (meth : Method) (c : Code) (A : Pt) (g : JFrame) (ig : Instr) (mk : MethodId) (a : Array Value),
    Stand p l e R s m sargs below meth c A.U A.locs A.cells A.slots → g.method = m → g.locals.size = c.maxLocals → decode c.code g.pc = .ok (ig, len) →
    2 * g.monitorRoom + (g.stack.map fun v => v.category).sum ≤ W9 → A.U.methodNamed? y = some mk → Pre A a →
    (∃ (v : Option Value) (B : Pt), Stand p l e R s m sargs below meth c B.U B.locs B.cells B.slots ∧ Post A a v B ∧
      Steps p.tables e below (doInvoke e (A.U.setTop g) [] mk a).1 (B.U.setTop { g with pc := g.pc + len, stack := v.toList ++ g.stack })) ∨
    (∃ (q : Addr) (B : Pt), Stand p l e R s m sargs below meth c B.U B.locs B.cells B.slots ∧ PostX A a q B ∧
      Steps p.tables e below (doInvoke e (A.U.setTop g) [] mk a).1 ((B.U.setTop g).pushFrame (.throwing q)))
section Payer
variable {l : Launch} {R : Room} {p : Program} {e : Env} {below : List Frame} {s : State} {sargs : Array Value} {y : MethodName} {len W9 : Nat}
theorem vx_back {ws : List Cond} {rm : Room} {Pc : Array Value → State → Prop} {Qc : Array Value → State → Outcome → State → Prop} {XC : String → State → State → Prop} {mc ms : Nat} {free : Addr → Prop} {bytes : ByteArray} {maxL : Nat} {ret : Option FieldType}
    (hM : vx_Met l y ws rm Pc Qc XC mc ms free) (hblind : FrameBlind Pc) (hrc : rm.cells = mc) (hrs : rm.slots = ms)
    (hframes : rm.frames + 1 ≤ R.frames) (hlocals : W9 + (maxL + 11) + rm.locals ≤ R.locals)
    (hws : ∀ w ∈ ws, ∀ a' U, s.WarmedH U.vm → w.before a' U = true) (hcode : Cond.code y bytes maxL ret ∈ ws) (hinit : ∀ a' U, s.WarmedH U.vm → (Cond.initialized y.cls).before a' U = true) :
    vx_Back l R p e below s sargs y len W9 (PreOf R mc ms Pc) (PostOf Qc mc ms free) (vx_Post XC mc ms free) := by
  intro m meth c A g ig mk a X hg hsize hdg hW hn hp
  have h1 : (headSpec ws rm).pre.before a A.U = true := atoms_intro fun w hw => hws w hw _ _ X.warmed
  have h2 : (Cond.code y bytes maxL ret).before a A.U = true := hws _ hcode _ _ X.warmed
  have h3 : (Cond.initialized y.cls).before a A.U = true := hinit _ _ X.warmed
  have h4 : A.cells + (headSpec ws rm).room.cells ≤ R.cells := by rw [show (headSpec ws rm).room.cells = mc from hrc]; exact hp.1
  have h5 : A.slots + (headSpec ws rm).room.slots ≤ R.slots := by rw [show (headSpec ws rm).room.slots = ms from hrs]; exact hp.2.1
  have hPc : Pc a (A.U.calling g mk a) := hblind _ _ _ _ hp.2.2
  obtain ⟨U, Ls, c0, s0⟩ := A
  dsimp only [Pt.U, Pt.locs, Pt.cells, Pt.slots] at h1 h2 h3 h4 h5 X hn hPc ⊢
  obtain ⟨methY, cY, hmY, hcY, -, hlY, -, -, -, -⟩ := Cond.code_spec hn h2
  obtain ⟨kY, hkY, -⟩ := className_of_methodNamed hn
  have hinitY : kY.init = .initialized := Cond.initialized_spec (findClass_of_methodNamed hn) hkY h3
  have h : At U g.method c below := by rw [hg]; exact X.here
  have hlocals9 : W9 + (maxL + 11) + (headSpec ws rm).room.locals ≤ R.locals := hlocals
  have happ : (headSpec ws rm).appliesLoose y e.platform (U.calling g mk a) = true :=
    Spec.appliesLoose_calling (g := g) h hdg hn hkY hinitY
      (X.room_calling (g := g) (R' := (headSpec ws rm).room) hsize hmY hcY hframes (by rw [hlY]; omega) h4 h5) h1
  obtain ⟨mid, hmid⟩ := h.above
  have hfr : (U.setTop g).frames = (.java g :: mid) ++ below := by rw [State.frames_setTop' g h.top, hmid]; rfl
  obtain ⟨o, s₂, hsteps, -, hend, hq⟩ := Steps.callFree hM p X.admits X.cas X.clock (acts := []) hfr happ hPc trivial
  have hq' : vx_Q Qc XC mc ms free a (U.calling g mk a) o s₂ := hq
  rw [State.frames_setTop' g h.top] at hend
  obtain ⟨g₀, hg0⟩ := Option.isSome_iff_exists.mp h.top
  obtain ⟨r, hr⟩ := State.topJava?_eq_some.mp hg0
  have hr' : (({ U with heap := s₂.heap, slotsUsed := s₂.slotsUsed } : State).setVm s₂.vm).frames = .java g₀ :: r := hr
  rcases hq' with ⟨hqc, L, hfe, hL⟩ | ⟨q, rfl, E, ce, L, hx, hce, hcv, hcl, hW₂, hsm, hL⟩
  · obtain ⟨⟨v, rfl⟩, hW₂, e2, q2, q3, q4, q5, q6⟩ := id hfe
    have e3 : s₂ = ({ (U.calling g mk a).setFrames s₂.frames with heap := s₂.heap, slotsUsed := s₂.slotsUsed } : State).setVm s₂.vm := by
      have : s₂ = ({ s₂ with vm := (U.calling g mk a).vm } : State).setVm s₂.vm := rfl
      rw [e2] at this
      exact this
    obtain ⟨c₂, i₂, len₂, hc₂, hd₂, hf₂⟩ := hend
    have hW' : U.WarmedH s₂.vm := hW₂
    have hcc : c₂ = c := by
      have h1 : s₂.code? g.method = U.code? g.method := by
        rw [State.code?_eq, State.code?_eq, hW'.alike.method?]
      exact Option.some.inj (hc₂.symm.trans (h1.trans h.code))
    subst hcc
    have hlen : len₂ = len := by rw [hdg] at hd₂; cases hd₂; rfl
    subst hlen
    have hs₂ : s₂ = (({ U with heap := s₂.heap, slotsUsed := s₂.slotsUsed } : State).setVm s₂.vm).setTop { g with pc := g.pc + len₂, stack := v.toList ++ g.stack } := by
      refine e3.trans ?_
      rw [hf₂, State.calling_eq h.top, State.setFrames_setFrames, State.setTop_of_frames _ hr', hr]
      rfl
    have hsame : U.sameButNew ({ U with heap := s₂.heap, slotsUsed := s₂.slotsUsed } : State) L mc ms := by
      refine ⟨?_, q2, q3, q4, q5, q6⟩
      obtain ⟨t, ht, -⟩ := State.frames_cons hr
      show ({ U with heap := s₂.heap, slotsUsed := s₂.slotsUsed } : State) = { U.setFrames U.frames with heap := s₂.heap, slotsUsed := s₂.slotsUsed }
      rw [State.setFrames_self ht]
    subst hg
    refine Or.inl ⟨v, ⟨(({ U with heap := s₂.heap, slotsUsed := s₂.slotsUsed } : State).setVm s₂.vm), Ls ++ L, c0 + mc, s0 + ms⟩,
      ⟨X.admits, X.cas, X.clock, X.frames, X.room, X.hears, X.method, X.code, (X.here.setHeapUsed s₂.heap s₂.slotsUsed).setVm hW'.alike, X.tail, State.WarmedH.trans X.warmed hW', X.limits, X.bytes, X.same.trans (hsame.setVm s.vm)⟩,
      ⟨g, mk, s₂, L, rfl, rfl, hqc, rfl, hL, rfl, rfl⟩, ?_⟩
    show Steps p.tables e below _ ((({ U with heap := s₂.heap, slotsUsed := s₂.slotsUsed } : State).setVm s₂.vm).setTop { g with pc := g.pc + len₂, stack := v.toList ++ g.stack })
    rw [← hs₂]
    exact hsteps
  · obtain ⟨e2, q2, q3, q4, q5, q6⟩ := id hsm
    have e3 : s₂ = ({ (U.calling g mk a).setFrames s₂.frames with heap := s₂.heap, slotsUsed := s₂.slotsUsed } : State).setVm s₂.vm := by
      have : s₂ = ({ s₂ with vm := (U.calling g mk a).vm } : State).setVm s₂.vm := rfl
      rw [e2] at this
      exact this
    have hf₂ : s₂.frames = .throwing q :: .java g :: U.frames.tail := hend
    have hW' : U.WarmedH s₂.vm := hW₂
    have hs₂ : s₂ = ((({ U with heap := s₂.heap, slotsUsed := s₂.slotsUsed } : State).setVm s₂.vm).setTop g).pushFrame (.throwing q) := by
      refine e3.trans ?_
      rw [hf₂, State.calling_eq h.top, State.setFrames_setFrames, State.pushFrame, State.frames_setTop _ hr', State.setTop_of_frames _ hr', State.setFrames_setFrames, hr]
      rfl
    have hsame : U.sameButNew ({ U with heap := s₂.heap, slotsUsed := s₂.slotsUsed } : State) L mc ms := by
      refine ⟨?_, q2, q3, q4, q5, q6⟩
      obtain ⟨t, ht, -⟩ := State.frames_cons hr
      show ({ U with heap := s₂.heap, slotsUsed := s₂.slotsUsed } : State) = { U.setFrames U.frames with heap := s₂.heap, slotsUsed := s₂.slotsUsed }
      rw [State.setFrames_self ht]
    subst hg
    refine Or.inr ⟨q, ⟨(({ U with heap := s₂.heap, slotsUsed := s₂.slotsUsed } : State).setVm s₂.vm), Ls ++ L, c0 + mc, s0 + ms⟩,
      ⟨X.admits, X.cas, X.clock, X.frames, X.room, X.hears, X.method, X.code, (X.here.setHeapUsed s₂.heap s₂.slotsUsed).setVm hW'.alike, X.tail, State.WarmedH.trans X.warmed hW', X.limits, X.bytes, X.same.trans (hsame.setVm s.vm)⟩,
      ⟨g, mk, s₂, L, E, ce, rfl, rfl, hx, hce, hcv, hcl, rfl, hL, rfl, rfl⟩, ?_⟩
    show Steps p.tables e below _ (((({ U with heap := s₂.heap, slotsUsed := s₂.slotsUsed } : State).setVm s₂.vm).setTop g).pushFrame (.throwing q))
    rw [← hs₂]
    exact hsteps
end Payer
section Calls
variable {p : Program} {l : Launch} {e : Env} {R : Room} {s : State} {m : MethodId} {args : Array Value} {below : List Frame} {meth : Method} {c : Code} {T : State} {locs : List Loc} {cells slots : Nat}
theorem vx_callV (X : Stand p l e R s m args below meth c T locs cells slots) (hexec : p.tables.exec = Jvm.exec) {own C : String} {index : Nat} {y : MethodName} {bytes : ByteArray} {maxL : Nat} {ret : Option FieldType}
    (hown : s.vm.findClass own = some m.cls) (hlink : (Cond.methodLink own index y).before args s = true) (hinst : (Cond.instanceMethod y).before args s = true) (hsel : (Cond.selects C y y).before args s = true)
    (hcode : (Cond.code y bytes maxL ret).before args s = true) (hy : y.cls ≠ "java/lang/invoke/MethodHandle" ∧ y.cls ≠ "java/lang/invoke/VarHandle")
    {W9 : Nat} {Pre : Pt → Array Value → Prop} {Post : Pt → Array Value → Option Value → Pt → Prop} {PostX : Pt → Array Value → Addr → Pt → Prop} (hK : vx_Back l R p e below s args y 3 W9 Pre Post PostX)
    {b : Addr} {cellB : Cell} (hcell : T.heap[b]? = some cellB) (hobj : cellB.vm.isStatics = false) (hcls : s.vm.findClass C = some cellB.cls)
    {g : JFrame} (hg : g.method = m) (hsize : g.locals.size = c.maxLocals) {argsL rest : List Value} (hlen : ∀ sig, parseMethodDescriptor y.desc = some sig → argsL.length = sig.parameters.length)
    (hstack : g.stack = argsL.reverse ++ .ref b :: rest) (hW : 2 * g.monitorRoom + (rest.map fun v => v.category).sum ≤ W9) (hdg : decode c.code g.pc = .ok (.invokevirtual index, 3))
    (hpre : ∀ vm₁, s.WarmedH vm₁ → Pre ⟨T.setVm vm₁, locs, cells, slots⟩ (Value.ref b :: argsL).toArray) :
    (∃ (v : Option Value) (vm₁ : Vm) (B : Pt), s.WarmedH vm₁ ∧ Stand p l e R s m args below meth c B.U B.locs B.cells B.slots ∧ Post ⟨T.setVm vm₁, locs, cells, slots⟩ (Value.ref b :: argsL).toArray v B ∧
      ∀ target, Steps p.tables e below (B.U.setTop { g with pc := g.pc + 3, stack := v.toList ++ rest }) target → Steps p.tables e below (T.setTop g) target) ∨
    (∃ (q : Addr) (vm₁ : Vm) (B : Pt), s.WarmedH vm₁ ∧ Stand p l e R s m args below meth c B.U B.locs B.cells B.slots ∧ PostX ⟨T.setVm vm₁, locs, cells, slots⟩ (Value.ref b :: argsL).toArray q B ∧
      Steps p.tables e below (T.setTop g) ((B.U.setTop { g with stack := rest }).pushFrame (.throwing q))) := by
  obtain ⟨mk, methM, hnamed, hmethM, hstM, habM⟩ := Cond.instanceMethod_spec hinst
  obtain ⟨methM', cM, hmethM', -, -, -, -, -, -, hsigM⟩ := Cond.code_spec hnamed hcode
  cases hmethM.symm.trans hmethM'
  obtain ⟨c2, r2, m2, q1, q2, q3, q4, kP, hkP, hkPi⟩ := Cond.selects_spec hsel
  cases hcls.symm.trans q1
  cases (State.methodFound?_of_named hnamed hy).symm.trans q2
  cases hnamed.symm.trans q3
  have hselP : selectMethod e.platform s.vm cellB.cls mk = .method mk := by rw [Launch.admits_selectMethod X.admits]; exact q4
  obtain ⟨vm₁, X₁, hstep₁⟩ := X.invokevirtual hexec hown hlink hnamed hmethM hstM hkP hkPi hy (a := b) (cell := cellB) hcell
    (fun z h => by rw [h] at hobj; cases hobj) hselP hmethM habM hkP hkPi (g := g) hg (argsL := argsL) (rest := rest) (hlen _ hsigM) hstack hdg
  rcases hK m meth c ⟨T.setVm vm₁, locs, cells, slots⟩ { g with stack := rest } (.invokevirtual index) mk (Value.ref b :: argsL).toArray X₁ hg hsize hdg hW (X₁.named hnamed) (hpre vm₁ X₁.warmed) with ⟨v, B, X', hpost, hsteps⟩ | ⟨q, B, X', hpost, hsteps⟩
  · exact Or.inl ⟨v, vm₁, B, X₁.warmed, X', hpost, fun target h => hstep₁ _ fun acts => by rw [doInvoke_state]; exact hsteps.trans h⟩
  · exact Or.inr ⟨q, vm₁, B, X₁.warmed, X', hpost, hstep₁ _ fun acts => by rw [doInvoke_state]; exact hsteps⟩
theorem vx_callS (X : Stand p l e R s m args below meth c T locs cells slots) (hexec : p.tables.exec = Jvm.exec) {own : String} {index : Nat} {y : MethodName} {bytes : ByteArray} {maxL : Nat} {ret : Option FieldType}
    (hown : s.vm.findClass own = some m.cls) (hlink : (Cond.methodLink own index y).before args s = true) (hstat : (Cond.static y).before args s = true) (hinit : (Cond.initialized y.cls).before args s = true)
    (hcode : (Cond.code y bytes maxL ret).before args s = true) (hy : y.cls ≠ "java/lang/invoke/MethodHandle" ∧ y.cls ≠ "java/lang/invoke/VarHandle")
    {W9 : Nat} {Pre : Pt → Array Value → Prop} {Post : Pt → Array Value → Option Value → Pt → Prop} {PostX : Pt → Array Value → Addr → Pt → Prop} (hK : vx_Back l R p e below s args y 3 W9 Pre Post PostX)
    {g : JFrame} (hg : g.method = m) (hsize : g.locals.size = c.maxLocals) {argsL rest : List Value} (hlen : ∀ sig, parseMethodDescriptor y.desc = some sig → argsL.length = sig.parameters.length)
    (hstack : g.stack = argsL.reverse ++ rest) (hW : 2 * g.monitorRoom + (rest.map fun v => v.category).sum ≤ W9) (hdg : decode c.code g.pc = .ok (.invokestatic index, 3))
    (hpre : ∀ vm₁, s.WarmedH vm₁ → Pre ⟨T.setVm vm₁, locs, cells, slots⟩ argsL.toArray) :
    (∃ (v : Option Value) (vm₁ : Vm) (B : Pt), s.WarmedH vm₁ ∧ Stand p l e R s m args below meth c B.U B.locs B.cells B.slots ∧ Post ⟨T.setVm vm₁, locs, cells, slots⟩ argsL.toArray v B ∧
      ∀ target, Steps p.tables e below (B.U.setTop { g with pc := g.pc + 3, stack := v.toList ++ rest }) target → Steps p.tables e below (T.setTop g) target) ∨
    (∃ (q : Addr) (vm₁ : Vm) (B : Pt), s.WarmedH vm₁ ∧ Stand p l e R s m args below meth c B.U B.locs B.cells B.slots ∧ PostX ⟨T.setVm vm₁, locs, cells, slots⟩ argsL.toArray q B ∧
      Steps p.tables e below (T.setTop g) ((B.U.setTop { g with stack := rest }).pushFrame (.throwing q))) := by
  obtain ⟨mk, hnamed⟩ := Cond.code_named hcode
  obtain ⟨methM, cM, hmethM, -, -, -, -, -, -, hsigM⟩ := Cond.code_spec hnamed hcode
  have hstatic : methM.isStatic = true := Cond.static_spec hnamed hmethM hstat
  obtain ⟨kP, hkP, -⟩ := className_of_methodNamed hnamed
  have hinitP : kP.init = .initialized := Cond.initialized_spec (findClass_of_methodNamed hnamed) hkP hinit
  obtain ⟨vm₁, X₁, hstep₁⟩ := X.invokestatic hexec hown hlink hnamed hmethM hstatic hkP hinitP hy (g := g) hg (argsL := argsL) (rest := rest) (hlen _ hsigM) hstack hdg
  rcases hK m meth c ⟨T.setVm vm₁, locs, cells, slots⟩ { g with stack := rest } (.invokestatic index) mk argsL.toArray X₁ hg hsize hdg hW (X₁.named hnamed) (hpre vm₁ X₁.warmed) with ⟨v, B, X', hpost, hsteps⟩ | ⟨q, B, X', hpost, hsteps⟩
  · exact Or.inl ⟨v, vm₁, B, X₁.warmed, X', hpost, fun target h => hstep₁ _ fun acts => by rw [doInvoke_state]; exact hsteps.trans h⟩
  · exact Or.inr ⟨q, vm₁, B, X₁.warmed, X', hpost, hstep₁ _ fun acts => by rw [doInvoke_state]; exact hsteps⟩
end Calls
theorem vx_cls {s : State} {T : State} {vm₁ : Vm} {E : String} {k : ClassId} (hW : s.WarmedH vm₁) (h : (T.setVm vm₁).vm.findClass E = some k) : s.vm.findClass E = some k := by
  have h1 : vm₁.findClass E = some k := h
  rw [hW.alike.findClass] at h1
  exact h1
/-- the method's frame g, with q thrown over it -/
def vx_W (p : Program) (l : Launch) (e : Env) (R : Room) (s : State) (m : MethodId) (args : Array Value) (below : List Frame) (meth : Method) (c : Code) (H : Heap) (locs : List Loc) (cells slots : Nat) (Q : State → Prop) (g : JFrame) (q : Addr) : Prop :=
  ∀ T : State, T.heap = H → Stand p l e R s m args below meth c T locs cells slots → ∃ t, Steps p.tables e below ((T.setTop g).pushFrame (.throwing q)) t ∧ Q t
def vx_Run (p : Program) (l : Launch) (e : Env) (R : Room) (s : State) (m : MethodId) (args : Array Value) (below : List Frame) (meth : Method) (c : Code) (H : Heap) (locs : List Loc) (cells slots mc ms : Nat) (g : JFrame) (rest : List Value) (Qa : State → Outcome → State → Prop) (XC : String → State → State → Prop) (free : Addr → Prop) : Prop :=
  ∀ T : State, T.heap = H → Stand p l e R s m args below meth c T locs cells slots →
    (∃ (v : Option Value) (st₀ t T' : State) (L : List Loc), st₀.heap = H ∧ Stand p l e R s m args below meth c T' (locs ++ L) (cells + mc) (slots + ms) ∧ (∀ q ∈ L, free q.base) ∧ T'.heap = t.heap ∧ T'.vm = t.vm ∧ Qa st₀ (.returned v) t ∧
      Goes p e below T g T' { g with pc := g.pc + 3, stack := v.toList ++ rest }) ∨
    (∃ (q : Addr) (st₀ t T' : State) (L : List Loc) (E : String) (ce : Cell), st₀.heap = H ∧ Stand p l e R s m args below meth c T' (locs ++ L) (cells + mc) (slots + ms) ∧ (∀ z ∈ L, free z.base) ∧ T'.heap = t.heap ∧ T'.vm = t.vm ∧ XC E st₀ t ∧ t.heap[q]? = some ce ∧ ce.vm = .none ∧ s.vm.findClass E = some ce.cls ∧
      Steps p.tables e below (T.setTop g) ((T'.setTop { g with stack := rest }).pushFrame (.throwing q)))
def vx_X {S : Type} (px : S → Prop) (B : String → S → State → Prop) (A : Nat → Prop) : String → State → State → Prop := fun E st t => ∃ u : S, px u ∧ B E u t ∧ va_F A st t
section Runs
variable {p : Program} {l : Launch} {e : Env} {R : Room} {s : State} {m : MethodId} {args : Array Value} {below : List Frame} {meth : Method} {c : Code} {H : Heap} {locs : List Loc} {cells slots : Nat}
variable {y : MethodName} {bytes cc : ByteArray} {maxL nL mc ms n index : Nat} {ret : Option FieldType} {ws : List Cond} {rm : Room} {Pc : Array Value → State → Prop} {Qc : Array Value → State → Outcome → State → Prop} {XC : String → State → State → Prop} {free : Addr → Prop} {Ts : List Cond} {own C : String} {b : Addr} {As rest : List Value} {g : JFrame}
theorem vx_callBack (cb : CallB R s args own index y bytes maxL ret ws rm mc ms n) (hM : vx_Met l y ws rm Pc Qc XC mc ms free) (hbl : FrameBlind Pc) : vx_Back l R p e below s args y 3 8 (PreOf R mc ms Pc) (PostOf Qc mc ms free) (vx_Post XC mc ms free) := by
  obtain ⟨hrc, hrs, hfr, hlo, hws, hcw, -, hini, -⟩ := cb
  exact vx_back (bytes := bytes) (maxL := maxL) (ret := ret) hM hbl hrc hrs hfr hlo hws hcw (fun a' U hW => word_at hW (Or.inl (by first | rfl | simp [Cond.onTables, Cond.keeps, Cond.steady])) hini)
theorem vx_runV (S : CallFix p m c cc nL s args Ts own) (hM : vx_Met l y ws rm Pc Qc XC mc ms free) (cw : CallW R s args own C index y bytes maxL ret ws rm mc ms n) (hp : PreV s H C b Pc As)
    (hg : g.method = m) (hn : As.length = n) (hsize : g.locals.size = nL) (hstack : g.stack = As.reverse ++ .ref b :: rest) (hW : 2 * g.monitorRoom + (rest.map fun v => v.category).sum ≤ 8) (hdg : decode cc g.pc = .ok (.invokevirtual index, 3)) (hf : cells + mc ≤ R.cells ∧ slots + ms ≤ R.slots) :
    vx_Run p l e R s m args below meth c H locs cells slots mc ms g rest (Qc (Value.ref b :: As).toArray) XC free := by
  have hK : vx_Back l R p e below s args y 3 8 (PreOf R mc ms Pc) (PostOf Qc mc ms free) (vx_Post XC mc ms free) := vx_callBack cw.1 hM hp.1
  obtain ⟨⟨-, -, -, -, -, -, hcode, -, hy, hlen, hl⟩, hin, hse⟩ := cw
  obtain ⟨hx, hb, hml, ho, -⟩ := S
  obtain ⟨-, ⟨cellB, hcB, hoB, hclB⟩, hPc⟩ := hp
  intro T hT X
  rcases vx_callV X hx (C := C) (bytes := bytes) (maxL := maxL) (ret := ret) ho hl hin hse hcode hy hK (by rw [hT]; exact hcB) hoB hclB hg (hsize.trans hml.symm) (argsL := As) (rest := rest) (fun sig h => hn.trans (hlen sig h)) hstack hW (by rw [hb]; exact hdg)
    (fun vm₁ hW₁ => ⟨hf.1, hf.2, hPc (T.setVm vm₁) hT hW₁⟩) with ⟨v, vm₁, ⟨U', l2, c2, s2⟩, hW₁, X', ⟨g', mk, t, L, e1, e2, hq, h1, hL, h2, h3⟩, st⟩ | ⟨q, vm₁, ⟨U', l2, c2, s2⟩, hW₁, X', ⟨g', mk, t, L, E, ce, e1, e2, hq, hce, hcv, hcl, h1, hL, h2, h3⟩, st⟩
  · dsimp only [Pt.U, Pt.locs, Pt.cells, Pt.slots] at X' e1 e2 h1 h2 h3 st
    subst h1; subst h2; subst h3
    exact Or.inl ⟨v, (T.setVm vm₁).calling g' mk (Value.ref b :: As).toArray, t, U', L, hT, X', hL, e1, e2, hq, st⟩
  · dsimp only [Pt.U, Pt.locs, Pt.cells, Pt.slots] at X' e1 e2 h1 h2 h3 st hcl
    subst h1; subst h2; subst h3
    exact Or.inr ⟨q, (T.setVm vm₁).calling g' mk (Value.ref b :: As).toArray, t, U', L, E, ce, hT, X', hL, e1, e2, hq, hce, hcv, vx_cls hW₁ hcl, st⟩
theorem vx_runS (S : CallFix p m c cc nL s args Ts own) (hM : vx_Met l y ws rm Pc Qc XC mc ms free) (cw : CallB R s args own index y bytes maxL ret ws rm mc ms n ∧ (Cond.static y).before args s = true) (hp : PreS s H Pc As)
    (hg : g.method = m) (hn : As.length = n) (hsize : g.locals.size = nL) (hstack : g.stack = As.reverse ++ rest) (hW : 2 * g.monitorRoom + (rest.map fun v => v.category).sum ≤ 8) (hdg : decode cc g.pc = .ok (.invokestatic index, 3)) (hf : cells + mc ≤ R.cells ∧ slots + ms ≤ R.slots) :
    vx_Run p l e R s m args below meth c H locs cells slots mc ms g rest (Qc As.toArray) XC free := by
  have hK : vx_Back l R p e below s args y 3 8 (PreOf R mc ms Pc) (PostOf Qc mc ms free) (vx_Post XC mc ms free) := vx_callBack cw.1 hM hp.1
  obtain ⟨⟨-, -, -, -, -, -, hcode, hini, hy, hlen, hl⟩, hstt⟩ := cw
  obtain ⟨hx, hb, hml, ho, -⟩ := S
  intro T hT X
  rcases vx_callS X hx (bytes := bytes) (maxL := maxL) (ret := ret) ho hl hstt hini hcode hy hK hg (hsize.trans hml.symm) (argsL := As) (rest := rest) (fun sig h => hn.trans (hlen sig h)) hstack hW (by rw [hb]; exact hdg)
    (fun vm₁ hW₁ => ⟨hf.1, hf.2, hp.2 (T.setVm vm₁) hT hW₁⟩) with ⟨v, vm₁, ⟨U', l2, c2, s2⟩, hW₁, X', ⟨g', mk, t, L, e1, e2, hq, h1, hL, h2, h3⟩, st⟩ | ⟨q, vm₁, ⟨U', l2, c2, s2⟩, hW₁, X', ⟨g', mk, t, L, E, ce, e1, e2, hq, hce, hcv, hcl, h1, hL, h2, h3⟩, st⟩
  · dsimp only [Pt.U, Pt.locs, Pt.cells, Pt.slots] at X' e1 e2 h1 h2 h3 st
    subst h1; subst h2; subst h3
    exact Or.inl ⟨v, (T.setVm vm₁).calling g' mk As.toArray, t, U', L, hT, X', hL, e1, e2, hq, st⟩
  · dsimp only [Pt.U, Pt.locs, Pt.cells, Pt.slots] at X' e1 e2 h1 h2 h3 st hcl
    subst h1; subst h2; subst h3
    exact Or.inr ⟨q, (T.setVm vm₁).calling g' mk As.toArray, t, U', L, E, ce, hT, X', hL, e1, e2, hq, hce, hcv, vx_cls hW₁ hcl, st⟩
end Runs
section Rows
variable {p : Program} {l : Launch} {e : Env} {R : Room} {s : State} {m : MethodId} {args : Array Value} {below : List Frame} {meth : Method} {c : Code} {H : Heap} {locs : List Loc} {cells slots : Nat} {Q : State → Prop}
variable {mc ms : Nat} {free : Addr → Prop} {A0 A1 : Nat → Prop} {H0 : Heap} {a : Array Value} {pc : Nat} {ls : Array Slot} {st0 rest : List Value}
theorem vx_keep {st₀ t T' : State} {L : List Loc} (h0 : st₀.heap = H) (e1 : T'.heap = t.heap) (hS : va_S A0 H0 H locs) (hA : ∀ q, q < H.size → A1 q → A0 q) (hf : ∀ q, free q → A0 q) (hL : ∀ q ∈ L, free q.base) (hF : va_F A1 st₀ t) :
    H.size ≤ T'.heap.size ∧ (∀ q : Nat, q < H.size → ¬ A1 q → T'.heap[q]? = H[q]?) ∧ va_S A0 H0 T'.heap (locs ++ L) := by
  obtain ⟨hz, hk⟩ := hF
  rw [h0] at hz hk
  exact ⟨by rw [e1]; exact hz, fun q h1 h2 => by rw [e1]; exact hk q h1 h2,
    ⟨Nat.le_trans hS.1 (by rw [e1]; exact hz), fun q h1 h2 => by rw [e1, hk q (Nat.lt_of_lt_of_le h1 hS.1) (fun z => h2 (hA q (Nat.lt_of_lt_of_le h1 hS.1) z))]; exact hS.2.1 q h1 h2, fun q hq => by
      rcases List.mem_append.mp hq with h | h
      · exact hS.2.2 q h
      · exact hf _ (hL q h)⟩⟩
theorem vx_calli {S SX : Type} {post : Int32 → S → Prop} {px : SX → Prop} {B : S → State → Prop} {BX : String → SX → State → Prop} {AX : Nat → Prop} (hr : vx_Run p l e R s m args below meth c H locs cells slots mc ms (F0 m pc ls st0) rest (va_Qi post B A1 a) (vx_X px BX AX) free) (hS : va_S A0 H0 H locs) (hA : ∀ q, q < H.size → A1 q → A0 q) (hf : ∀ q, free q → A0 q) (hAX : ∀ q, q < H.size → AX q → A0 q)
    (kx : ∀ (E : String) (ce : Cell) (q9 : Addr) (u : SX) (t : State) (H1 : Heap) (locs1 : List Loc), t.heap = H1 → s.vm.Alike t.vm → px u → BX E u t → H.size ≤ H1.size → (∀ q : Nat, q < H.size → ¬ AX q → H1[q]? = H[q]?) → va_S A0 H0 H1 locs1 → H1[q9]? = some ce → ce.vm = .none → s.vm.findClass E = some ce.cls → vx_W p l e R s m args below meth c H1 locs1 (cells + mc) (slots + ms) Q (F0 m pc ls rest) q9)
    (kk : ∀ (r : Int32) (u : S) (t : State) (H1 : Heap) (locs1 : List Loc), t.heap = H1 → s.vm.Alike t.vm → post r u → B u t → H.size ≤ H1.size → (∀ q : Nat, q < H.size → ¬ A1 q → H1[q]? = H[q]?) → va_S A0 H0 H1 locs1 → W p l e R s m args below meth c H1 locs1 (cells + mc) (slots + ms) Q (F0 m (pc + 3) ls (.int r :: rest))) : W p l e R s m args below meth c H locs cells slots Q (F0 m pc ls st0) := by
  intro T hT X
  rcases hr T hT X with ⟨v, st₀, t, T', L, h0, X', hL, e1, e2, ⟨⟨r, u, hv, hp, hb⟩, hF⟩, st⟩ | ⟨q, st₀, t, T', L, E, ce, h0, X', hL, e1, e2, ⟨u, hp, hb, hF⟩, hce, hcv, hcl, st⟩
  · cases hv
    obtain ⟨k1, k2, k3⟩ := vx_keep h0 e1 hS hA hf hL hF
    obtain ⟨t2, a1, b1⟩ := kk r u t T'.heap (locs ++ L) e1.symm (by rw [← e2]; exact X'.warmed.alike) hp hb k1 k2 k3 T' rfl X'
    exact ⟨t2, st t2 a1, b1⟩
  · obtain ⟨k1, k2, k3⟩ := vx_keep h0 e1 hS hAX hf hL hF
    obtain ⟨t2, a1, b1⟩ := kx E ce q u t T'.heap (locs ++ L) e1.symm (by rw [← e2]; exact X'.warmed.alike) hp hb k1 k2 k3 (by rw [e1]; exact hce) hcv hcl T' rfl X'
    exact ⟨t2, st.trans a1, b1⟩
theorem vx_calll {S SX : Type} {post : Int64 → S → Prop} {px : SX → Prop} {B : S → State → Prop} {BX : String → SX → State → Prop} {AX : Nat → Prop} (hr : vx_Run p l e R s m args below meth c H locs cells slots mc ms (F0 m pc ls st0) rest (va_Ql post B A1 a) (vx_X px BX AX) free) (hS : va_S A0 H0 H locs) (hA : ∀ q, q < H.size → A1 q → A0 q) (hf : ∀ q, free q → A0 q) (hAX : ∀ q, q < H.size → AX q → A0 q)
    (kx : ∀ (E : String) (ce : Cell) (q9 : Addr) (u : SX) (t : State) (H1 : Heap) (locs1 : List Loc), t.heap = H1 → s.vm.Alike t.vm → px u → BX E u t → H.size ≤ H1.size → (∀ q : Nat, q < H.size → ¬ AX q → H1[q]? = H[q]?) → va_S A0 H0 H1 locs1 → H1[q9]? = some ce → ce.vm = .none → s.vm.findClass E = some ce.cls → vx_W p l e R s m args below meth c H1 locs1 (cells + mc) (slots + ms) Q (F0 m pc ls rest) q9)
    (kk : ∀ (r : Int64) (u : S) (t : State) (H1 : Heap) (locs1 : List Loc), t.heap = H1 → s.vm.Alike t.vm → post r u → B u t → H.size ≤ H1.size → (∀ q : Nat, q < H.size → ¬ A1 q → H1[q]? = H[q]?) → va_S A0 H0 H1 locs1 → W p l e R s m args below meth c H1 locs1 (cells + mc) (slots + ms) Q (F0 m (pc + 3) ls (.long r :: rest))) : W p l e R s m args below meth c H locs cells slots Q (F0 m pc ls st0) := by
  intro T hT X
  rcases hr T hT X with ⟨v, st₀, t, T', L, h0, X', hL, e1, e2, ⟨⟨r, u, hv, hp, hb⟩, hF⟩, st⟩ | ⟨q, st₀, t, T', L, E, ce, h0, X', hL, e1, e2, ⟨u, hp, hb, hF⟩, hce, hcv, hcl, st⟩
  · cases hv
    obtain ⟨k1, k2, k3⟩ := vx_keep h0 e1 hS hA hf hL hF
    obtain ⟨t2, a1, b1⟩ := kk r u t T'.heap (locs ++ L) e1.symm (by rw [← e2]; exact X'.warmed.alike) hp hb k1 k2 k3 T' rfl X'
    exact ⟨t2, st t2 a1, b1⟩
  · obtain ⟨k1, k2, k3⟩ := vx_keep h0 e1 hS hAX hf hL hF
    obtain ⟨t2, a1, b1⟩ := kx E ce q u t T'.heap (locs ++ L) e1.symm (by rw [← e2]; exact X'.warmed.alike) hp hb k1 k2 k3 (by rw [e1]; exact hce) hcv hcl T' rfl X'
    exact ⟨t2, st.trans a1, b1⟩
theorem vx_callf {S SX : Type} {post : UInt32 → S → Prop} {px : SX → Prop} {B : S → State → Prop} {BX : String → SX → State → Prop} {AX : Nat → Prop} (hr : vx_Run p l e R s m args below meth c H locs cells slots mc ms (F0 m pc ls st0) rest (va_Qf post B A1 a) (vx_X px BX AX) free) (hS : va_S A0 H0 H locs) (hA : ∀ q, q < H.size → A1 q → A0 q) (hf : ∀ q, free q → A0 q) (hAX : ∀ q, q < H.size → AX q → A0 q)
    (kx : ∀ (E : String) (ce : Cell) (q9 : Addr) (u : SX) (t : State) (H1 : Heap) (locs1 : List Loc), t.heap = H1 → s.vm.Alike t.vm → px u → BX E u t → H.size ≤ H1.size → (∀ q : Nat, q < H.size → ¬ AX q → H1[q]? = H[q]?) → va_S A0 H0 H1 locs1 → H1[q9]? = some ce → ce.vm = .none → s.vm.findClass E = some ce.cls → vx_W p l e R s m args below meth c H1 locs1 (cells + mc) (slots + ms) Q (F0 m pc ls rest) q9)
    (kk : ∀ (r : UInt32) (u : S) (t : State) (H1 : Heap) (locs1 : List Loc), t.heap = H1 → s.vm.Alike t.vm → post r u → B u t → H.size ≤ H1.size → (∀ q : Nat, q < H.size → ¬ A1 q → H1[q]? = H[q]?) → va_S A0 H0 H1 locs1 → W p l e R s m args below meth c H1 locs1 (cells + mc) (slots + ms) Q (F0 m (pc + 3) ls (.float r :: rest))) : W p l e R s m args below meth c H locs cells slots Q (F0 m pc ls st0) := by
  intro T hT X
  rcases hr T hT X with ⟨v, st₀, t, T', L, h0, X', hL, e1, e2, ⟨⟨r, u, hv, hp, hb⟩, hF⟩, st⟩ | ⟨q, st₀, t, T', L, E, ce, h0, X', hL, e1, e2, ⟨u, hp, hb, hF⟩, hce, hcv, hcl, st⟩
  · cases hv
    obtain ⟨k1, k2, k3⟩ := vx_keep h0 e1 hS hA hf hL hF
    obtain ⟨t2, a1, b1⟩ := kk r u t T'.heap (locs ++ L) e1.symm (by rw [← e2]; exact X'.warmed.alike) hp hb k1 k2 k3 T' rfl X'
    exact ⟨t2, st t2 a1, b1⟩
  · obtain ⟨k1, k2, k3⟩ := vx_keep h0 e1 hS hAX hf hL hF
    obtain ⟨t2, a1, b1⟩ := kx E ce q u t T'.heap (locs ++ L) e1.symm (by rw [← e2]; exact X'.warmed.alike) hp hb k1 k2 k3 (by rw [e1]; exact hce) hcv hcl T' rfl X'
    exact ⟨t2, st.trans a1, b1⟩
theorem vx_calld {S SX : Type} {post : UInt64 → S → Prop} {px : SX → Prop} {B : S → State → Prop} {BX : String → SX → State → Prop} {AX : Nat → Prop} (hr : vx_Run p l e R s m args below meth c H locs cells slots mc ms (F0 m pc ls st0) rest (va_Qd post B A1 a) (vx_X px BX AX) free) (hS : va_S A0 H0 H locs) (hA : ∀ q, q < H.size → A1 q → A0 q) (hf : ∀ q, free q → A0 q) (hAX : ∀ q, q < H.size → AX q → A0 q)
    (kx : ∀ (E : String) (ce : Cell) (q9 : Addr) (u : SX) (t : State) (H1 : Heap) (locs1 : List Loc), t.heap = H1 → s.vm.Alike t.vm → px u → BX E u t → H.size ≤ H1.size → (∀ q : Nat, q < H.size → ¬ AX q → H1[q]? = H[q]?) → va_S A0 H0 H1 locs1 → H1[q9]? = some ce → ce.vm = .none → s.vm.findClass E = some ce.cls → vx_W p l e R s m args below meth c H1 locs1 (cells + mc) (slots + ms) Q (F0 m pc ls rest) q9)
    (kk : ∀ (r : UInt64) (u : S) (t : State) (H1 : Heap) (locs1 : List Loc), t.heap = H1 → s.vm.Alike t.vm → post r u → B u t → H.size ≤ H1.size → (∀ q : Nat, q < H.size → ¬ A1 q → H1[q]? = H[q]?) → va_S A0 H0 H1 locs1 → W p l e R s m args below meth c H1 locs1 (cells + mc) (slots + ms) Q (F0 m (pc + 3) ls (.double r :: rest))) : W p l e R s m args below meth c H locs cells slots Q (F0 m pc ls st0) := by
  intro T hT X
  rcases hr T hT X with ⟨v, st₀, t, T', L, h0, X', hL, e1, e2, ⟨⟨r, u, hv, hp, hb⟩, hF⟩, st⟩ | ⟨q, st₀, t, T', L, E, ce, h0, X', hL, e1, e2, ⟨u, hp, hb, hF⟩, hce, hcv, hcl, st⟩
  · cases hv
    obtain ⟨k1, k2, k3⟩ := vx_keep h0 e1 hS hA hf hL hF
    obtain ⟨t2, a1, b1⟩ := kk r u t T'.heap (locs ++ L) e1.symm (by rw [← e2]; exact X'.warmed.alike) hp hb k1 k2 k3 T' rfl X'
    exact ⟨t2, st t2 a1, b1⟩
  · obtain ⟨k1, k2, k3⟩ := vx_keep h0 e1 hS hAX hf hL hF
    obtain ⟨t2, a1, b1⟩ := kx E ce q u t T'.heap (locs ++ L) e1.symm (by rw [← e2]; exact X'.warmed.alike) hp hb k1 k2 k3 (by rw [e1]; exact hce) hcv hcl T' rfl X'
    exact ⟨t2, st.trans a1, b1⟩
theorem vx_callv {S SX : Type} {post : S → Prop} {px : SX → Prop} {B : S → State → Prop} {BX : String → SX → State → Prop} {AX : Nat → Prop} (hr : vx_Run p l e R s m args below meth c H locs cells slots mc ms (F0 m pc ls st0) rest (va_Qv post B A1 a) (vx_X px BX AX) free) (hS : va_S A0 H0 H locs) (hA : ∀ q, q < H.size → A1 q → A0 q) (hf : ∀ q, free q → A0 q) (hAX : ∀ q, q < H.size → AX q → A0 q)
    (kx : ∀ (E : String) (ce : Cell) (q9 : Addr) (u : SX) (t : State) (H1 : Heap) (locs1 : List Loc), t.heap = H1 → s.vm.Alike t.vm → px u → BX E u t → H.size ≤ H1.size → (∀ q : Nat, q < H.size → ¬ AX q → H1[q]? = H[q]?) → va_S A0 H0 H1 locs1 → H1[q9]? = some ce → ce.vm = .none → s.vm.findClass E = some ce.cls → vx_W p l e R s m args below meth c H1 locs1 (cells + mc) (slots + ms) Q (F0 m pc ls rest) q9)
    (kk : ∀ (u : S) (t : State) (H1 : Heap) (locs1 : List Loc), t.heap = H1 → s.vm.Alike t.vm → post u → B u t → H.size ≤ H1.size → (∀ q : Nat, q < H.size → ¬ A1 q → H1[q]? = H[q]?) → va_S A0 H0 H1 locs1 → W p l e R s m args below meth c H1 locs1 (cells + mc) (slots + ms) Q (F0 m (pc + 3) ls (rest))) : W p l e R s m args below meth c H locs cells slots Q (F0 m pc ls st0) := by
  intro T hT X
  rcases hr T hT X with ⟨v, st₀, t, T', L, h0, X', hL, e1, e2, ⟨⟨u, hv, hp, hb⟩, hF⟩, st⟩ | ⟨q, st₀, t, T', L, E, ce, h0, X', hL, e1, e2, ⟨u, hp, hb, hF⟩, hce, hcv, hcl, st⟩
  · cases hv
    obtain ⟨k1, k2, k3⟩ := vx_keep h0 e1 hS hA hf hL hF
    obtain ⟨t2, a1, b1⟩ := kk u t T'.heap (locs ++ L) e1.symm (by rw [← e2]; exact X'.warmed.alike) hp hb k1 k2 k3 T' rfl X'
    exact ⟨t2, st t2 a1, b1⟩
  · obtain ⟨k1, k2, k3⟩ := vx_keep h0 e1 hS hAX hf hL hF
    obtain ⟨t2, a1, b1⟩ := kx E ce q u t T'.heap (locs ++ L) e1.symm (by rw [← e2]; exact X'.warmed.alike) hp hb k1 k2 k3 (by rw [e1]; exact hce) hcv hcl T' rfl X'
    exact ⟨t2, st.trans a1, b1⟩
/-- caught by the row x of this method's table; the rows ahead don't take it -/
theorem vx_catch {own name : String} {E : String} {ce : Cell} {q : Addr} (hown : s.vm.findClass own = some m.cls) (pre : List ExceptionTableEntry) (x : ExceptionTableEntry) (suf : List ExceptionTableEntry) (hsplit : c.exceptionTable.toList = pre ++ x :: suf)
    (hpass : ∀ z ∈ pre, covers z pc = false ∨ (z.catchType ≠ 0 ∧ ∃ nm : String, (Cond.classLink own z.catchType nm).before args s = true ∧ va_Nc E nm s)) (hx : covers x pc = true) (h0 : x.catchType ≠ 0)
    (hlink : (Cond.classLink own x.catchType name).before args s = true) (hcast : (Cond.castable E name).before args s = true) (hcell : H[q]? = some ce) (hv : ce.vm = .none) (hcl : s.vm.findClass E = some ce.cls)
    (kk : W p l e R s m args below meth c H locs cells slots Q (F0 m x.handlerPc ls [.ref q])) : vx_W p l e R s m args below meth c H locs cells slots Q (F0 m pc ls rest) q := by
  intro T hT X
  have hpl : e.platform.magicAccessors = ({} : Platform).magicAccessors := by rw [X.admits.platform]
  obtain ⟨c3, c4, hc3, hc4, hasg⟩ := Cond.castable_spec hcast
  cases Option.some.inj (hc3.symm.trans hcl)
  obtain ⟨c5, hc5, hcl5⟩ := Cond.classLink_spec hown hlink e.platform hpl
  cases Option.some.inj (hc4.symm.trans hc5)
  obtain ⟨vm', X', st⟩ := X.thenCaughtThrough q (g := F0 m pc ls rest) rfl (Steps.refl _) (by rw [hT]; exact hcell) (by rw [hv]; rfl) (by obtain ⟨k9, h9, -⟩ := Vm.findClass_spec hcl; exact ⟨k9, h9⟩) pre x suf hsplit
    (fun z hz => by
      rcases hpass z hz with h | ⟨hz0, nm, hl1, hn1⟩
      · exact Or.inl h
      · obtain ⟨c6, hc6, hcl6⟩ := Cond.classLink_spec hown hl1 e.platform hpl
        obtain ⟨a8, b8, h1, h2, h3⟩ := hn1
        cases Option.some.inj (h1.symm.trans hcl)
        cases Option.some.inj (h2.symm.trans hc6)
        exact Or.inr ⟨hz0, _, hcl6, h3⟩) hx (Or.inr ⟨h0, c4, hcl5, hasg⟩)
  obtain ⟨t, a1, b1⟩ := kk (T.setVm vm') hT X'
  exact ⟨t, st.trans a1, b1⟩
end Rows
section Ends
variable {p : Program} {l : Launch} {e : Env} {R : Room} {s : State} {m : MethodId} {args : Array Value} {below : List Frame} {meth : Method} {c : Code} {H : Heap} {locs : List Loc} {cells slots : Nat} {Q : State → Prop}
variable {mc ms : Nat} {free : Addr → Prop} {A0 A1 : Nat → Prop} {H0 : Heap} {a : Array Value} {ls : Array Slot} {st0 rest : List Value}
variable {Qc : Array Value → State → Outcome → State → Prop} {XC : String → State → State → Prop}
/-- what a body that may throw owes at its end -/
def vx_MQ (below : List Frame) (Qc : Array Value → State → Outcome → State → Prop) (XC : String → State → State → Prop) (a : Array Value) (s : State) (mc ms : Nat) (free : Addr → Prop) : State → Prop := fun t =>
  ∃ o, t.status = .running ∧ Ended t below o ∧ vx_Q Qc XC mc ms free a s o t
theorem vx_ret {g : JFrame} {mc ms : Nat} (k : W p l e R s m args below meth c H locs cells slots (MQ below Qc args s mc ms free) g) : W p l e R s m args below meth c H locs cells slots (vx_MQ below Qc XC args s mc ms free) g := by
  intro T hT X
  obtain ⟨t, a1, o, b1, b2, b3, b4⟩ := k T hT X
  exact ⟨t, a1, o, b1, b2, Or.inl ⟨b3, b4⟩⟩
/-- not caught here: it goes on to the caller -/
theorem vx_widen {g : JFrame} {q : Addr} {k n : Nat} (h1 : cells ≤ k) (h2 : slots ≤ n) (kk : vx_W p l e R s m args below meth c H locs k n Q g q) : vx_W p l e R s m args below meth c H locs cells slots Q g q := fun T hT X => kk T hT (stand_widen X h1 h2)
theorem vx_out {pc : Nat} {E : String} {ce : Cell} {q : Addr} {mc ms : Nat} (hout : ∀ x ∈ c.exceptionTable.toList, covers x pc = false) (hlocks : meth.locks = false) (hcell : H[q]? = some ce) (hv : ce.vm = .none) (hcl : s.vm.findClass E = some ce.cls)
    (hx : ∀ t : State, t.heap = H → s.vm.Alike t.vm → XC E s t) (hf : ∀ z ∈ locs, free z.base) (hc : cells ≤ mc) (hs : slots ≤ ms) :
    vx_W p l e R s m args below meth c H locs cells slots (vx_MQ below Qc XC args s mc ms free) (F0 m pc ls rest) q := by
  intro T hT X
  obtain ⟨st1, hrun, hend, hW, hsm⟩ := X.leaveThrown q (g := F0 m pc ls rest) rfl rfl rfl hout hlocks
  have hcell9 : (T.setFrames (.throwing q :: below)).heap[q]? = some ce := by
    show T.heap[q]? = some ce
    rw [hT]; exact hcell
  exact ⟨_, st1, .threw q, hrun, hend, Or.inr ⟨q, rfl, E, ce, locs, hx _ hT hW.alike, hcell9, hv, hcl, hW, hsm.mono hc hs, hf⟩⟩
theorem vx_frame {U : State} {k n : Nat} (h : s.sameButNew ({ U with vm := s.vm } : State) locs k n) : s.heap.size ≤ U.heap.size ∧ ∀ q : Nat, q < s.heap.size → (∀ z ∈ locs, z.base ≠ q) → U.heap[q]? = s.heap[q]? := by
  obtain ⟨-, h2, -, -, -, h6⟩ := h
  refine ⟨h2, fun q hq hz => ?_⟩
  obtain ⟨c9, e1, e2, e3, e4⟩ := h6 q _ (Array.getElem?_eq_getElem hq)
  have hs : c9.slots = (s.heap[q]).slots := Array.ext_getElem? fun i => e4 i fun hm => hz _ hm rfl
  have h9 : c9 = s.heap[q] := by
    rw [hs] at e2
    exact e2
  have e5 : U.heap[q]? = some c9 := e1
  rw [e5, h9, Array.getElem?_eq_getElem hq]
/-- the words of a throw but the four that speak of the heap -/
def vx_no (w : Cond) : Bool := decide (w ≠ .isRef (.static Bundle.tN "UNASSIGNED_STACK" Bundle.steD)) && decide (w ≠ .isRef (.static Bundle.tN "SUPPRESSED_SENTINEL" Bundle.listD)) && decide (w ≠ .laysStatic Bundle.tN "UNASSIGNED_STACK" Bundle.steD) && decide (w ≠ .laysStatic Bundle.tN "SUPPRESSED_SENTINEL" Bundle.listD)
def vx_at0 (own : String) (ic : Nat) (X : String) (names : List String) : List Cond := (Bundle.ownAtoms0 own ic X names).filter vx_no
def vx_atS (own : String) (ic : Nat) (X : String) (names : List String) : List Cond := (Bundle.ownAtoms own ic X names).filter vx_no
/-- a word that the tables alone decide, or a good one -/
def vx_ot (w : Cond) : Bool := w.onTables || goodWord w
theorem vx_ot_at {args a' : Array Value} {s U : State} {w : Cond} (hW : s.WarmedH U.vm) (hvm : s.vm = U.vm) (hg : vx_ot w = true) (h : w.before args s = true) : w.before a' U = true := by
  simp only [vx_ot, Bool.or_eq_true] at hg
  rcases hg with hg | hg
  · exact va_tabs hg hvm h
  · exact word_at hW (good_of_word hg) h
/-- a list's words: the good ones out of the method's own list, the others by premises of their own -/
theorem vx_hat {args : Array Value} {s : State} {L B : List Cond} (h1 : ∀ w ∈ L.filter goodWord, w.before args s = true) (h2 : ∀ w ∈ L.filter (fun w => !goodWord w), w ∈ B) (h3 : ∀ w ∈ B, w.before args s = true) : ∀ w ∈ L, w.before args s = true := by
  intro w hw
  by_cases g : goodWord w = true
  · exact h1 w (List.mem_filter.mpr ⟨hw, g⟩)
  · refine h3 w (h2 w (List.mem_filter.mpr ⟨hw, ?_⟩))
    show (!goodWord w) = true
    cases hgw : goodWord w
    · rfl
    · exact absurd hgw g
theorem vx_c {args : Array Value} {s : State} {w : Cond} {B : List Cond} (h : w.before args s = true) (t : ∀ w ∈ B, w.before args s = true) : ∀ w' ∈ w :: B, w'.before args s = true := fun w' h' => (List.mem_cons.mp h').elim (fun e => by rw [e]; exact h) (t w')
theorem vx_n {args : Array Value} {s : State} : ∀ w ∈ ([] : List Cond), w.before args s = true := fun _ h => nomatch h
theorem vx_own {args : Array Value} {s : State} {L : List Cond} (h1 : ∀ w ∈ L.filter vx_no, w.before args s = true)
    (hU : (Cond.isRef (.static Bundle.tN "UNASSIGNED_STACK" Bundle.steD)).before args s = true) (hN : (Cond.isRef (.static Bundle.tN "SUPPRESSED_SENTINEL" Bundle.listD)).before args s = true)
    (lU : (Cond.laysStatic Bundle.tN "UNASSIGNED_STACK" Bundle.steD).before args s = true) (lN : (Cond.laysStatic Bundle.tN "SUPPRESSED_SENTINEL" Bundle.listD).before args s = true) : ∀ w ∈ L, w.before args s = true := by
  intro w hw
  by_cases e1 : w = .isRef (.static Bundle.tN "UNASSIGNED_STACK" Bundle.steD)
  · rw [e1]; exact hU
  · by_cases e2 : w = .isRef (.static Bundle.tN "SUPPRESSED_SENTINEL" Bundle.listD)
    · rw [e2]; exact hN
    · by_cases e3 : w = .laysStatic Bundle.tN "UNASSIGNED_STACK" Bundle.steD
      · rw [e3]; exact lU
      · by_cases e4 : w = .laysStatic Bundle.tN "SUPPRESSED_SENTINEL" Bundle.listD
        · rw [e4]; exact lN
        · exact h1 w (List.mem_filter.mpr ⟨hw, by unfold vx_no; rw [decide_eq_true e1, decide_eq_true e2, decide_eq_true e3, decide_eq_true e4]; rfl⟩)
/-- where a static field lies, its class's statics cell in H -/
def vx_L (C n d : String) (A : Nat → Prop) (U : State) (H : Heap) : Prop := ∃ (c : ClassId) (k : Class) (i : Nat) (f : Field) (a : Nat) (cell : Cell), U.vm.findClass C = some c ∧ U.fieldFound? C n d = some (c, k, i, f) ∧ f.isStatic = true ∧ k.statics = some a ∧ H[a]? = some cell ∧ cell.vm.isStatics = true ∧ cell.cls = c ∧ f.slot < cell.slots.size ∧ k.staticTypes[f.slot]? = some f.type ∧ ¬ A a
theorem vx_L.moved {C n d : String} {A : Nat → Prop} {u U : State} {H : Heap} (hvm : u.vm.Alike U.vm) (h : vx_L C n d A u H) : vx_L C n d A U H := by
  obtain ⟨c, k, i, f, a, cell, h1, h2, h3, h4, h5, h6, h7, h8, h9, h10⟩ := h
  obtain ⟨k', hi', he⟩ := State.fieldFound?_setVm hvm h2
  exact ⟨c, k', i, f, a, cell, by rw [hvm.findClass]; exact h1, hi', h3, by rw [he]; exact h4, h5, h6, h7, h8, by rw [he]; exact h9, h10⟩
theorem vx_L.kept {C n d : String} {A : Nat → Prop} {U : State} {H H1 : Heap} (h : vx_L C n d A U H) (hq : ∀ a : Nat, a < H.size → ¬ A a → H1[a]? = H[a]?) : vx_L C n d A U H1 := by
  obtain ⟨c, k, i, f, a, cell, h1, h2, h3, h4, h5, h6, h7, h8, h9, h10⟩ := h
  exact ⟨c, k, i, f, a, cell, h1, h2, h3, h4, by rw [hq a (Array.getElem?_eq_some_iff.mp h5).1 h10]; exact h5, h6, h7, h8, h9, h10⟩
theorem vx_L.narrow {C n d : String} {A B : Nat → Prop} {U : State} {H : Heap} (h : vx_L C n d A U H) (hAB : ∀ q, B q → A q) : vx_L C n d B U H := by
  obtain ⟨c, k, i, f, a, cell, h1, h2, h3, h4, h5, h6, h7, h8, h9, h10⟩ := h
  exact ⟨c, k, i, f, a, cell, h1, h2, h3, h4, h5, h6, h7, h8, h9, fun z => h10 (hAB _ z)⟩
theorem vx_L.word {C n d : String} {A : Nat → Prop} {s : State} {args : Array Value} (h : vx_L C n d A s s.heap) : (Cond.laysStatic C n d).before args s = true := by
  obtain ⟨c, k, i, f, a, cell, h1, h2, h3, h4, h5, h6, h7, h8, h9, -⟩ := h
  show (Cond.laysStatic C n d).holds args s none s [] = true
  exact Cond.laysStatic_of h1 h2 h3 h4 h5 h6 h7 h8 h9
/-- .. and what it holds: null or some reference -/
def vx_Zq (C n d : String) (A : Nat → Prop) (U : State) (H : Heap) : Prop := va_Zq C n d A U H ∧ vx_L C n d A U H
theorem vx_Zq.moved {C n d : String} {A : Nat → Prop} {u U : State} {H : Heap} (hvm : u.vm.Alike U.vm) (h : vx_Zq C n d A u H) : vx_Zq C n d A U H := ⟨va_Zq.moved hvm h.1, vx_L.moved hvm h.2⟩
theorem vx_Zq.kept {C n d : String} {A : Nat → Prop} {U : State} {H H1 : Heap} (h : vx_Zq C n d A U H) (hq : ∀ a : Nat, a < H.size → ¬ A a → H1[a]? = H[a]?) : vx_Zq C n d A U H1 := ⟨va_Zq.kept h.1 hq, vx_L.kept h.2 hq⟩
theorem vx_Zq.narrow {C n d : String} {A B : Nat → Prop} {U : State} {H : Heap} (h : vx_Zq C n d A U H) (hAB : ∀ q, B q → A q) : vx_Zq C n d B U H := ⟨va_Zq.narrow h.1 hAB, vx_L.narrow h.2 hAB⟩
theorem vx_Zqof {args : Array Value} {s : State} {C n d : String} {A : Nat → Prop} (hl : (Cond.laysStatic C n d).before args s = true) (hini : (Cond.initialized C).before args s = true) (h : (Cond.isRef (.static C n d)).before args s = true) (hA : ∀ a : Nat, a < s.heap.size → ¬ A a) : vx_Zq C n d A s s.heap := by
  refine ⟨va_Zqof hl hini h hA, ?_⟩
  obtain ⟨c, k, i, f, a, cell, h1, h2, h3, h4, h5, h6, h7, h8, h9⟩ := Cond.laysStatic_spec hl
  exact ⟨c, k, i, f, a, cell, h1, h2, h3, h4, h5, h6, h7, h8, h9, hA a (Array.getElem?_eq_some_iff.mp h5).1⟩
theorem vx_isRef {C n d : String} {v : Value} {A : Nat → Prop} {s : State} {args : Array Value} (h : va_Z C n d v A s s.heap) (hv : v.isRef = true) : (Cond.isRef (.static C n d)).before args s = true := by
  obtain ⟨cf, kf, fi, f, a, cell, h1, h2, h3, h4, h5, h6, h7, -⟩ := h
  have he : (Term.static C n d).eval args s none [] s = some v := by
    simp [Term.eval, State.fieldNamed?, h1, h2, h4, h5, h6, h7]
  simp only [Cond.before, Cond.holds, Cond.value, he]
  cases v <;> simp_all [Value.isRef]
theorem vx_isRefq {C n d : String} {A : Nat → Prop} {s : State} {args : Array Value} (h : va_Zq C n d A s s.heap) : (Cond.isRef (.static C n d)).before args s = true := by
  rcases h with h | ⟨t, h⟩
  · exact vx_isRef h rfl
  · exact vx_isRef h rfl
/-- the same frame, seen from here: as if the method were called anew in this heap -/
theorem vx_rebase {T : State} (X : Stand p l e R s m args below meth c T locs cells slots) {R' : Room} (hf : R'.frames ≤ R.frames) (hl : R'.locals ≤ R.locals) (hc : cells + R'.cells ≤ R.cells) (hs : slots + R'.slots ≤ R.slots) :
    Stand p l e R' ((T.setVm s.vm).setFrames (.invoking m args :: below)) m args below meth c T [] 0 0 := by
  have htop : (T.setVm s.vm).topJava?.isSome := X.here.top
  have hF : ((T.setVm s.vm).setFrames (.invoking m args :: below)).frames = .invoking m args :: below := State.frames_setFrames _ (State.cur_lt_of_top htop)
  obtain ⟨g₀, hg0⟩ := Option.isSome_iff_exists.mp htop
  obtain ⟨r, hr⟩ := State.topJava?_eq_some.mp hg0
  have hl9 : e.platform.stackLimits (T.setVm s.vm).me = e.platform.stackLimits s.me := X.limits
  have hb9 : (T.setVm s.vm).me.stackBytes = s.me.stackBytes := X.bytes
  refine ⟨X.admits, X.cas, X.clock, hF, ?_, X.hears, X.method, X.code, X.here, X.tail, X.warmed, ?_, ?_, ?_⟩
  · have h := X.room
    have hU : ((T.setVm s.vm).setFrames (.invoking m args :: below)).localsInUse = s.localsInUse := by
      rw [State.localsInUse_invoking hF (meth := meth) (c := c) X.method X.code, State.localsInUse_invoking X.frames X.method X.code]
    simp only [State.hasRoom, Bool.and_eq_true, decide_eq_true_eq] at h ⊢
    obtain ⟨⟨⟨⟨h1, h2, h3, h4, h5, h6⟩, h7⟩, h8⟩, h9⟩ := h
    rw [X.frames, List.length_cons] at h2 h3
    have q1 := X.heapSize
    have q2 := X.used
    simp only [hF, hU, List.length_cons, State.stackLimits_setFrames, State.stackBytes_setFrames, hl9, hb9]
    refine ⟨⟨⟨⟨by omega, by omega, by omega, by omega, by omega, h6⟩, ?_⟩, ?_⟩, X.book⟩
    · show T.heap.size + R'.cells ≤ e.platform.maxCells
      omega
    · show T.slotsUsed + R'.slots ≤ e.platform.maxSlots
      omega
  · rw [State.stackLimits_setFrames]; rfl
  · rw [State.stackBytes_setFrames]; rfl
  · refine ⟨?_, Nat.le_refl _, Nat.le_refl _, ?_, ?_, fun a c9 h9 => ⟨c9, h9, rfl, rfl, fun _ _ => rfl⟩⟩
    · obtain ⟨t, ht, -⟩ := State.frames_cons hr
      show T.setVm s.vm = { ((T.setVm s.vm).setFrames (.invoking m args :: below)).setFrames (T.setVm s.vm).frames with heap := T.heap, slotsUsed := T.slotsUsed }
      rw [State.setFrames_setFrames, State.setFrames_self ht]
      rfl
    · show T.slotsUsed = T.slotsUsed + ((T.heap.toList.drop T.heap.size).map (·.slots.size)).sum
      rw [List.drop_eq_nil_of_le (Nat.le_of_eq Array.length_toList)]
      rfl
    · show ((T.heap.toList.drop T.heap.size).map (·.slots.size)).sum ≤ 0
      rw [List.drop_eq_nil_of_le (Nat.le_of_eq Array.length_toList)]
      exact Nat.le_refl _
/-- 'throw new E()': new; dup; invokespecial; athrow -/
theorem vx_throw0 {cc : ByteArray} {pc : Nat} (hexec : p.tables.exec = Jvm.exec) (hb : c.code = cc) (hl : l.stackTraces = false) {own cls : String} {names : List String} {ik ic mc ms : Nat} {A : Nat → Prop}
    (hown : s.vm.findClass own = some m.cls) (hcls : Bundle.fit cls = true) (hnames : ∀ n ∈ names, Bundle.fit n = true)
    (hk : (Cond.classLink own ik cls).before args s = true) (hini : (Cond.initialized cls).before args s = true) (hat : ∀ w ∈ vx_at0 own ic cls names, w.before args s = true)
    (hgood : ∀ w ∈ Cond.classLink own ik cls :: Cond.initialized cls :: vx_at0 own ic cls names, vx_ot w = true)
    (hU : vx_Zq Bundle.tN "UNASSIGNED_STACK" Bundle.steD A s s.heap) (hN : vx_Zq Bundle.tN "SUPPRESSED_SENTINEL" Bundle.listD A s s.heap) (hS : va_S A s.heap H locs) (hsize : ls.size = c.maxLocals)
    (d0 : decode cc pc = .ok (.new ik, 3)) (d3 : decode cc (pc + 3) = .ok (.dup, 1)) (d4 : decode cc (pc + 4) = .ok (.invokespecial ic, 3)) (d7 : decode cc (pc + 7) = .ok (.athrow, 1))
    (hout : ∀ x ∈ c.exceptionTable.toList, covers x (pc + 7) = false)
    (hRframes : names.length + 3 < R.frames) (hRlocals : (rest.map fun v => v.category).sum + (13 * (names.length + 1) + 42) ≤ R.locals) (hRcells : cells + 1 ≤ R.cells) (hRslots : slots + 6 ≤ R.slots) (hlocks : meth.locks = false)
    (hx : ∀ t : State, s.vm.Alike t.vm → H.size ≤ t.heap.size → (∀ q : Nat, q < H.size → t.heap[q]? = H[q]?) → XC cls s t)
    (hf : ∀ z ∈ locs, free z.base) (hc : cells + 1 ≤ mc) (hs : slots + 6 ≤ ms) :
    W p l e R s m args below meth c H locs cells slots (vx_MQ below Qc XC args s mc ms free) (F0 m pc ls rest) := by
  intro T hT X
  have htr : e.platform.stackTraces = false := (show e.platform.stackTraces = l.stackTraces by rw [X.admits.platform]).trans hl
  have Y := vx_rebase X (R' := { frames := R.frames, locals := R.locals, cells := 1, slots := 6 }) (Nat.le_refl _) (Nat.le_refl _) hRcells hRslots
  obtain ⟨s', hA⟩ : ∃ z, z = (T.setVm s.vm).setFrames (.invoking m args :: below) := ⟨_, rfl⟩
  rw [← hA] at Y
  have hvm : s'.vm = s.vm := by rw [hA]; rfl
  have hhp : s'.heap = H := by rw [hA]; exact hT
  have hW0 : s.WarmedH s'.vm := by rw [hvm]; exact State.WarmedH.refl s
  have hat' : ∀ w ∈ vx_at0 own ic cls names, w.before args s' = true := fun w hw => vx_ot_at hW0 hvm.symm (hgood w (List.mem_cons_of_mem _ (List.mem_cons_of_mem _ hw))) (hat w hw)
  have hk' : (Cond.classLink own ik cls).before args s' = true := vx_ot_at hW0 hvm.symm (hgood _ List.mem_cons_self) hk
  have hini' : (Cond.initialized cls).before args s' = true := vx_ot_at hW0 hvm.symm (hgood _ (List.mem_cons_of_mem _ List.mem_cons_self)) hini
  have hU' : vx_Zq Bundle.tN "UNASSIGNED_STACK" Bundle.steD A s' s'.heap := by rw [hhp]; exact vx_Zq.moved hW0.alike (hU.kept hS.2.1)
  have hN' : vx_Zq Bundle.tN "SUPPRESSED_SENTINEL" Bundle.listD A s' s'.heap := by rw [hhp]; exact vx_Zq.moved hW0.alike (hN.kept hS.2.1)
  have h : ∀ w ∈ Bundle.ownAtoms0 own ic cls names, w.before args s' = true := vx_own hat' (vx_isRefq hU'.1) (vx_isRefq hN'.1) hU'.2.word hN'.2.word
  have hown' : s'.vm.findClass own = some m.cls := by rw [hvm]; exact hown
  have hins : (Cond.instantiable cls 6).before args s' = true := h _ (by simp [Bundle.ownAtoms0])
  obtain ⟨vm₁, cX, kX, hfX, hkX, -, -, X₁, st1⟩ := Y.newCold hexec (own := own) (C := cls) (index := ik) (n := 6) hown' hk' hins hini'
    (g := F0 m pc ls rest) rfl (by rw [hb]; exact d0) (Nat.le_refl _) (Nat.le_refl _)
  generalize hT1 : (T.setVm vm₁).pushCell { cls := cX, slots := kX.instanceTypes.map defaultValue, vm := .none } = T1 at X₁ st1
  have hcat : (Value.ref T.heap.size).category = 1 := rfl
  have hcellA : T1.heap[T.heap.size]? = some (freshCell cX kX) := by rw [← hT1]; exact State.heap_pushCell_size _ _
  have d3' : decode c.code (pc + 3) = .ok (.dup, 1) := by rw [hb]; exact d3
  obtain ⟨U, hsteps, hrun, hend, hW, hsame, ce, hce, hO⟩ := X₁.ctorThrow0 hexec htr (own := own) (cls := cls) (names := names) (ic := ic) hown' hcls hnames h (fun x hx => nomatch hx) hfX hkX hcellA (by rw [hhp, hT]; exact Nat.le_refl _)
    (g := { method := m, pc := pc + 4, locals := ls, stack := .ref T.heap.size :: .ref T.heap.size :: rest, locked := none }) rfl hsize rfl rfl (rest := rest) rfl
    (by rw [hb]; exact d4) (by rw [hb]; exact d7) hout hRframes (by simp only [List.map_cons, List.sum_cons, hcat]; omega) hlocks
  obtain ⟨f1, f2⟩ := vx_frame hsame
  rw [hhp] at f1 f2
  have hWs : s.WarmedH U.vm := State.WarmedH.trans hW0 hW
  have hcl : s.vm.findClass cls = some ce.cls := by
    have h9 := hO.cls
    rw [hvm] at h9
    exact h9
  have hall : s.sameButNew ({ U with vm := s.vm } : State) locs mc ms := by
    subst hA
    obtain ⟨e1, e2⟩ := hsame
    rw [State.setFrames_setFrames] at e1
    have h2 : (T.setVm s.vm).sameButNew ({ U with vm := s.vm } : State) [] (0 + 1) (0 + 6) := ⟨e1, e2⟩
    have h3 := X.same.trans h2
    rw [List.append_nil] at h3
    exact h3.mono hc hs
  refine ⟨U, ?_, .threw T.heap.size, hrun, hend, Or.inr ⟨T.heap.size, rfl, cls, ce, locs, hx U hWs.alike f1 (fun q hq => f2 q hq (fun z hz => nomatch hz)), hce, hO.vm, hcl, hWs, hall, hf⟩⟩
  refine st1 _ ?_
  show Steps p.tables e below (T1.setTop { method := m, pc := pc + 3, locals := ls, stack := .ref T.heap.size :: rest, locked := none }) _
  jvm_step X₁.here [X₁.here.top, hexec, d3', Value.category]
  exact hsteps
/-- 'throw new E("text")': new; dup; ldc; invokespecial; athrow -/
theorem vx_throwS {cc : ByteArray} {pc : Nat} (hexec : p.tables.exec = Jvm.exec) (hb : c.code = cc) (hl : l.stackTraces = false) {own cls text : String} {names : List String} {ik is ic mc ms sa : Nat} {A : Nat → Prop}
    (hown : s.vm.findClass own = some m.cls) (hcls : Bundle.fit cls = true) (hnames : ∀ n ∈ names, Bundle.fit n = true)
    (hk : (Cond.classLink own ik cls).before args s = true) (hini : (Cond.initialized cls).before args s = true) (hstr : vk_R own is text sa s) (hat : ∀ w ∈ vx_atS own ic cls names, w.before args s = true)
    (hgood : ∀ w ∈ Cond.classLink own ik cls :: Cond.initialized cls :: vx_atS own ic cls names, vx_ot w = true)
    (hU : vx_Zq Bundle.tN "UNASSIGNED_STACK" Bundle.steD A s s.heap) (hN : vx_Zq Bundle.tN "SUPPRESSED_SENTINEL" Bundle.listD A s s.heap) (hS : va_S A s.heap H locs) (hsize : ls.size = c.maxLocals)
    (d0 : decode cc pc = .ok (.new ik, 3)) (d3 : decode cc (pc + 3) = .ok (.dup, 1)) (d4 : decode cc (pc + 4) = .ok (.ldc is, 2)) (d6 : decode cc (pc + 6) = .ok (.invokespecial ic, 3)) (d9 : decode cc (pc + 9) = .ok (.athrow, 1))
    (hout : ∀ x ∈ c.exceptionTable.toList, covers x (pc + 9) = false)
    (hRframes : names.length + 3 < R.frames) (hRlocals : (rest.map fun v => v.category).sum + (13 * (names.length + 1) + 43) ≤ R.locals) (hRcells : cells + 1 ≤ R.cells) (hRslots : slots + 6 ≤ R.slots) (hlocks : meth.locks = false)
    (hx : ∀ t : State, s.vm.Alike t.vm → H.size ≤ t.heap.size → (∀ q : Nat, q < H.size → t.heap[q]? = H[q]?) → XC cls s t)
    (hf : ∀ z ∈ locs, free z.base) (hc : cells + 1 ≤ mc) (hs : slots + 6 ≤ ms) :
    W p l e R s m args below meth c H locs cells slots (vx_MQ below Qc XC args s mc ms free) (F0 m pc ls rest) := by
  intro T hT X
  have htr : e.platform.stackTraces = false := (show e.platform.stackTraces = l.stackTraces by rw [X.admits.platform]).trans hl
  have Y := vx_rebase X (R' := { frames := R.frames, locals := R.locals, cells := 1, slots := 6 }) (Nat.le_refl _) (Nat.le_refl _) hRcells hRslots
  obtain ⟨s', hA⟩ : ∃ z, z = (T.setVm s.vm).setFrames (.invoking m args :: below) := ⟨_, rfl⟩
  rw [← hA] at Y
  have hvm : s'.vm = s.vm := by rw [hA]; rfl
  have hhp : s'.heap = H := by rw [hA]; exact hT
  have hW0 : s.WarmedH s'.vm := by rw [hvm]; exact State.WarmedH.refl s
  have hat' : ∀ w ∈ vx_atS own ic cls names, w.before args s' = true := fun w hw => vx_ot_at hW0 hvm.symm (hgood w (List.mem_cons_of_mem _ (List.mem_cons_of_mem _ hw))) (hat w hw)
  have hk' : (Cond.classLink own ik cls).before args s' = true := vx_ot_at hW0 hvm.symm (hgood _ List.mem_cons_self) hk
  have hini' : (Cond.initialized cls).before args s' = true := vx_ot_at hW0 hvm.symm (hgood _ (List.mem_cons_of_mem _ List.mem_cons_self)) hini
  have hU' : vx_Zq Bundle.tN "UNASSIGNED_STACK" Bundle.steD A s' s'.heap := by rw [hhp]; exact vx_Zq.moved hW0.alike (hU.kept hS.2.1)
  have hN' : vx_Zq Bundle.tN "SUPPRESSED_SENTINEL" Bundle.listD A s' s'.heap := by rw [hhp]; exact vx_Zq.moved hW0.alike (hN.kept hS.2.1)
  have h : ∀ w ∈ Bundle.ownAtoms own ic cls names, w.before args s' = true := vx_own hat' (vx_isRefq hU'.1) (vx_isRefq hN'.1) hU'.2.word hN'.2.word
  have hown' : s'.vm.findClass own = some m.cls := by rw [hvm]; exact hown
  have hins : (Cond.instantiable cls 6).before args s' = true := h _ (by simp [Bundle.ownAtoms])
  obtain ⟨vm₁, cX, kX, hfX, hkX, -, -, X₁, st1⟩ := Y.newCold hexec (own := own) (C := cls) (index := ik) (n := 6) hown' hk' hins hini'
    (g := F0 m pc ls rest) rfl (by rw [hb]; exact d0) (Nat.le_refl _) (Nat.le_refl _)
  generalize hT1 : (T.setVm vm₁).pushCell { cls := cX, slots := kX.instanceTypes.map defaultValue, vm := .none } = T1 at X₁ st1
  have hcat : (Value.ref T.heap.size).category = 1 := rfl
  have hcellA : T1.heap[T.heap.size]? = some (freshCell cX kX) := by rw [← hT1]; exact State.heap_pushCell_size _ _
  have d3' : decode c.code (pc + 3) = .ok (.dup, 1) := by rw [hb]; exact d3
  have d4' : decode c.code (pc + 4) = .ok (.ldc is, 2) := by rw [hb]; exact d4
  have hstr' : vk_R own is text sa s' := vk_R.warm hW0 hstr
  obtain ⟨U, hsteps, hrun, hend, hW, hsame, ce, hce, hO⟩ := X₁.ctorThrowS hexec htr (own := own) (cls := cls) (names := names) (ic := ic) hown' hcls hnames h (fun x hx => nomatch hx) hfX hkX hcellA (by rw [hhp, hT]; exact Nat.le_refl _) (msg := .ref sa) rfl
    (g := { method := m, pc := pc + 6, locals := ls, stack := .ref sa :: .ref T.heap.size :: .ref T.heap.size :: rest, locked := none }) rfl hsize rfl rfl (rest := rest) rfl
    (by rw [hb]; exact d6) (by rw [hb]; exact d9) hout hRframes (by simp only [List.map_cons, List.sum_cons, hcat]; omega) hlocks
  obtain ⟨f1, f2⟩ := vx_frame hsame
  rw [hhp] at f1 f2
  have hWs : s.WarmedH U.vm := State.WarmedH.trans hW0 hW
  have hcl : s.vm.findClass cls = some ce.cls := by
    have h9 := hO.cls
    rw [hvm] at h9
    exact h9
  have hall : s.sameButNew ({ U with vm := s.vm } : State) locs mc ms := by
    subst hA
    obtain ⟨e1, e2⟩ := hsame
    rw [State.setFrames_setFrames] at e1
    have h2 : (T.setVm s.vm).sameButNew ({ U with vm := s.vm } : State) [] (0 + 1) (0 + 6) := ⟨e1, e2⟩
    have h3 := X.same.trans h2
    rw [List.append_nil] at h3
    exact h3.mono hc hs
  refine ⟨U, ?_, .threw T.heap.size, hrun, hend, Or.inr ⟨T.heap.size, rfl, cls, ce, locs, hx U hWs.alike f1 (fun q hq => f2 q hq (fun z hz => nomatch hz)), hce, hO.vm, hcl, hWs, hall, hf⟩⟩
  refine st1 _ ?_
  show Steps p.tables e below (T1.setTop { method := m, pc := pc + 3, locals := ls, stack := .ref T.heap.size :: rest, locked := none }) _
  jvm_step X₁.here [X₁.here.top, hexec, d3', Value.category]
  exact X₁.ldcString hexec (own := own) (text := text) (index := is) (a := sa) hown' hstr'.1 hstr'.2
    (g := { method := m, pc := pc + 4, locals := ls, stack := .ref T.heap.size :: .ref T.heap.size :: rest, locked := none }) rfl d4' _ hsteps
/-- 'throw new E("text")', the text by a wide index -/
theorem vx_throwSW {cc : ByteArray} {pc : Nat} (hexec : p.tables.exec = Jvm.exec) (hb : c.code = cc) (hl : l.stackTraces = false) {own cls text : String} {names : List String} {ik is ic mc ms sa : Nat} {A : Nat → Prop}
    (hown : s.vm.findClass own = some m.cls) (hcls : Bundle.fit cls = true) (hnames : ∀ n ∈ names, Bundle.fit n = true)
    (hk : (Cond.classLink own ik cls).before args s = true) (hini : (Cond.initialized cls).before args s = true) (hstr : vk_R own is text sa s) (hat : ∀ w ∈ vx_atS own ic cls names, w.before args s = true)
    (hgood : ∀ w ∈ Cond.classLink own ik cls :: Cond.initialized cls :: vx_atS own ic cls names, vx_ot w = true)
    (hU : vx_Zq Bundle.tN "UNASSIGNED_STACK" Bundle.steD A s s.heap) (hN : vx_Zq Bundle.tN "SUPPRESSED_SENTINEL" Bundle.listD A s s.heap) (hS : va_S A s.heap H locs) (hsize : ls.size = c.maxLocals)
    (d0 : decode cc pc = .ok (.new ik, 3)) (d3 : decode cc (pc + 3) = .ok (.dup, 1)) (d4 : decode cc (pc + 4) = .ok (.ldc_w is, 3)) (d7 : decode cc (pc + 7) = .ok (.invokespecial ic, 3)) (d10 : decode cc (pc + 10) = .ok (.athrow, 1))
    (hout : ∀ x ∈ c.exceptionTable.toList, covers x (pc + 10) = false)
    (hRframes : names.length + 3 < R.frames) (hRlocals : (rest.map fun v => v.category).sum + (13 * (names.length + 1) + 43) ≤ R.locals) (hRcells : cells + 1 ≤ R.cells) (hRslots : slots + 6 ≤ R.slots) (hlocks : meth.locks = false)
    (hx : ∀ t : State, s.vm.Alike t.vm → H.size ≤ t.heap.size → (∀ q : Nat, q < H.size → t.heap[q]? = H[q]?) → XC cls s t)
    (hf : ∀ z ∈ locs, free z.base) (hc : cells + 1 ≤ mc) (hs : slots + 6 ≤ ms) :
    W p l e R s m args below meth c H locs cells slots (vx_MQ below Qc XC args s mc ms free) (F0 m pc ls rest) := by
  intro T hT X
  have htr : e.platform.stackTraces = false := (show e.platform.stackTraces = l.stackTraces by rw [X.admits.platform]).trans hl
  have Y := vx_rebase X (R' := { frames := R.frames, locals := R.locals, cells := 1, slots := 6 }) (Nat.le_refl _) (Nat.le_refl _) hRcells hRslots
  obtain ⟨s', hA⟩ : ∃ z, z = (T.setVm s.vm).setFrames (.invoking m args :: below) := ⟨_, rfl⟩
  rw [← hA] at Y
  have hvm : s'.vm = s.vm := by rw [hA]; rfl
  have hhp : s'.heap = H := by rw [hA]; exact hT
  have hW0 : s.WarmedH s'.vm := by rw [hvm]; exact State.WarmedH.refl s
  have hat' : ∀ w ∈ vx_atS own ic cls names, w.before args s' = true := fun w hw => vx_ot_at hW0 hvm.symm (hgood w (List.mem_cons_of_mem _ (List.mem_cons_of_mem _ hw))) (hat w hw)
  have hk' : (Cond.classLink own ik cls).before args s' = true := vx_ot_at hW0 hvm.symm (hgood _ List.mem_cons_self) hk
  have hini' : (Cond.initialized cls).before args s' = true := vx_ot_at hW0 hvm.symm (hgood _ (List.mem_cons_of_mem _ List.mem_cons_self)) hini
  have hU' : vx_Zq Bundle.tN "UNASSIGNED_STACK" Bundle.steD A s' s'.heap := by rw [hhp]; exact vx_Zq.moved hW0.alike (hU.kept hS.2.1)
  have hN' : vx_Zq Bundle.tN "SUPPRESSED_SENTINEL" Bundle.listD A s' s'.heap := by rw [hhp]; exact vx_Zq.moved hW0.alike (hN.kept hS.2.1)
  have h : ∀ w ∈ Bundle.ownAtoms own ic cls names, w.before args s' = true := vx_own hat' (vx_isRefq hU'.1) (vx_isRefq hN'.1) hU'.2.word hN'.2.word
  have hown' : s'.vm.findClass own = some m.cls := by rw [hvm]; exact hown
  have hins : (Cond.instantiable cls 6).before args s' = true := h _ (by simp [Bundle.ownAtoms])
  obtain ⟨vm₁, cX, kX, hfX, hkX, -, -, X₁, st1⟩ := Y.newCold hexec (own := own) (C := cls) (index := ik) (n := 6) hown' hk' hins hini'
    (g := F0 m pc ls rest) rfl (by rw [hb]; exact d0) (Nat.le_refl _) (Nat.le_refl _)
  generalize hT1 : (T.setVm vm₁).pushCell { cls := cX, slots := kX.instanceTypes.map defaultValue, vm := .none } = T1 at X₁ st1
  have hcat : (Value.ref T.heap.size).category = 1 := rfl
  have hcellA : T1.heap[T.heap.size]? = some (freshCell cX kX) := by rw [← hT1]; exact State.heap_pushCell_size _ _
  have d3' : decode c.code (pc + 3) = .ok (.dup, 1) := by rw [hb]; exact d3
  have d4' : decode c.code (pc + 4) = .ok (.ldc_w is, 3) := by rw [hb]; exact d4
  have hstr' : vk_R own is text sa s' := vk_R.warm hW0 hstr
  obtain ⟨U, hsteps, hrun, hend, hW, hsame, ce, hce, hO⟩ := X₁.ctorThrowS hexec htr (own := own) (cls := cls) (names := names) (ic := ic) hown' hcls hnames h (fun x hx => nomatch hx) hfX hkX hcellA (by rw [hhp, hT]; exact Nat.le_refl _) (msg := .ref sa) rfl
    (g := { method := m, pc := pc + 7, locals := ls, stack := .ref sa :: .ref T.heap.size :: .ref T.heap.size :: rest, locked := none }) rfl hsize rfl rfl (rest := rest) rfl
    (by rw [hb]; exact d7) (by rw [hb]; exact d10) hout hRframes (by simp only [List.map_cons, List.sum_cons, hcat]; omega) hlocks
  obtain ⟨f1, f2⟩ := vx_frame hsame
  rw [hhp] at f1 f2
  have hWs : s.WarmedH U.vm := State.WarmedH.trans hW0 hW
  have hcl : s.vm.findClass cls = some ce.cls := by
    have h9 := hO.cls
    rw [hvm] at h9
    exact h9
  have hall : s.sameButNew ({ U with vm := s.vm } : State) locs mc ms := by
    subst hA
    obtain ⟨e1, e2⟩ := hsame
    rw [State.setFrames_setFrames] at e1
    have h2 : (T.setVm s.vm).sameButNew ({ U with vm := s.vm } : State) [] (0 + 1) (0 + 6) := ⟨e1, e2⟩
    have h3 := X.same.trans h2
    rw [List.append_nil] at h3
    exact h3.mono hc hs
  refine ⟨U, ?_, .threw T.heap.size, hrun, hend, Or.inr ⟨T.heap.size, rfl, cls, ce, locs, hx U hWs.alike f1 (fun q hq => f2 q hq (fun z hz => nomatch hz)), hce, hO.vm, hcl, hWs, hall, hf⟩⟩
  refine st1 _ ?_
  show Steps p.tables e below (T1.setTop { method := m, pc := pc + 3, locals := ls, stack := .ref T.heap.size :: rest, locked := none }) _
  jvm_step X₁.here [X₁.here.top, hexec, d3', Value.category]
  exact X₁.ldcStringW hexec (own := own) (text := text) (index := is) (a := sa) hown' hstr'.1 hstr'.2
    (g := { method := m, pc := pc + 4, locals := ls, stack := .ref T.heap.size :: .ref T.heap.size :: rest, locked := none }) rfl d4' _ hsteps
end Ends
section Bodies
variable {l : Launch}
theorem vx_ofW {y : MethodName} {ws ws' : List Cond} {rm : Room} {Pc : Array Value → State → Prop} {Qc : Array Value → State → Outcome → State → Prop} {XC : String → State → State → Prop} {mc ms : Nat} {free : Addr → Prop} {cc : ByteArray} {maxL : Nat} {ret : Option FieldType}
    (hy : plainName y.cls = true) (hw : ws = Cond.code y cc maxL ret :: ws')
    (body : ∀ p e s m args below meth c s₁, BodyLoose p l y (headSpec ws rm) cc maxL ret e s m args below meth c s₁ → c.maxLocals = maxL → (∀ x ∈ c.exceptionTable.toList, False) → Pc args s →
      W p l e (headSpec ws rm).room s m args below meth c s.heap [] 0 0 (vx_MQ below Qc XC args s mc ms free) (entryFrame m args maxL)) : vx_Met l y ws rm Pc Qc XC mc ms free := by
  refine MetFree.of_bodyS (code := cc) (maxLocals := maxL) (ret := ret) hy ?_ ?_
  · intro args s m h hn
    obtain ⟨meth, c, h1, h2, h3, h4, h5, h6, -, -⟩ := Cond.code_spec hn (atoms_spec (ws := ws) h _ (by rw [hw]; exact List.mem_cons_self))
    exact ⟨meth, c, h1, h2, h3, h4, h5, h6⟩
  · intro p e s m args below meth c s₁ B hml hP _
    have hh0 : s₁.heap = s.heap := by rw [B.state]; rfl
    have ht : ∀ x ∈ c.exceptionTable.toList, False := by
      obtain ⟨meth9, c9, h1, h2, -, -, -, -, h7, -⟩ := Cond.code_spec B.named (atoms_spec (ws := ws) B.pre _ (by rw [hw]; exact List.mem_cons_self))
      cases Option.some.inj (h1.symm.trans B.method)
      cases Option.some.inj (h2.symm.trans (Stand.of_body B).code)
      intro x hx
      rw [Array.isEmpty_iff.mp h7] at hx
      cases hx
    obtain ⟨t, a1, o, b1, b2, b3⟩ := body p e s m args below meth c s₁ B hml ht hP s₁ hh0 (Stand.of_body B)
    exact ⟨t, o, a1, b1, b2, b3⟩
/-- the table of a body with handlers -/
theorem vx_table {p : Program} {x y : MethodName} {S : Spec} {cc bytes : ByteArray} {maxL maxL' : Nat} {ret ret' : Option FieldType} {e : Env} {s s₁ : State} {m : MethodId} {args : Array Value} {below : List Frame} {meth : Method} {c : Code} {hh : List (Nat × Nat × Nat × Nat)}
    (B : BodyLoose p l y S cc maxL ret e s m args below meth c s₁) (h : (Cond.codeWith y bytes maxL' ret' hh).before args s = true) : c.exceptionTable.toList = tableOf hh := by
  obtain ⟨m9, meth9, c9, hn9, h1, h2, -, -, h6, -⟩ := Cond.codeWith_spec h
  cases Option.some.inj (hn9.symm.trans B.named)
  cases Option.some.inj (h1.symm.trans B.method)
  cases Option.some.inj (h2.symm.trans (Stand.of_body B).code)
  rw [← h6, table_eq]
end Bodies
end VXA
/-! ===== END ===== -/
/-! ===== BEGIN a static call of a method with an exception table ===== -/
section VXS
variable {p : Program} {l : Launch} {e : Env} {R : Room} {s : State} {m : MethodId} {args : Array Value} {below : List Frame} {meth : Method} {c : Code} {T : State} {H : Heap} {locs : List Loc} {cells slots : Nat}
abbrev vx_CSW (R : Room) (s : State) (args : Array Value) (own : String) (index : Nat) (y : MethodName) (bytes : ByteArray) (maxL : Nat) (ret : Option FieldType) (hh : List (Nat × Nat × Nat × Nat)) (ws : List Cond) (rm : Room) (mc ms n : Nat) : Prop :=
  (rm.cells = mc ∧ rm.slots = ms ∧ rm.frames + 1 ≤ R.frames ∧ 8 + (maxL + 11) + rm.locals ≤ R.locals ∧ (∀ w ∈ ws, ∀ (a' : Array Value) (U : State), s.WarmedH U.vm → w.before a' U = true) ∧ Cond.codeWith y bytes maxL ret hh ∈ ws) ∧
  (Cond.codeWith y bytes maxL ret hh).before args s = true ∧ (Cond.initialized y.cls).before args s = true ∧ (y.cls ≠ "java/lang/invoke/MethodHandle" ∧ y.cls ≠ "java/lang/invoke/VarHandle") ∧
  (∀ sig, parseMethodDescriptor y.desc = some sig → n = sig.parameters.length) ∧ (Cond.methodLink own index y).before args s = true ∧ (Cond.static y).before args s = true
theorem vx_cwSW {own : String} {index maxL mc ms : Nat} {y : MethodName} {bytes : ByteArray} {ret : Option FieldType} {hh : List (Nat × Nat × Nat × Nat)} {Ts ws ws' : List Cond} {rm : Room} (n : Nat) (ht : ∀ w ∈ Ts, w.before args s = true) (hT : GoodIn Ts (va_wsS own index y ws)) (hw : ws = Cond.codeWith y bytes maxL ret hh :: ws') (hrc : rm.cells = mc) (hrs : rm.slots = ms)
    (hd : y.cls ≠ "java/lang/invoke/MethodHandle" ∧ y.cls ≠ "java/lang/invoke/VarHandle" ∧ (parseMethodDescriptor y.desc).map (fun d => d.parameters.length) = some n) (hR : rm.frames + 1 ≤ R.frames ∧ 8 + (maxL + 11) + rm.locals ≤ R.locals) :
    vx_CSW R s args own index y bytes maxL ret hh ws rm mc ms n := by
  have ok : ∀ w ∈ va_wsS own index y ws, w.before args s = true := fun w h => ht w (hT w h).1
  have hG : GoodIn Ts ws := fun w h => hT w (by unfold va_wsS; exact List.mem_append_right _ h)
  have hc : Cond.codeWith y bytes maxL ret hh ∈ ws := by rw [hw]; exact List.mem_cons_self
  refine ⟨⟨hrc, hrs, hR.1, hR.2, pay_in ht hG, hc⟩, ht _ (hG _ hc).1, ok _ (by simp [va_wsS]), ⟨hd.1, hd.2.1⟩, fun sig h => ?_, ok _ (by simp [va_wsS]), ok _ (by simp [va_wsS])⟩
  have h2 := hd.2.2
  rw [h] at h2
  exact (Option.some.inj h2).symm
theorem vx_callSW (X : Stand p l e R s m args below meth c T locs cells slots) (hexec : p.tables.exec = Jvm.exec) {own : String} {index : Nat} {y : MethodName} {bytes : ByteArray} {maxL : Nat} {ret : Option FieldType} {hh : List (Nat × Nat × Nat × Nat)}
    (hown : s.vm.findClass own = some m.cls) (hlink : (Cond.methodLink own index y).before args s = true) (hstat : (Cond.static y).before args s = true) (hinit : (Cond.initialized y.cls).before args s = true)
    (hcode : (Cond.codeWith y bytes maxL ret hh).before args s = true) (hy : y.cls ≠ "java/lang/invoke/MethodHandle" ∧ y.cls ≠ "java/lang/invoke/VarHandle")
    {W9 : Nat} {Pre : Pt → Array Value → Prop} {Post : Pt → Array Value → Option Value → Pt → Prop} (hK : Back l R p e below s args y 3 W9 Pre Post)
    {g : JFrame} (hg : g.method = m) (hsize : g.locals.size = c.maxLocals) {argsL rest : List Value} (hlen : ∀ sig, parseMethodDescriptor y.desc = some sig → argsL.length = sig.parameters.length)
    (hstack : g.stack = argsL.reverse ++ rest) (hW : 2 * g.monitorRoom + (rest.map fun v => v.category).sum ≤ W9) (hdg : decode c.code g.pc = .ok (.invokestatic index, 3))
    (hpre : ∀ vm₁, s.WarmedH vm₁ → Pre ⟨T.setVm vm₁, locs, cells, slots⟩ argsL.toArray) :
    ∃ (v : Option Value) (vm₁ : Vm) (B : Pt), s.WarmedH vm₁ ∧ Stand p l e R s m args below meth c B.U B.locs B.cells B.slots ∧ Post ⟨T.setVm vm₁, locs, cells, slots⟩ argsL.toArray v B ∧
      ∀ target, Steps p.tables e below (B.U.setTop { g with pc := g.pc + 3, stack := v.toList ++ rest }) target → Steps p.tables e below (T.setTop g) target := by
  obtain ⟨mk, methM, cM, hnamed, hmethM, -, -, -, -, -, -, hsigM⟩ := Cond.codeWith_spec hcode
  have hstatic : methM.isStatic = true := Cond.static_spec hnamed hmethM hstat
  obtain ⟨kP, hkP, -⟩ := className_of_methodNamed hnamed
  have hinitP : kP.init = .initialized := Cond.initialized_spec (findClass_of_methodNamed hnamed) hkP hinit
  obtain ⟨vm₁, X₁, hstep₁⟩ := X.invokestatic hexec hown hlink hnamed hmethM hstatic hkP hinitP hy (g := g) hg (argsL := argsL) (rest := rest) (hlen _ hsigM) hstack hdg
  obtain ⟨v, B, X', hpost, hsteps⟩ := hK m meth c ⟨T.setVm vm₁, locs, cells, slots⟩ { g with stack := rest } (.invokestatic index) mk argsL.toArray X₁ hg hsize hdg hW (X₁.named hnamed) (hpre vm₁ X₁.warmed)
  exact ⟨v, vm₁, B, X₁.warmed, X', hpost, fun target h => hstep₁ _ fun acts => by rw [doInvoke_state]; exact hsteps.trans h⟩
theorem vx_runSW {y : MethodName} {bytes cc : ByteArray} {maxL nL mc ms n index : Nat} {ret : Option FieldType} {hh : List (Nat × Nat × Nat × Nat)} {ws : List Cond} {rm : Room} {Pc : Array Value → State → Prop} {Qc : Array Value → State → Outcome → State → Prop} {free : Addr → Prop} {Ts : List Cond} {own : String} {As rest : List Value} {g : JFrame}
    (S : CallFix p m c cc nL s args Ts own) (hM : Met l y ws rm Pc Qc mc ms free) (cw : vx_CSW R s args own index y bytes maxL ret hh ws rm mc ms n) (hp : PreS s H Pc As)
    (hg : g.method = m) (hn : As.length = n) (hsize : g.locals.size = nL) (hstack : g.stack = As.reverse ++ rest) (hW : 2 * g.monitorRoom + (rest.map fun v => v.category).sum ≤ 8) (hdg : decode cc g.pc = .ok (.invokestatic index, 3)) (hf : cells + mc ≤ R.cells ∧ slots + ms ≤ R.slots) :
    va_Run p l e R s m args below meth c H locs cells slots mc ms g rest (Qc As.toArray) (free) := by
  obtain ⟨⟨hrc, hrs, hfr, hlo, hws, hcw⟩, hcode, hini, hy, hlen, hl, hstt⟩ := cw
  have hK : Back l R p e below s args y 3 8 (PreOf R mc ms Pc) (PostOf Qc mc ms free) := va_backW (hh := hh) (bytes := bytes) (maxL := maxL) (ret := ret) hM hp.1 hrc hrs hfr hlo hws hcw (fun a' U hW => word_at hW (Or.inl (by first | rfl | simp [Cond.onTables, Cond.keeps, Cond.steady])) hini)
  obtain ⟨hx, hb, hml, ho, -⟩ := S
  intro T hT X
  obtain ⟨v, vm₁, ⟨U', l2, c2, s2⟩, hW₁, X', ⟨g', mk, t, L, e1, e2, hq, h1, hL, h2, h3⟩, st⟩ := vx_callSW X hx (hh := hh) (bytes := bytes) (maxL := maxL) (ret := ret) ho hl hstt hini hcode hy hK hg (hsize.trans hml.symm) (argsL := As) (rest := rest) (fun sig h => hn.trans (hlen sig h)) hstack hW (by rw [hb]; exact hdg)
    (fun vm₁ hW₁ => ⟨hf.1, hf.2, hp.2 (T.setVm vm₁) hT hW₁⟩)
  dsimp only [Pt.U, Pt.locs, Pt.cells, Pt.slots] at X' e1 e2 h1 h2 h3 st
  subst h1; subst h2; subst h3
  exact ⟨v, (T.setVm vm₁).calling g' mk As.toArray, t, U', L, hT, X', hL, e1, e2, hq, st⟩
/-- not caught here, past rows that name other classes: it goes on to the caller -/
theorem vx_outP {p : Program} {l : Launch} {e : Env} {R : Room} {s : State} {m : MethodId} {args : Array Value} {below : List Frame} {meth : Method} {c : Code} {H : Heap} {locs : List Loc} {cells slots : Nat} {free : Addr → Prop} {ls : Array Slot} {rest : List Value} {Qc : Array Value → State → Outcome → State → Prop} {XC : String → State → State → Prop}
    {pc : Nat} {own E : String} {ce : Cell} {q : Addr} {mc ms : Nat} (hown : s.vm.findClass own = some m.cls) (hlocks : meth.locks = false)
    (hpass : ∀ z ∈ c.exceptionTable.toList, covers z pc = false ∨ (z.catchType ≠ 0 ∧ ∃ nm : String, (Cond.classLink own z.catchType nm).before args s = true ∧ va_Nc E nm s)) (hcell : H[q]? = some ce) (hv : ce.vm = .none) (hcl : s.vm.findClass E = some ce.cls)
    (hx : ∀ t : State, t.heap = H → s.vm.Alike t.vm → XC E s t) (hf : ∀ z ∈ locs, free z.base) (hc : cells ≤ mc) (hs : slots ≤ ms) :
    vx_W p l e R s m args below meth c H locs cells slots (vx_MQ below Qc XC args s mc ms free) (F0 m pc ls rest) q := by
  intro T hT X
  have hpl : e.platform.magicAccessors = ({} : Platform).magicAccessors := by rw [X.admits.platform]
  obtain ⟨vm', hW', X', st⟩ := X.outThrough hlocks q (g := F0 m pc ls rest) rfl rfl rfl (cell := ce) (by rw [hT]; exact hcell) (by rw [hv]; rfl)
    (by obtain ⟨k9, h9, -⟩ := Vm.findClass_spec hcl; exact ⟨k9, h9⟩) (fun z hz => by
      rcases hpass z hz with h | ⟨hz0, nm, hl1, hn1⟩
      · exact Or.inl h
      · obtain ⟨c6, hc6, hcl6⟩ := Cond.classLink_spec hown hl1 e.platform hpl
        obtain ⟨a8, b8, h1, h2, h3⟩ := hn1
        cases Option.some.inj (h1.symm.trans hcl)
        cases Option.some.inj (h2.symm.trans hc6)
        exact Or.inr ⟨hz0, _, hcl6, h3⟩)
  obtain ⟨g₀, hfr⟩ := X'.frames_eq
  have hcell9 : ((T.setVm vm').setFrames (.throwing q :: below)).heap[q]? = some ce := by
    show T.heap[q]? = some ce
    rw [hT]; exact hcell
  have hend : Ended ((T.setVm vm').setFrames (.throwing q :: below)) below (.threw q) := State.frames_setFrames _ (State.cur_lt_of_frames hfr)
  refine ⟨(T.setVm vm').setFrames (.throwing q :: below), ?_, .threw q, X'.here.running, hend, Or.inr ⟨q, rfl, E, ce, locs, hx _ hT (X'.ends _).1.alike, hcell9, hv, hcl, (X'.ends _).1, (X'.ends _).2.mono hc hs, hf⟩⟩
  rw [X.pushThrowing_eq]
  exact st
/-- a thing of a world lies in the heap -/
theorem vx_lt {D : va_G} {cl : List vw_C} {ws : va_W} {H1 : Heap} (h : va_P D cl ws H1) {k : Nat} {q : Nat × va_E} (hk : ws[k]? = some q) : q.1 < H1.size := (h k q hk).lt
end VXS
/-! ===== END ===== -/
/-! ===== BEGIN methods with a table of their own: called by a name, returning or throwing ===== -/
section VXH
/-! vx_backW, vx_callVX, vx_callSX, vx_callVW, vx_runVW, vx_runVX, vx_runSX, vx_ofWH follow the same proofs as their sisters above (Free/Laws.lean, Shelf42/LK1.lean); vx_outP calls Shelf42/NT130.lean (outThrough). -/
section
variable {l : Launch} {R : Room} {p : Program} {e : Env} {below : List Frame} {s : State} {sargs : Array Value} {y : MethodName} {len W9 : Nat}
theorem vx_backW {ws : List Cond} {rm : Room} {Pc : Array Value → State → Prop} {Qc : Array Value → State → Outcome → State → Prop} {XC : String → State → State → Prop} {mc ms : Nat} {free : Addr → Prop} {bytes : ByteArray} {maxL : Nat} {ret : Option FieldType} {hh : List (Nat × Nat × Nat × Nat)}
    (hM : vx_Met l y ws rm Pc Qc XC mc ms free) (hblind : FrameBlind Pc) (hrc : rm.cells = mc) (hrs : rm.slots = ms)
    (hframes : rm.frames + 1 ≤ R.frames) (hlocals : W9 + (maxL + 11) + rm.locals ≤ R.locals)
    (hws : ∀ w ∈ ws, ∀ a' U, s.WarmedH U.vm → w.before a' U = true) (hcode : Cond.codeWith y bytes maxL ret hh ∈ ws) (hinit : ∀ a' U, s.WarmedH U.vm → (Cond.initialized y.cls).before a' U = true) :
    vx_Back l R p e below s sargs y len W9 (PreOf R mc ms Pc) (PostOf Qc mc ms free) (vx_Post XC mc ms free) := by
  intro m meth c A g ig mk a X hg hsize hdg hW hn hp
  have h1 : (headSpec ws rm).pre.before a A.U = true := atoms_intro fun w hw => hws w hw _ _ X.warmed
  have h2 : (Cond.codeWith y bytes maxL ret hh).before a A.U = true := hws _ hcode _ _ X.warmed
  have h3 : (Cond.initialized y.cls).before a A.U = true := hinit _ _ X.warmed
  have h4 : A.cells + (headSpec ws rm).room.cells ≤ R.cells := by rw [show (headSpec ws rm).room.cells = mc from hrc]; exact hp.1
  have h5 : A.slots + (headSpec ws rm).room.slots ≤ R.slots := by rw [show (headSpec ws rm).room.slots = ms from hrs]; exact hp.2.1
  have hPc : Pc a (A.U.calling g mk a) := hblind _ _ _ _ hp.2.2
  obtain ⟨U, Ls, c0, s0⟩ := A
  dsimp only [Pt.U, Pt.locs, Pt.cells, Pt.slots] at h1 h2 h3 h4 h5 X hn hPc ⊢
  obtain ⟨m9, methY, cY, hn9, hmY, hcY, -, hlY, -⟩ := Cond.codeWith_spec h2
  cases Option.some.inj (hn9.symm.trans hn)
  obtain ⟨kY, hkY, -⟩ := className_of_methodNamed hn
  have hinitY : kY.init = .initialized := Cond.initialized_spec (findClass_of_methodNamed hn) hkY h3
  have h : At U g.method c below := by rw [hg]; exact X.here
  have hlocals9 : W9 + (maxL + 11) + (headSpec ws rm).room.locals ≤ R.locals := hlocals
  have happ : (headSpec ws rm).appliesLoose y e.platform (U.calling g mk a) = true :=
    Spec.appliesLoose_calling (g := g) h hdg hn hkY hinitY
      (X.room_calling (g := g) (R' := (headSpec ws rm).room) hsize hmY hcY hframes (by rw [hlY]; omega) h4 h5) h1
  obtain ⟨mid, hmid⟩ := h.above
  have hfr : (U.setTop g).frames = (.java g :: mid) ++ below := by rw [State.frames_setTop' g h.top, hmid]; rfl
  obtain ⟨o, s₂, hsteps, -, hend, hq⟩ := Steps.callFree hM p X.admits X.cas X.clock (acts := []) hfr happ hPc trivial
  have hq' : vx_Q Qc XC mc ms free a (U.calling g mk a) o s₂ := hq
  rw [State.frames_setTop' g h.top] at hend
  obtain ⟨g₀, hg0⟩ := Option.isSome_iff_exists.mp h.top
  obtain ⟨r, hr⟩ := State.topJava?_eq_some.mp hg0
  have hr' : (({ U with heap := s₂.heap, slotsUsed := s₂.slotsUsed } : State).setVm s₂.vm).frames = .java g₀ :: r := hr
  rcases hq' with ⟨hqc, L, hfe, hL⟩ | ⟨q, rfl, E, ce, L, hx, hce, hcv, hcl, hW₂, hsm, hL⟩
  · obtain ⟨⟨v, rfl⟩, hW₂, e2, q2, q3, q4, q5, q6⟩ := id hfe
    have e3 : s₂ = ({ (U.calling g mk a).setFrames s₂.frames with heap := s₂.heap, slotsUsed := s₂.slotsUsed } : State).setVm s₂.vm := by
      have : s₂ = ({ s₂ with vm := (U.calling g mk a).vm } : State).setVm s₂.vm := rfl
      rw [e2] at this
      exact this
    obtain ⟨c₂, i₂, len₂, hc₂, hd₂, hf₂⟩ := hend
    have hW' : U.WarmedH s₂.vm := hW₂
    have hcc : c₂ = c := by
      have h1 : s₂.code? g.method = U.code? g.method := by
        rw [State.code?_eq, State.code?_eq, hW'.alike.method?]
      exact Option.some.inj (hc₂.symm.trans (h1.trans h.code))
    subst hcc
    have hlen : len₂ = len := by rw [hdg] at hd₂; cases hd₂; rfl
    subst hlen
    have hs₂ : s₂ = (({ U with heap := s₂.heap, slotsUsed := s₂.slotsUsed } : State).setVm s₂.vm).setTop { g with pc := g.pc + len₂, stack := v.toList ++ g.stack } := by
      refine e3.trans ?_
      rw [hf₂, State.calling_eq h.top, State.setFrames_setFrames, State.setTop_of_frames _ hr', hr]
      rfl
    have hsame : U.sameButNew ({ U with heap := s₂.heap, slotsUsed := s₂.slotsUsed } : State) L mc ms := by
      refine ⟨?_, q2, q3, q4, q5, q6⟩
      obtain ⟨t, ht, -⟩ := State.frames_cons hr
      show ({ U with heap := s₂.heap, slotsUsed := s₂.slotsUsed } : State) = { U.setFrames U.frames with heap := s₂.heap, slotsUsed := s₂.slotsUsed }
      rw [State.setFrames_self ht]
    subst hg
    refine Or.inl ⟨v, ⟨(({ U with heap := s₂.heap, slotsUsed := s₂.slotsUsed } : State).setVm s₂.vm), Ls ++ L, c0 + mc, s0 + ms⟩,
      ⟨X.admits, X.cas, X.clock, X.frames, X.room, X.hears, X.method, X.code, (X.here.setHeapUsed s₂.heap s₂.slotsUsed).setVm hW'.alike, X.tail, State.WarmedH.trans X.warmed hW', X.limits, X.bytes, X.same.trans (hsame.setVm s.vm)⟩,
      ⟨g, mk, s₂, L, rfl, rfl, hqc, rfl, hL, rfl, rfl⟩, ?_⟩
    show Steps p.tables e below _ ((({ U with heap := s₂.heap, slotsUsed := s₂.slotsUsed } : State).setVm s₂.vm).setTop { g with pc := g.pc + len₂, stack := v.toList ++ g.stack })
    rw [← hs₂]
    exact hsteps
  · obtain ⟨e2, q2, q3, q4, q5, q6⟩ := id hsm
    have e3 : s₂ = ({ (U.calling g mk a).setFrames s₂.frames with heap := s₂.heap, slotsUsed := s₂.slotsUsed } : State).setVm s₂.vm := by
      have : s₂ = ({ s₂ with vm := (U.calling g mk a).vm } : State).setVm s₂.vm := rfl
      rw [e2] at this
      exact this
    have hf₂ : s₂.frames = .throwing q :: .java g :: U.frames.tail := hend
    have hW' : U.WarmedH s₂.vm := hW₂
    have hs₂ : s₂ = ((({ U with heap := s₂.heap, slotsUsed := s₂.slotsUsed } : State).setVm s₂.vm).setTop g).pushFrame (.throwing q) := by
      refine e3.trans ?_
      rw [hf₂, State.calling_eq h.top, State.setFrames_setFrames, State.pushFrame, State.frames_setTop _ hr', State.setTop_of_frames _ hr', State.setFrames_setFrames, hr]
      rfl
    have hsame : U.sameButNew ({ U with heap := s₂.heap, slotsUsed := s₂.slotsUsed } : State) L mc ms := by
      refine ⟨?_, q2, q3, q4, q5, q6⟩
      obtain ⟨t, ht, -⟩ := State.frames_cons hr
      show ({ U with heap := s₂.heap, slotsUsed := s₂.slotsUsed } : State) = { U.setFrames U.frames with heap := s₂.heap, slotsUsed := s₂.slotsUsed }
      rw [State.setFrames_self ht]
    subst hg
    refine Or.inr ⟨q, ⟨(({ U with heap := s₂.heap, slotsUsed := s₂.slotsUsed } : State).setVm s₂.vm), Ls ++ L, c0 + mc, s0 + ms⟩,
      ⟨X.admits, X.cas, X.clock, X.frames, X.room, X.hears, X.method, X.code, (X.here.setHeapUsed s₂.heap s₂.slotsUsed).setVm hW'.alike, X.tail, State.WarmedH.trans X.warmed hW', X.limits, X.bytes, X.same.trans (hsame.setVm s.vm)⟩,
      ⟨g, mk, s₂, L, E, ce, rfl, rfl, hx, hce, hcv, hcl, rfl, hL, rfl, rfl⟩, ?_⟩
    show Steps p.tables e below _ (((({ U with heap := s₂.heap, slotsUsed := s₂.slotsUsed } : State).setVm s₂.vm).setTop g).pushFrame (.throwing q))
    rw [← hs₂]
    exact hsteps
end
variable {p : Program} {l : Launch} {e : Env} {R : Room} {s : State} {m : MethodId} {args : Array Value} {below : List Frame} {meth : Method} {c : Code} {T : State} {H : Heap} {locs : List Loc} {cells slots : Nat}
theorem vx_callVX (X : Stand p l e R s m args below meth c T locs cells slots) (hexec : p.tables.exec = Jvm.exec) {own C : String} {index : Nat} {y : MethodName} {bytes : ByteArray} {maxL : Nat} {ret : Option FieldType} {hh : List (Nat × Nat × Nat × Nat)}
    (hown : s.vm.findClass own = some m.cls) (hlink : (Cond.methodLink own index y).before args s = true) (hinst : (Cond.instanceMethod y).before args s = true) (hsel : (Cond.selects C y y).before args s = true)
    (hcode : (Cond.codeWith y bytes maxL ret hh).before args s = true) (hy : y.cls ≠ "java/lang/invoke/MethodHandle" ∧ y.cls ≠ "java/lang/invoke/VarHandle")
    {W9 : Nat} {Pre : Pt → Array Value → Prop} {Post : Pt → Array Value → Option Value → Pt → Prop} {PostX : Pt → Array Value → Addr → Pt → Prop} (hK : vx_Back l R p e below s args y 3 W9 Pre Post PostX)
    {b : Addr} {cellB : Cell} (hcell : T.heap[b]? = some cellB) (hobj : cellB.vm.isStatics = false) (hcls : s.vm.findClass C = some cellB.cls)
    {g : JFrame} (hg : g.method = m) (hsize : g.locals.size = c.maxLocals) {argsL rest : List Value} (hlen : ∀ sig, parseMethodDescriptor y.desc = some sig → argsL.length = sig.parameters.length)
    (hstack : g.stack = argsL.reverse ++ .ref b :: rest) (hW : 2 * g.monitorRoom + (rest.map fun v => v.category).sum ≤ W9) (hdg : decode c.code g.pc = .ok (.invokevirtual index, 3))
    (hpre : ∀ vm₁, s.WarmedH vm₁ → Pre ⟨T.setVm vm₁, locs, cells, slots⟩ (Value.ref b :: argsL).toArray) :
    (∃ (v : Option Value) (vm₁ : Vm) (B : Pt), s.WarmedH vm₁ ∧ Stand p l e R s m args below meth c B.U B.locs B.cells B.slots ∧ Post ⟨T.setVm vm₁, locs, cells, slots⟩ (Value.ref b :: argsL).toArray v B ∧
      ∀ target, Steps p.tables e below (B.U.setTop { g with pc := g.pc + 3, stack := v.toList ++ rest }) target → Steps p.tables e below (T.setTop g) target) ∨
    (∃ (q : Addr) (vm₁ : Vm) (B : Pt), s.WarmedH vm₁ ∧ Stand p l e R s m args below meth c B.U B.locs B.cells B.slots ∧ PostX ⟨T.setVm vm₁, locs, cells, slots⟩ (Value.ref b :: argsL).toArray q B ∧
      Steps p.tables e below (T.setTop g) ((B.U.setTop { g with stack := rest }).pushFrame (.throwing q))) := by
  obtain ⟨mk, methM, hnamed, hmethM, hstM, habM⟩ := Cond.instanceMethod_spec hinst
  obtain ⟨m8, methM', cM, hn8, hmethM', -, -, -, -, -, -, hsigM⟩ := Cond.codeWith_spec hcode
  cases Option.some.inj (hn8.symm.trans hnamed)
  cases hmethM.symm.trans hmethM'
  obtain ⟨c2, r2, m2, q1, q2, q3, q4, kP, hkP, hkPi⟩ := Cond.selects_spec hsel
  cases hcls.symm.trans q1
  cases (State.methodFound?_of_named hnamed hy).symm.trans q2
  cases hnamed.symm.trans q3
  have hselP : selectMethod e.platform s.vm cellB.cls mk = .method mk := by rw [Launch.admits_selectMethod X.admits]; exact q4
  obtain ⟨vm₁, X₁, hstep₁⟩ := X.invokevirtual hexec hown hlink hnamed hmethM hstM hkP hkPi hy (a := b) (cell := cellB) hcell
    (fun z h => by rw [h] at hobj; cases hobj) hselP hmethM habM hkP hkPi (g := g) hg (argsL := argsL) (rest := rest) (hlen _ hsigM) hstack hdg
  rcases hK m meth c ⟨T.setVm vm₁, locs, cells, slots⟩ { g with stack := rest } (.invokevirtual index) mk (Value.ref b :: argsL).toArray X₁ hg hsize hdg hW (X₁.named hnamed) (hpre vm₁ X₁.warmed) with ⟨v, B, X', hpost, hsteps⟩ | ⟨q, B, X', hpost, hsteps⟩
  · exact Or.inl ⟨v, vm₁, B, X₁.warmed, X', hpost, fun target h => hstep₁ _ fun acts => by rw [doInvoke_state]; exact hsteps.trans h⟩
  · exact Or.inr ⟨q, vm₁, B, X₁.warmed, X', hpost, hstep₁ _ fun acts => by rw [doInvoke_state]; exact hsteps⟩
theorem vx_callSX (X : Stand p l e R s m args below meth c T locs cells slots) (hexec : p.tables.exec = Jvm.exec) {own : String} {index : Nat} {y : MethodName} {bytes : ByteArray} {maxL : Nat} {ret : Option FieldType} {hh : List (Nat × Nat × Nat × Nat)}
    (hown : s.vm.findClass own = some m.cls) (hlink : (Cond.methodLink own index y).before args s = true) (hstat : (Cond.static y).before args s = true) (hinit : (Cond.initialized y.cls).before args s = true)
    (hcode : (Cond.codeWith y bytes maxL ret hh).before args s = true) (hy : y.cls ≠ "java/lang/invoke/MethodHandle" ∧ y.cls ≠ "java/lang/invoke/VarHandle")
    {W9 : Nat} {Pre : Pt → Array Value → Prop} {Post : Pt → Array Value → Option Value → Pt → Prop} {PostX : Pt → Array Value → Addr → Pt → Prop} (hK : vx_Back l R p e below s args y 3 W9 Pre Post PostX)
    {g : JFrame} (hg : g.method = m) (hsize : g.locals.size = c.maxLocals) {argsL rest : List Value} (hlen : ∀ sig, parseMethodDescriptor y.desc = some sig → argsL.length = sig.parameters.length)
    (hstack : g.stack = argsL.reverse ++ rest) (hW : 2 * g.monitorRoom + (rest.map fun v => v.category).sum ≤ W9) (hdg : decode c.code g.pc = .ok (.invokestatic index, 3))
    (hpre : ∀ vm₁, s.WarmedH vm₁ → Pre ⟨T.setVm vm₁, locs, cells, slots⟩ argsL.toArray) :
    (∃ (v : Option Value) (vm₁ : Vm) (B : Pt), s.WarmedH vm₁ ∧ Stand p l e R s m args below meth c B.U B.locs B.cells B.slots ∧ Post ⟨T.setVm vm₁, locs, cells, slots⟩ argsL.toArray v B ∧
      ∀ target, Steps p.tables e below (B.U.setTop { g with pc := g.pc + 3, stack := v.toList ++ rest }) target → Steps p.tables e below (T.setTop g) target) ∨
    (∃ (q : Addr) (vm₁ : Vm) (B : Pt), s.WarmedH vm₁ ∧ Stand p l e R s m args below meth c B.U B.locs B.cells B.slots ∧ PostX ⟨T.setVm vm₁, locs, cells, slots⟩ argsL.toArray q B ∧
      Steps p.tables e below (T.setTop g) ((B.U.setTop { g with stack := rest }).pushFrame (.throwing q))) := by
  obtain ⟨mk, methM, cM, hnamed, hmethM, -, -, -, -, -, -, hsigM⟩ := Cond.codeWith_spec hcode
  have hstatic : methM.isStatic = true := Cond.static_spec hnamed hmethM hstat
  obtain ⟨kP, hkP, -⟩ := className_of_methodNamed hnamed
  have hinitP : kP.init = .initialized := Cond.initialized_spec (findClass_of_methodNamed hnamed) hkP hinit
  obtain ⟨vm₁, X₁, hstep₁⟩ := X.invokestatic hexec hown hlink hnamed hmethM hstatic hkP hinitP hy (g := g) hg (argsL := argsL) (rest := rest) (hlen _ hsigM) hstack hdg
  rcases hK m meth c ⟨T.setVm vm₁, locs, cells, slots⟩ { g with stack := rest } (.invokestatic index) mk argsL.toArray X₁ hg hsize hdg hW (X₁.named hnamed) (hpre vm₁ X₁.warmed) with ⟨v, B, X', hpost, hsteps⟩ | ⟨q, B, X', hpost, hsteps⟩
  · exact Or.inl ⟨v, vm₁, B, X₁.warmed, X', hpost, fun target h => hstep₁ _ fun acts => by rw [doInvoke_state]; exact hsteps.trans h⟩
  · exact Or.inr ⟨q, vm₁, B, X₁.warmed, X', hpost, hstep₁ _ fun acts => by rw [doInvoke_state]; exact hsteps⟩
theorem vx_callVW (X : Stand p l e R s m args below meth c T locs cells slots) (hexec : p.tables.exec = Jvm.exec) {own C : String} {index : Nat} {y : MethodName} {bytes : ByteArray} {maxL : Nat} {ret : Option FieldType} {hh : List (Nat × Nat × Nat × Nat)}
    (hown : s.vm.findClass own = some m.cls) (hlink : (Cond.methodLink own index y).before args s = true) (hinst : (Cond.instanceMethod y).before args s = true) (hsel : (Cond.selects C y y).before args s = true)
    (hcode : (Cond.codeWith y bytes maxL ret hh).before args s = true) (hy : y.cls ≠ "java/lang/invoke/MethodHandle" ∧ y.cls ≠ "java/lang/invoke/VarHandle")
    {W9 : Nat} {Pre : Pt → Array Value → Prop} {Post : Pt → Array Value → Option Value → Pt → Prop} (hK : Back l R p e below s args y 3 W9 Pre Post)
    {b : Addr} {cellB : Cell} (hcell : T.heap[b]? = some cellB) (hobj : cellB.vm.isStatics = false) (hcls : s.vm.findClass C = some cellB.cls)
    {g : JFrame} (hg : g.method = m) (hsize : g.locals.size = c.maxLocals) {argsL rest : List Value} (hlen : ∀ sig, parseMethodDescriptor y.desc = some sig → argsL.length = sig.parameters.length)
    (hstack : g.stack = argsL.reverse ++ .ref b :: rest) (hW : 2 * g.monitorRoom + (rest.map fun v => v.category).sum ≤ W9) (hdg : decode c.code g.pc = .ok (.invokevirtual index, 3))
    (hpre : ∀ vm₁, s.WarmedH vm₁ → Pre ⟨T.setVm vm₁, locs, cells, slots⟩ (Value.ref b :: argsL).toArray) :
    ∃ (v : Option Value) (vm₁ : Vm) (B : Pt), s.WarmedH vm₁ ∧ Stand p l e R s m args below meth c B.U B.locs B.cells B.slots ∧ Post ⟨T.setVm vm₁, locs, cells, slots⟩ (Value.ref b :: argsL).toArray v B ∧
      ∀ target, Steps p.tables e below (B.U.setTop { g with pc := g.pc + 3, stack := v.toList ++ rest }) target → Steps p.tables e below (T.setTop g) target := by
  obtain ⟨mk, methM, hnamed, hmethM, hstM, habM⟩ := Cond.instanceMethod_spec hinst
  obtain ⟨m8, methM', cM, hn8, hmethM', -, -, -, -, -, -, hsigM⟩ := Cond.codeWith_spec hcode
  cases Option.some.inj (hn8.symm.trans hnamed)
  cases hmethM.symm.trans hmethM'
  obtain ⟨c2, r2, m2, q1, q2, q3, q4, kP, hkP, hkPi⟩ := Cond.selects_spec hsel
  cases hcls.symm.trans q1
  cases (State.methodFound?_of_named hnamed hy).symm.trans q2
  cases hnamed.symm.trans q3
  have hselP : selectMethod e.platform s.vm cellB.cls mk = .method mk := by rw [Launch.admits_selectMethod X.admits]; exact q4
  obtain ⟨vm₁, X₁, hstep₁⟩ := X.invokevirtual hexec hown hlink hnamed hmethM hstM hkP hkPi hy (a := b) (cell := cellB) hcell
    (fun z h => by rw [h] at hobj; cases hobj) hselP hmethM habM hkP hkPi (g := g) hg (argsL := argsL) (rest := rest) (hlen _ hsigM) hstack hdg
  obtain ⟨v, B, X', hpost, hsteps⟩ := hK m meth c ⟨T.setVm vm₁, locs, cells, slots⟩ { g with stack := rest } (.invokevirtual index) mk (Value.ref b :: argsL).toArray X₁ hg hsize hdg hW (X₁.named hnamed) (hpre vm₁ X₁.warmed)
  exact ⟨v, vm₁, B, X₁.warmed, X', hpost, fun target h => hstep₁ _ fun acts => by rw [doInvoke_state]; exact hsteps.trans h⟩
abbrev vx_CVW (R : Room) (s : State) (args : Array Value) (own C : String) (index : Nat) (y : MethodName) (bytes : ByteArray) (maxL : Nat) (ret : Option FieldType) (hh : List (Nat × Nat × Nat × Nat)) (ws : List Cond) (rm : Room) (mc ms n : Nat) : Prop :=
  (rm.cells = mc ∧ rm.slots = ms ∧ rm.frames + 1 ≤ R.frames ∧ 8 + (maxL + 11) + rm.locals ≤ R.locals ∧ (∀ w ∈ ws, ∀ (a' : Array Value) (U : State), s.WarmedH U.vm → w.before a' U = true) ∧ Cond.codeWith y bytes maxL ret hh ∈ ws) ∧
  (Cond.codeWith y bytes maxL ret hh).before args s = true ∧ (Cond.initialized y.cls).before args s = true ∧ (y.cls ≠ "java/lang/invoke/MethodHandle" ∧ y.cls ≠ "java/lang/invoke/VarHandle") ∧
  (∀ sig, parseMethodDescriptor y.desc = some sig → n = sig.parameters.length) ∧ (Cond.methodLink own index y).before args s = true ∧ (Cond.instanceMethod y).before args s = true ∧ (Cond.selects C y y).before args s = true
theorem vx_cwVW {own C : String} {index maxL mc ms : Nat} {y : MethodName} {bytes : ByteArray} {ret : Option FieldType} {hh : List (Nat × Nat × Nat × Nat)} {Ts ws ws' : List Cond} {rm : Room} (n : Nat) (ht : ∀ w ∈ Ts, w.before args s = true) (hT : GoodIn Ts (wsV own index C y ws)) (hw : ws = Cond.codeWith y bytes maxL ret hh :: ws') (hrc : rm.cells = mc) (hrs : rm.slots = ms)
    (hd : y.cls = C ∧ y.cls ≠ "java/lang/invoke/MethodHandle" ∧ y.cls ≠ "java/lang/invoke/VarHandle" ∧ (parseMethodDescriptor y.desc).map (fun d => d.parameters.length) = some n) (hR : rm.frames + 1 ≤ R.frames ∧ 8 + (maxL + 11) + rm.locals ≤ R.locals) :
    vx_CVW R s args own C index y bytes maxL ret hh ws rm mc ms n := by
  obtain ⟨hC, hd⟩ := hd
  subst hC
  have ok : ∀ w ∈ wsV own index y.cls y ws, w.before args s = true := fun w h => ht w (hT w h).1
  have hG : GoodIn Ts ws := fun w h => hT w (by unfold wsV; exact List.mem_append_right _ h)
  have hc : Cond.codeWith y bytes maxL ret hh ∈ ws := by rw [hw]; exact List.mem_cons_self
  refine ⟨⟨hrc, hrs, hR.1, hR.2, pay_in ht hG, hc⟩, ht _ (hG _ hc).1, ok _ (by simp [wsV]), ⟨hd.1, hd.2.1⟩, fun sig h => ?_, ok _ (by simp [wsV]), ok _ (by simp [wsV]), ok _ (by simp [wsV])⟩
  have h2 := hd.2.2
  rw [h] at h2
  exact (Option.some.inj h2).symm
theorem vx_runVW {y : MethodName} {bytes cc : ByteArray} {maxL nL mc ms n index : Nat} {ret : Option FieldType} {hh : List (Nat × Nat × Nat × Nat)} {ws : List Cond} {rm : Room} {Pc : Array Value → State → Prop} {Qc : Array Value → State → Outcome → State → Prop} {free : Addr → Prop} {Ts : List Cond} {own C : String} {b : Addr} {As rest : List Value} {g : JFrame}
    (S : CallFix p m c cc nL s args Ts own) (hM : Met l y ws rm Pc Qc mc ms free) (cw : vx_CVW R s args own C index y bytes maxL ret hh ws rm mc ms n) (hp : PreV s H C b Pc As)
    (hg : g.method = m) (hn : As.length = n) (hsize : g.locals.size = nL) (hstack : g.stack = As.reverse ++ .ref b :: rest) (hW : 2 * g.monitorRoom + (rest.map fun v => v.category).sum ≤ 8) (hdg : decode cc g.pc = .ok (.invokevirtual index, 3)) (hf : cells + mc ≤ R.cells ∧ slots + ms ≤ R.slots) :
    va_Run p l e R s m args below meth c H locs cells slots mc ms g rest (Qc (Value.ref b :: As).toArray) free := by
  obtain ⟨⟨hrc, hrs, hfr, hlo, hws, hcw⟩, hcode, hini, hy, hlen, hl, hin, hse⟩ := cw
  have hK : Back l R p e below s args y 3 8 (PreOf R mc ms Pc) (PostOf Qc mc ms free) := va_backW (hh := hh) (bytes := bytes) (maxL := maxL) (ret := ret) hM hp.1 hrc hrs hfr hlo hws hcw (fun a' U hW => word_at hW (Or.inl (by first | rfl | simp [Cond.onTables, Cond.keeps, Cond.steady])) hini)
  obtain ⟨hx, hb, hml, ho, -⟩ := S
  obtain ⟨-, ⟨cellB, hcB, hoB, hclB⟩, hPc⟩ := hp
  intro T hT X
  obtain ⟨v, vm₁, ⟨U', l2, c2, s2⟩, hW₁, X', ⟨g', mk, t, L, e1, e2, hq, h1, hL, h2, h3⟩, st⟩ := vx_callVW X hx (C := C) (hh := hh) (bytes := bytes) (maxL := maxL) (ret := ret) ho hl hin hse hcode hy hK (by rw [hT]; exact hcB) hoB hclB hg (hsize.trans hml.symm) (argsL := As) (rest := rest) (fun sig h => hn.trans (hlen sig h)) hstack hW (by rw [hb]; exact hdg)
    (fun vm₁ hW₁ => ⟨hf.1, hf.2, hPc (T.setVm vm₁) hT hW₁⟩)
  dsimp only [Pt.U, Pt.locs, Pt.cells, Pt.slots] at X' e1 e2 h1 h2 h3 st
  subst h1; subst h2; subst h3
  exact ⟨v, (T.setVm vm₁).calling g' mk (Value.ref b :: As).toArray, t, U', L, hT, X', hL, e1, e2, hq, st⟩
section
variable {y : MethodName} {bytes cc : ByteArray} {maxL nL mc ms n index : Nat} {ret : Option FieldType} {ws : List Cond} {rm : Room} {Pc : Array Value → State → Prop} {Qc : Array Value → State → Outcome → State → Prop} {XC : String → State → State → Prop} {free : Addr → Prop} {Ts : List Cond} {own C : String} {b : Addr} {As rest : List Value} {g : JFrame}
theorem vx_runVX {hh : List (Nat × Nat × Nat × Nat)} (S : CallFix p m c cc nL s args Ts own) (hM : vx_Met l y ws rm Pc Qc XC mc ms free) (cw : vx_CVW R s args own C index y bytes maxL ret hh ws rm mc ms n) (hp : PreV s H C b Pc As)
    (hg : g.method = m) (hn : As.length = n) (hsize : g.locals.size = nL) (hstack : g.stack = As.reverse ++ .ref b :: rest) (hW : 2 * g.monitorRoom + (rest.map fun v => v.category).sum ≤ 8) (hdg : decode cc g.pc = .ok (.invokevirtual index, 3)) (hf : cells + mc ≤ R.cells ∧ slots + ms ≤ R.slots) :
    vx_Run p l e R s m args below meth c H locs cells slots mc ms g rest (Qc (Value.ref b :: As).toArray) XC free := by
  obtain ⟨⟨hrc, hrs, hfr, hlo, hws, hcw⟩, hcode, hini, hy, hlen, hl, hin, hse⟩ := cw
  have hK : vx_Back l R p e below s args y 3 8 (PreOf R mc ms Pc) (PostOf Qc mc ms free) (vx_Post XC mc ms free) := vx_backW (hh := hh) (bytes := bytes) (maxL := maxL) (ret := ret) hM hp.1 hrc hrs hfr hlo hws hcw (fun a' U hW => word_at hW (Or.inl (by first | rfl | simp [Cond.onTables, Cond.keeps, Cond.steady])) hini)
  obtain ⟨hx, hb, hml, ho, -⟩ := S
  obtain ⟨-, ⟨cellB, hcB, hoB, hclB⟩, hPc⟩ := hp
  intro T hT X
  rcases vx_callVX X hx (C := C) (hh := hh) (bytes := bytes) (maxL := maxL) (ret := ret) ho hl hin hse hcode hy hK (by rw [hT]; exact hcB) hoB hclB hg (hsize.trans hml.symm) (argsL := As) (rest := rest) (fun sig h => hn.trans (hlen sig h)) hstack hW (by rw [hb]; exact hdg)
    (fun vm₁ hW₁ => ⟨hf.1, hf.2, hPc (T.setVm vm₁) hT hW₁⟩) with ⟨v, vm₁, ⟨U', l2, c2, s2⟩, hW₁, X', ⟨g', mk, t, L, e1, e2, hq, h1, hL, h2, h3⟩, st⟩ | ⟨q, vm₁, ⟨U', l2, c2, s2⟩, hW₁, X', ⟨g', mk, t, L, E, ce, e1, e2, hq, hce, hcv, hcl, h1, hL, h2, h3⟩, st⟩
  · dsimp only [Pt.U, Pt.locs, Pt.cells, Pt.slots] at X' e1 e2 h1 h2 h3 st
    subst h1; subst h2; subst h3
    exact Or.inl ⟨v, (T.setVm vm₁).calling g' mk (Value.ref b :: As).toArray, t, U', L, hT, X', hL, e1, e2, hq, st⟩
  · dsimp only [Pt.U, Pt.locs, Pt.cells, Pt.slots] at X' e1 e2 h1 h2 h3 st hcl
    subst h1; subst h2; subst h3
    exact Or.inr ⟨q, (T.setVm vm₁).calling g' mk (Value.ref b :: As).toArray, t, U', L, E, ce, hT, X', hL, e1, e2, hq, hce, hcv, vx_cls hW₁ hcl, st⟩
theorem vx_runSX {hh : List (Nat × Nat × Nat × Nat)} (S : CallFix p m c cc nL s args Ts own) (hM : vx_Met l y ws rm Pc Qc XC mc ms free) (cw : vx_CSW R s args own index y bytes maxL ret hh ws rm mc ms n) (hp : PreS s H Pc As)
    (hg : g.method = m) (hn : As.length = n) (hsize : g.locals.size = nL) (hstack : g.stack = As.reverse ++ rest) (hW : 2 * g.monitorRoom + (rest.map fun v => v.category).sum ≤ 8) (hdg : decode cc g.pc = .ok (.invokestatic index, 3)) (hf : cells + mc ≤ R.cells ∧ slots + ms ≤ R.slots) :
    vx_Run p l e R s m args below meth c H locs cells slots mc ms g rest (Qc As.toArray) XC free := by
  obtain ⟨⟨hrc, hrs, hfr, hlo, hws, hcw⟩, hcode, hini, hy, hlen, hl, hstt⟩ := cw
  have hK : vx_Back l R p e below s args y 3 8 (PreOf R mc ms Pc) (PostOf Qc mc ms free) (vx_Post XC mc ms free) := vx_backW (hh := hh) (bytes := bytes) (maxL := maxL) (ret := ret) hM hp.1 hrc hrs hfr hlo hws hcw (fun a' U hW => word_at hW (Or.inl (by first | rfl | simp [Cond.onTables, Cond.keeps, Cond.steady])) hini)
  obtain ⟨hx, hb, hml, ho, -⟩ := S
  intro T hT X
  rcases vx_callSX X hx (hh := hh) (bytes := bytes) (maxL := maxL) (ret := ret) ho hl hstt hini hcode hy hK hg (hsize.trans hml.symm) (argsL := As) (rest := rest) (fun sig h => hn.trans (hlen sig h)) hstack hW (by rw [hb]; exact hdg)
    (fun vm₁ hW₁ => ⟨hf.1, hf.2, hp.2 (T.setVm vm₁) hT hW₁⟩) with ⟨v, vm₁, ⟨U', l2, c2, s2⟩, hW₁, X', ⟨g', mk, t, L, e1, e2, hq, h1, hL, h2, h3⟩, st⟩ | ⟨q, vm₁, ⟨U', l2, c2, s2⟩, hW₁, X', ⟨g', mk, t, L, E, ce, e1, e2, hq, hce, hcv, hcl, h1, hL, h2, h3⟩, st⟩
  · dsimp only [Pt.U, Pt.locs, Pt.cells, Pt.slots] at X' e1 e2 h1 h2 h3 st
    subst h1; subst h2; subst h3
    exact Or.inl ⟨v, (T.setVm vm₁).calling g' mk As.toArray, t, U', L, hT, X', hL, e1, e2, hq, st⟩
  · dsimp only [Pt.U, Pt.locs, Pt.cells, Pt.slots] at X' e1 e2 h1 h2 h3 st hcl
    subst h1; subst h2; subst h3
    exact Or.inr ⟨q, (T.setVm vm₁).calling g' mk As.toArray, t, U', L, E, ce, hT, X', hL, e1, e2, hq, hce, hcv, vx_cls hW₁ hcl, st⟩
end
end VXH
theorem vx_ofWH {l : Launch} {y : MethodName} {ws ws' : List Cond} {rm : Room} {Pc : Array Value → State → Prop} {Qc : Array Value → State → Outcome → State → Prop} {XC : String → State → State → Prop} {mc ms : Nat} {free : Addr → Prop} {cc : ByteArray} {maxL : Nat} {ret : Option FieldType} {hh : List (Nat × Nat × Nat × Nat)}
    (hy : plainName y.cls = true) (hw : ws = Cond.codeWith y cc maxL ret hh :: ws')
    (body : ∀ p e s m args below meth c s₁, BodyLoose p l y (headSpec ws rm) cc maxL ret e s m args below meth c s₁ → c.maxLocals = maxL → Pc args s →
      W p l e (headSpec ws rm).room s m args below meth c s.heap [] 0 0 (vx_MQ below Qc XC args s mc ms free) (entryFrame m args maxL)) : vx_Met l y ws rm Pc Qc XC mc ms free := by
  refine MetFree.of_bodyS (code := cc) (maxLocals := maxL) (ret := ret) hy ?_ ?_
  · intro args s m h hn
    obtain ⟨m9, meth, c, hn9, h1, h2, h3, h4, -, h5, h6, -⟩ := Cond.codeWith_spec (atoms_spec (ws := ws) h _ (by rw [hw]; exact List.mem_cons_self))
    cases hn.symm.trans hn9
    exact ⟨meth, c, h1, h2, h3, h4, h5, h6⟩
  · intro p e s m args below meth c s₁ B hml hP _
    have hh0 : s₁.heap = s.heap := by rw [B.state]; rfl
    obtain ⟨t, a1, o, b1, b2, b3⟩ := body p e s m args below meth c s₁ B hml hP s₁ hh0 (Stand.of_body B)
    exact ⟨t, o, a1, b1, b2, b3⟩
/-! ===== END ===== -/
end
section
/-! ===== BEGIN printed: names, fields, word lists, decode rows ===== -/
def RX0 : String := "OrielChart$Code"
def TX0 : u_T := fun k => match k with
  | 0 => ("OrielChart$Code", "kind", "[I", true)
  | 1 => ("OrielChart$Code", "target", "[I", true)
  | 2 => ("OrielChart$Code", "sets", "[I", true)
  | 3 => ("OrielChart$Code", "uses", "[I", true)
  | _ => ("OrielChart$Code", "count", "I", false)
def tyX0 : Nat → FieldType := fun k => match k with
  | 0 => .array .int
  | 1 => .array .int
  | 2 => .array .int
  | 3 => .array .int
  | _ => .int
abbrev wsX00 : List Cond := u_ws RX0 TX0 5
theorem nmX0 : ∀ a, a < 5 → ∀ b, b < 5 → a ≠ b → (TX0 a).2.1 ≠ (TX0 b).2.1 := by decide +kernel
theorem tyX0_ok : ∀ k, k < 5 → parseFieldDescriptor (TX0 k).2.2.1 = some (tyX0 k) := by decide +kernel
abbrev cX0_init : ByteArray := prog_2_method_1_code
def yX0_init : MethodName := ⟨RX0, "<init>", "()V"⟩
abbrev cX0_add : ByteArray := prog_2_method_2_code
def yX0_add : MethodName := ⟨RX0, "add", "(III)V"⟩
abbrev cX0_drop : ByteArray := prog_2_method_3_code
def yX0_drop : MethodName := ⟨RX0, "drop", "(I)V"⟩
abbrev cX0_shiftTargets : ByteArray := prog_2_method_4_code
def yX0_shiftTargets : MethodName := ⟨RX0, "shiftTargets", "(II)V"⟩
abbrev cX0_copy : ByteArray := prog_2_method_5_code
def yX0_copy : MethodName := ⟨RX0, "copy", "(II)V"⟩
def RX1 : String := "OrielChart$Flow"
def TX1 : u_T := fun k => match k with
  | 0 => ("OrielChart$Flow", "home", "[I", true)
  | 1 => ("OrielChart$Flow", "first", "[I", true)
  | 2 => ("OrielChart$Flow", "last", "[I", true)
  | 3 => ("OrielChart$Flow", "from", "[I", true)
  | 4 => ("OrielChart$Flow", "to", "[I", true)
  | 5 => ("OrielChart$Flow", "firstEdge", "[I", true)
  | 6 => ("OrielChart$Flow", "next", "[J", true)
  | 7 => ("OrielChart$Flow", "blockCount", "I", false)
  | 8 => ("OrielChart$Flow", "edgeCount", "I", false)
  | 9 => ("OrielChart$Flow", "reached", "J", false)
  | _ => ("OrielChart$Flow", "fresh", "Z", false)
def tyX1 : Nat → FieldType := fun k => match k with
  | 0 => .array .int
  | 1 => .array .int
  | 2 => .array .int
  | 3 => .array .int
  | 4 => .array .int
  | 5 => .array .int
  | 6 => .array .long
  | 7 => .int
  | 8 => .int
  | 9 => .long
  | _ => .boolean
abbrev wsX10 : List Cond := u_ws RX1 TX1 11
theorem nmX1 : ∀ a, a < 11 → ∀ b, b < 11 → a ≠ b → (TX1 a).2.1 ≠ (TX1 b).2.1 := by decide +kernel
theorem tyX1_ok : ∀ k, k < 11 → parseFieldDescriptor (TX1 k).2.2.1 = some (tyX1 k) := by decide +kernel
abbrev cX1_init : ByteArray := prog_3_method_1_code
def yX1_init : MethodName := ⟨RX1, "<init>", "()V"⟩
abbrev cX1_part : ByteArray := prog_3_method_2_code
def yX1_part : MethodName := ⟨RX1, "part", "(LOrielChart$Code;)V"⟩
abbrev cX1_leadersOf : ByteArray := prog_3_method_3_code
def yX1_leadersOf : MethodName := ⟨RX1, "leadersOf", "(LOrielChart$Code;)J"⟩
abbrev cX1_cut : ByteArray := prog_3_method_4_code
def yX1_cut : MethodName := ⟨RX1, "cut", "(IJ)V"⟩
abbrev cX1_leave : ByteArray := prog_3_method_5_code
def yX1_leave : MethodName := ⟨RX1, "leave", "(LOrielChart$Code;I)V"⟩
abbrev cX1_join : ByteArray := prog_3_method_6_code
def yX1_join : MethodName := ⟨RX1, "join", "(III)V"⟩
abbrev cX1_mustPass : ByteArray := prog_3_method_7_code
def yX1_mustPass : MethodName := ⟨RX1, "mustPass", "(II)Z"⟩
abbrev cX1_countWindings : ByteArray := prog_3_method_8_code
def yX1_countWindings : MethodName := ⟨RX1, "countWindings", "()I"⟩
def RX2 : String := "OrielChart$Lives"
def TX2 : u_T := fun k => match k with
  | 0 => ("OrielChart$Lives", "live", "[I", true)
  | 1 => ("OrielChart$Lives", "vainCount", "I", false)
  | _ => ("OrielChart$Lives", "fresh", "Z", false)
def tyX2 : Nat → FieldType := fun k => match k with
  | 0 => .array .int
  | 1 => .int
  | _ => .boolean
abbrev wsX20 : List Cond := u_ws RX2 TX2 3
theorem nmX2 : ∀ a, a < 3 → ∀ b, b < 3 → a ≠ b → (TX2 a).2.1 ≠ (TX2 b).2.1 := by decide +kernel
theorem tyX2_ok : ∀ k, k < 3 → parseFieldDescriptor (TX2 k).2.2.1 = some (tyX2 k) := by decide +kernel
abbrev cX2_init : ByteArray := prog_4_method_1_code
def yX2_init : MethodName := ⟨RX2, "<init>", "()V"⟩
abbrev cX2_follow : ByteArray := prog_4_method_2_code
def yX2_follow : MethodName := ⟨RX2, "follow", "(LOrielChart$Code;LOrielChart$Flow;)V"⟩
abbrev cX2_passUp : ByteArray := prog_4_method_3_code
def yX2_passUp : MethodName := ⟨RX2, "passUp", "(LOrielChart$Code;LOrielChart$Flow;)Z"⟩
abbrev cX2_vainIn : ByteArray := prog_4_method_4_code
def yX2_vainIn : MethodName := ⟨RX2, "vainIn", "(LOrielChart$Code;LOrielChart$Flow;I)I"⟩
abbrev cX2_behind : ByteArray := prog_4_method_5_code
def yX2_behind : MethodName := ⟨RX2, "behind", "(LOrielChart$Flow;I)I"⟩
abbrev cX2_ahead : ByteArray := prog_4_method_6_code
def yX2_ahead : MethodName := ⟨RX2, "ahead", "(LOrielChart$Code;II)I"⟩
def RX3 : String := "OrielChart$Picture"
def TX3 : u_T := fun k => match k with
  | 0 => ("OrielChart$Picture", "walk", "LOrielChart$Walk;", true)
  | 1 => ("OrielChart$Picture", "layer", "[I", true)
  | 2 => ("OrielChart$Picture", "start", "[I", true)
  | 3 => ("OrielChart$Picture", "firstBend", "[I", true)
  | 4 => ("OrielChart$Picture", "edgeOf", "[I", true)
  | 5 => ("OrielChart$Picture", "order", "[I", true)
  | 6 => ("OrielChart$Picture", "place", "[I", true)
  | 7 => ("OrielChart$Picture", "kept", "[I", true)
  | 8 => ("OrielChart$Picture", "sum", "[I", true)
  | 9 => ("OrielChart$Picture", "lines", "[I", true)
  | 10 => ("OrielChart$Picture", "above", "[I", true)
  | 11 => ("OrielChart$Picture", "below", "[I", true)
  | 12 => ("OrielChart$Picture", "edgeCount", "I", false)
  | 13 => ("OrielChart$Picture", "layerCount", "I", false)
  | 14 => ("OrielChart$Picture", "sweeps", "I", false)
  | _ => ("OrielChart$Picture", "fresh", "Z", false)
def tyX3 : Nat → FieldType := fun k => match k with
  | 0 => .object "OrielChart$Walk"
  | 1 => .array .int
  | 2 => .array .int
  | 3 => .array .int
  | 4 => .array .int
  | 5 => .array .int
  | 6 => .array .int
  | 7 => .array .int
  | 8 => .array .int
  | 9 => .array .int
  | 10 => .array .int
  | 11 => .array .int
  | 12 => .int
  | 13 => .int
  | 14 => .int
  | _ => .boolean
abbrev wsX30 : List Cond := u_ws RX3 TX3 16
theorem nmX3 : ∀ a, a < 16 → ∀ b, b < 16 → a ≠ b → (TX3 a).2.1 ≠ (TX3 b).2.1 := by decide +kernel
theorem tyX3_ok : ∀ k, k < 16 → parseFieldDescriptor (TX3 k).2.2.1 = some (tyX3 k) := by decide +kernel
abbrev cX3_init : ByteArray := prog_5_method_1_code
def yX3_init : MethodName := ⟨RX3, "<init>", "()V"⟩
abbrev cX3_draw : ByteArray := prog_5_method_2_code
def yX3_draw : MethodName := ⟨RX3, "draw", "(LOrielChart$Flow;)V"⟩
abbrev cX3_setLayers : ByteArray := prog_5_method_3_code
def yX3_setLayers : MethodName := ⟨RX3, "setLayers", "()V"⟩
abbrev cX3_pushDown : ByteArray := prog_5_method_4_code
def yX3_pushDown : MethodName := ⟨RX3, "pushDown", "()Z"⟩
abbrev cX3_top : ByteArray := prog_5_method_5_code
def yX3_top : MethodName := ⟨RX3, "top", "(I)I"⟩
abbrev cX3_bottom : ByteArray := prog_5_method_6_code
def yX3_bottom : MethodName := ⟨RX3, "bottom", "(I)I"⟩
abbrev cX3_numberBends : ByteArray := prog_5_method_7_code
def yX3_numberBends : MethodName := ⟨RX3, "numberBends", "()V"⟩
abbrev cX3_fill : ByteArray := prog_5_method_8_code
def yX3_fill : MethodName := ⟨RX3, "fill", "(II)I"⟩
abbrev cX3_putPoint : ByteArray := prog_5_method_9_code
def yX3_putPoint : MethodName := ⟨RX3, "putPoint", "(III)V"⟩
abbrev cX3_sizeOf : ByteArray := prog_5_method_10_code
def yX3_sizeOf : MethodName := ⟨RX3, "sizeOf", "(I)I"⟩
abbrev cX3_shownAt : ByteArray := prog_5_method_11_code
def yX3_shownAt : MethodName := ⟨RX3, "shownAt", "(II)I"⟩
abbrev cX3_placeOfBlock : ByteArray := prog_5_method_12_code
def yX3_placeOfBlock : MethodName := ⟨RX3, "placeOfBlock", "(I)I"⟩
abbrev cX3_bendCount : ByteArray := prog_5_method_13_code
def yX3_bendCount : MethodName := ⟨RX3, "bendCount", "(I)I"⟩
abbrev cX3_placeOfBend : ByteArray := prog_5_method_14_code
def yX3_placeOfBend : MethodName := ⟨RX3, "placeOfBend", "(II)I"⟩
abbrev cX3_meanSpan : ByteArray := prog_5_method_15_code
def yX3_meanSpan : MethodName := ⟨RX3, "meanSpan", "()D"⟩
abbrev cX3_pointOn : ByteArray := prog_5_method_16_code
def yX3_pointOn : MethodName := ⟨RX3, "pointOn", "(II)I"⟩
abbrev cX3_leaves : ByteArray := prog_5_method_17_code
def yX3_leaves : MethodName := ⟨RX3, "leaves", "(II)Z"⟩
abbrev cX3_countCrossings : ByteArray := prog_5_method_18_code
def yX3_countCrossings : MethodName := ⟨RX3, "countCrossings", "()I"⟩
abbrev cX3_crossingsUnder : ByteArray := prog_5_method_19_code
def yX3_crossingsUnder : MethodName := ⟨RX3, "crossingsUnder", "(I)I"⟩
abbrev cX3_sweepOften : ByteArray := prog_5_method_20_code
def yX3_sweepOften : MethodName := ⟨RX3, "sweepOften", "(I)V"⟩
abbrev cX3_tryOut : ByteArray := prog_5_method_21_code
def yX3_tryOut : MethodName := ⟨RX3, "tryOut", "(I)I"⟩
abbrev cX3_arrange : ByteArray := prog_5_method_22_code
def yX3_arrange : MethodName := ⟨RX3, "arrange", "(II)V"⟩
abbrev cX3_weigh : ByteArray := prog_5_method_23_code
def yX3_weigh : MethodName := ⟨RX3, "weigh", "(III)V"⟩
abbrev cX3_isAhead : ByteArray := prog_5_method_24_code
def yX3_isAhead : MethodName := ⟨RX3, "isAhead", "(II)Z"⟩
def RX4 : String := "OrielChart$Ranks"
def TX4 : u_T := fun k => match k with
  | 0 => ("OrielChart$Ranks", "ruled", "[J", true)
  | 1 => ("OrielChart$Ranks", "loop", "[J", true)
  | 2 => ("OrielChart$Ranks", "previous", "[J", true)
  | 3 => ("OrielChart$Ranks", "onward", "[J", true)
  | 4 => ("OrielChart$Ranks", "loopCount", "I", false)
  | 5 => ("OrielChart$Ranks", "tame", "Z", false)
  | _ => ("OrielChart$Ranks", "fresh", "Z", false)
def tyX4 : Nat → FieldType := fun k => match k with
  | 0 => .array .long
  | 1 => .array .long
  | 2 => .array .long
  | 3 => .array .long
  | 4 => .int
  | 5 => .boolean
  | _ => .boolean
abbrev wsX40 : List Cond := u_ws RX4 TX4 7
theorem nmX4 : ∀ a, a < 7 → ∀ b, b < 7 → a ≠ b → (TX4 a).2.1 ≠ (TX4 b).2.1 := by decide +kernel
theorem tyX4_ok : ∀ k, k < 7 → parseFieldDescriptor (TX4 k).2.2.1 = some (tyX4 k) := by decide +kernel
abbrev cX4_init : ByteArray := prog_6_method_1_code
def yX4_init : MethodName := ⟨RX4, "<init>", "()V"⟩
abbrev cX4_rank : ByteArray := prog_6_method_2_code
def yX4_rank : MethodName := ⟨RX4, "rank", "(LOrielChart$Flow;)V"⟩
abbrev cX4_ruledBy : ByteArray := prog_6_method_3_code
def yX4_ruledBy : MethodName := ⟨RX4, "ruledBy", "(LOrielChart$Flow;I)J"⟩
abbrev cX4_sortEdges : ByteArray := prog_6_method_4_code
def yX4_sortEdges : MethodName := ⟨RX4, "sortEdges", "(LOrielChart$Flow;)V"⟩
abbrev cX4_closeLoop : ByteArray := prog_6_method_5_code
def yX4_closeLoop : MethodName := ⟨RX4, "closeLoop", "(I)V"⟩
abbrev cX4_rules : ByteArray := prog_6_method_6_code
def yX4_rules : MethodName := ⟨RX4, "rules", "(II)Z"⟩
abbrev cX4_nearestAbove : ByteArray := prog_6_method_7_code
def yX4_nearestAbove : MethodName := ⟨RX4, "nearestAbove", "(I)I"⟩
abbrev cX4_goesBack : ByteArray := prog_6_method_8_code
def yX4_goesBack : MethodName := ⟨RX4, "goesBack", "(LOrielChart$Flow;I)Z"⟩
abbrev cX4_loopsAround : ByteArray := prog_6_method_9_code
def yX4_loopsAround : MethodName := ⟨RX4, "loopsAround", "(I)I"⟩
def RX5 : String := "OrielChart$Reduction"
def TX5 : u_T := fun k => match k with
  | 0 => ("OrielChart$Reduction", "next", "[J", true)
  | 1 => ("OrielChart$Reduction", "home", "[I", true)
  | 2 => ("OrielChart$Reduction", "rule", "[I", true)
  | 3 => ("OrielChart$Reduction", "node", "[I", true)
  | 4 => ("OrielChart$Reduction", "entry", "[I", true)
  | 5 => ("OrielChart$Reduction", "nodes", "J", false)
  | 6 => ("OrielChart$Reduction", "stepCount", "I", false)
  | _ => ("OrielChart$Reduction", "fresh", "Z", false)
def tyX5 : Nat → FieldType := fun k => match k with
  | 0 => .array .long
  | 1 => .array .int
  | 2 => .array .int
  | 3 => .array .int
  | 4 => .array .int
  | 5 => .long
  | 6 => .int
  | _ => .boolean
abbrev wsX50 : List Cond := u_ws RX5 TX5 8
theorem nmX5 : ∀ a, a < 8 → ∀ b, b < 8 → a ≠ b → (TX5 a).2.1 ≠ (TX5 b).2.1 := by decide +kernel
theorem tyX5_ok : ∀ k, k < 8 → parseFieldDescriptor (TX5 k).2.2.1 = some (tyX5 k) := by decide +kernel
abbrev cX5_init : ByteArray := prog_7_method_1_code
def yX5_init : MethodName := ⟨RX5, "<init>", "()V"⟩
abbrev cX5_reduce : ByteArray := prog_7_method_2_code
def yX5_reduce : MethodName := ⟨RX5, "reduce", "(LOrielChart$Flow;)V"⟩
abbrev cX5_takeStep : ByteArray := prog_7_method_3_code
def yX5_takeStep : MethodName := ⟨RX5, "takeStep", "()Z"⟩
abbrev cX5_findEntries : ByteArray := prog_7_method_4_code
def yX5_findEntries : MethodName := ⟨RX5, "findEntries", "()V"⟩
abbrev cX5_ruleFor : ByteArray := prog_7_method_5_code
def yX5_ruleFor : MethodName := ⟨RX5, "ruleFor", "(I)I"⟩
abbrev cX5_isSingle : ByteArray := prog_7_method_6_code
def yX5_isSingle : MethodName := ⟨RX5, "isSingle", "(III)Z"⟩
abbrev cX5_isDouble : ByteArray := prog_7_method_7_code
def yX5_isDouble : MethodName := ⟨RX5, "isDouble", "(III)Z"⟩
abbrev cX5_apply : ByteArray := prog_7_method_8_code
def yX5_apply : MethodName := ⟨RX5, "apply", "(II)V"⟩
abbrev cX5_merge : ByteArray := prog_7_method_9_code
def yX5_merge : MethodName := ⟨RX5, "merge", "(JIZ)V"⟩
def RX6 : String := "OrielChart$Walk"
def TX6 : u_T := fun k => match k with
  | 0 => ("OrielChart$Walk", "came", "[I", true)
  | 1 => ("OrielChart$Walk", "upper", "[I", true)
  | 2 => ("OrielChart$Walk", "lower", "[I", true)
  | 3 => ("OrielChart$Walk", "open", "[I", true)
  | 4 => ("OrielChart$Walk", "edge", "[I", true)
  | 5 => ("OrielChart$Walk", "cameCount", "I", false)
  | 6 => ("OrielChart$Walk", "openCount", "I", false)
  | 7 => ("OrielChart$Walk", "seen", "J", false)
  | _ => ("OrielChart$Walk", "stillGoing", "J", false)
def tyX6 : Nat → FieldType := fun k => match k with
  | 0 => .array .int
  | 1 => .array .int
  | 2 => .array .int
  | 3 => .array .int
  | 4 => .array .int
  | 5 => .int
  | 6 => .int
  | 7 => .long
  | _ => .long
abbrev wsX60 : List Cond := u_ws RX6 TX6 9
theorem nmX6 : ∀ a, a < 9 → ∀ b, b < 9 → a ≠ b → (TX6 a).2.1 ≠ (TX6 b).2.1 := by decide +kernel
theorem tyX6_ok : ∀ k, k < 9 → parseFieldDescriptor (TX6 k).2.2.1 = some (tyX6 k) := by decide +kernel
abbrev cX6_init : ByteArray := prog_8_method_1_code
def yX6_init : MethodName := ⟨RX6, "<init>", "()V"⟩
abbrev cX6_goThrough : ByteArray := prog_8_method_2_code
def yX6_goThrough : MethodName := ⟨RX6, "goThrough", "(LOrielChart$Flow;)V"⟩
abbrev cX6_enter : ByteArray := prog_8_method_3_code
def yX6_enter : MethodName := ⟨RX6, "enter", "(LOrielChart$Flow;I)V"⟩
abbrev cX6_goOn : ByteArray := prog_8_method_4_code
def yX6_goOn : MethodName := ⟨RX6, "goOn", "(LOrielChart$Flow;I)V"⟩
abbrev cX6_draws : ByteArray := prog_8_method_5_code
def yX6_draws : MethodName := ⟨RX6, "draws", "(I)Z"⟩
abbrev cX6_turns : ByteArray := prog_8_method_6_code
def yX6_turns : MethodName := ⟨RX6, "turns", "(LOrielChart$Flow;I)Z"⟩
def RX7 : String := "OrielChart"
def TX7 : u_T := fun k => match k with
  | 0 => ("OrielChart", "code", "LOrielChart$Code;", true)
  | 1 => ("OrielChart", "flow", "LOrielChart$Flow;", true)
  | 2 => ("OrielChart", "ranks", "LOrielChart$Ranks;", true)
  | 3 => ("OrielChart", "lives", "LOrielChart$Lives;", true)
  | 4 => ("OrielChart", "reduction", "LOrielChart$Reduction;", true)
  | _ => ("OrielChart", "picture", "LOrielChart$Picture;", true)
def tyX7 : Nat → FieldType := fun k => match k with
  | 0 => .object "OrielChart$Code"
  | 1 => .object "OrielChart$Flow"
  | 2 => .object "OrielChart$Ranks"
  | 3 => .object "OrielChart$Lives"
  | 4 => .object "OrielChart$Reduction"
  | _ => .object "OrielChart$Picture"
abbrev wsX70 : List Cond := u_ws RX7 TX7 6
theorem nmX7 : ∀ a, a < 6 → ∀ b, b < 6 → a ≠ b → (TX7 a).2.1 ≠ (TX7 b).2.1 := by decide +kernel
theorem tyX7_ok : ∀ k, k < 6 → parseFieldDescriptor (TX7 k).2.2.1 = some (tyX7 k) := by decide +kernel
abbrev cX7_init : ByteArray := prog_1_method_1_code
def yX7_init : MethodName := ⟨RX7, "<init>", "()V"⟩
abbrev cX7_insert : ByteArray := prog_1_method_2_code
def yX7_insert : MethodName := ⟨RX7, "insert", "(III)I"⟩
abbrev cX7_remove : ByteArray := prog_1_method_3_code
def yX7_remove : MethodName := ⟨RX7, "remove", "(I)I"⟩
abbrev cX7_setTarget : ByteArray := prog_1_method_4_code
def yX7_setTarget : MethodName := ⟨RX7, "setTarget", "(II)I"⟩
abbrev cX7_setUse : ByteArray := prog_1_method_5_code
def yX7_setUse : MethodName := ⟨RX7, "setUse", "(III)I"⟩
abbrev cX7_instructions : ByteArray := prog_1_method_6_code
def yX7_instructions : MethodName := ⟨RX7, "instructions", "()I"⟩
abbrev cX7_kindOf : ByteArray := prog_1_method_7_code
def yX7_kindOf : MethodName := ⟨RX7, "kindOf", "(I)I"⟩
abbrev cX7_targetOf : ByteArray := prog_1_method_8_code
def yX7_targetOf : MethodName := ⟨RX7, "targetOf", "(I)I"⟩
abbrev cX7_blocks : ByteArray := prog_1_method_9_code
def yX7_blocks : MethodName := ⟨RX7, "blocks", "()I"⟩
abbrev cX7_blockOf : ByteArray := prog_1_method_10_code
def yX7_blockOf : MethodName := ⟨RX7, "blockOf", "(I)I"⟩
abbrev cX7_firstOf : ByteArray := prog_1_method_11_code
def yX7_firstOf : MethodName := ⟨RX7, "firstOf", "(I)I"⟩
abbrev cX7_isReached : ByteArray := prog_1_method_12_code
def yX7_isReached : MethodName := ⟨RX7, "isReached", "(I)Z"⟩
abbrev cX7_edges : ByteArray := prog_1_method_13_code
def yX7_edges : MethodName := ⟨RX7, "edges", "()I"⟩
abbrev cX7_edgeFrom : ByteArray := prog_1_method_14_code
def yX7_edgeFrom : MethodName := ⟨RX7, "edgeFrom", "(I)I"⟩
abbrev cX7_edgeTo : ByteArray := prog_1_method_15_code
def yX7_edgeTo : MethodName := ⟨RX7, "edgeTo", "(I)I"⟩
abbrev cX7_dominates : ByteArray := prog_1_method_16_code
def yX7_dominates : MethodName := ⟨RX7, "dominates", "(II)Z"⟩
abbrev cX7_parentOf : ByteArray := prog_1_method_17_code
def yX7_parentOf : MethodName := ⟨RX7, "parentOf", "(I)I"⟩
abbrev cX7_comesBehind : ByteArray := prog_1_method_18_code
def yX7_comesBehind : MethodName := ⟨RX7, "comesBehind", "(II)Z"⟩
abbrev cX7_isBack : ByteArray := prog_1_method_19_code
def yX7_isBack : MethodName := ⟨RX7, "isBack", "(I)Z"⟩
abbrev cX7_loops : ByteArray := prog_1_method_20_code
def yX7_loops : MethodName := ⟨RX7, "loops", "()I"⟩
abbrev cX7_loopSize : ByteArray := prog_1_method_21_code
def yX7_loopSize : MethodName := ⟨RX7, "loopSize", "(I)I"⟩
abbrev cX7_depthOf : ByteArray := prog_1_method_22_code
def yX7_depthOf : MethodName := ⟨RX7, "depthOf", "(I)I"⟩
abbrev cX7_isTame : ByteArray := prog_1_method_23_code
def yX7_isTame : MethodName := ⟨RX7, "isTame", "()Z"⟩
abbrev cX7_liveIn : ByteArray := prog_1_method_24_code
def yX7_liveIn : MethodName := ⟨RX7, "liveIn", "(I)I"⟩
abbrev cX7_vain : ByteArray := prog_1_method_25_code
def yX7_vain : MethodName := ⟨RX7, "vain", "()I"⟩
abbrev cX7_windings : ByteArray := prog_1_method_26_code
def yX7_windings : MethodName := ⟨RX7, "windings", "()I"⟩
abbrev cX7_steps : ByteArray := prog_1_method_27_code
def yX7_steps : MethodName := ⟨RX7, "steps", "()I"⟩
abbrev cX7_ruleOf : ByteArray := prog_1_method_28_code
def yX7_ruleOf : MethodName := ⟨RX7, "ruleOf", "(I)I"⟩
abbrev cX7_nodeOf : ByteArray := prog_1_method_29_code
def yX7_nodeOf : MethodName := ⟨RX7, "nodeOf", "(I)I"⟩
abbrev cX7_left : ByteArray := prog_1_method_30_code
def yX7_left : MethodName := ⟨RX7, "left", "()I"⟩
abbrev cX7_isNeat : ByteArray := prog_1_method_31_code
def yX7_isNeat : MethodName := ⟨RX7, "isNeat", "()Z"⟩
abbrev cX7_endsIn : ByteArray := prog_1_method_32_code
def yX7_endsIn : MethodName := ⟨RX7, "endsIn", "(I)I"⟩
abbrev cX7_layers : ByteArray := prog_1_method_33_code
def yX7_layers : MethodName := ⟨RX7, "layers", "()I"⟩
abbrev cX7_layerOf : ByteArray := prog_1_method_34_code
def yX7_layerOf : MethodName := ⟨RX7, "layerOf", "(I)I"⟩
abbrev cX7_isTurned : ByteArray := prog_1_method_35_code
def yX7_isTurned : MethodName := ⟨RX7, "isTurned", "(I)Z"⟩
abbrev cX7_points : ByteArray := prog_1_method_36_code
def yX7_points : MethodName := ⟨RX7, "points", "(I)I"⟩
abbrev cX7_pointAt : ByteArray := prog_1_method_37_code
def yX7_pointAt : MethodName := ⟨RX7, "pointAt", "(II)I"⟩
abbrev cX7_placeOf : ByteArray := prog_1_method_38_code
def yX7_placeOf : MethodName := ⟨RX7, "placeOf", "(I)I"⟩
abbrev cX7_bends : ByteArray := prog_1_method_39_code
def yX7_bends : MethodName := ⟨RX7, "bends", "(I)I"⟩
abbrev cX7_bendAt : ByteArray := prog_1_method_40_code
def yX7_bendAt : MethodName := ⟨RX7, "bendAt", "(II)I"⟩
abbrev cX7_crossings : ByteArray := prog_1_method_41_code
def yX7_crossings : MethodName := ⟨RX7, "crossings", "()I"⟩
abbrev cX7_sweep : ByteArray := prog_1_method_42_code
def yX7_sweep : MethodName := ⟨RX7, "sweep", "(I)I"⟩
abbrev cX7_wouldCross : ByteArray := prog_1_method_43_code
def yX7_wouldCross : MethodName := ⟨RX7, "wouldCross", "(I)I"⟩
abbrev cX7_swept : ByteArray := prog_1_method_44_code
def yX7_swept : MethodName := ⟨RX7, "swept", "()I"⟩
abbrev cX7_meanLength : ByteArray := prog_1_method_45_code
def yX7_meanLength : MethodName := ⟨RX7, "meanLength", "()D"⟩
abbrev cX7_digest : ByteArray := prog_1_method_46_code
def yX7_digest : MethodName := ⟨RX7, "digest", "()J"⟩
abbrev cX7_digestOfCode : ByteArray := prog_1_method_47_code
def yX7_digestOfCode : MethodName := ⟨RX7, "digestOfCode", "(J)J"⟩
abbrev cX7_digestOfBlocks : ByteArray := prog_1_method_48_code
def yX7_digestOfBlocks : MethodName := ⟨RX7, "digestOfBlocks", "(J)J"⟩
abbrev cX7_digestOfEdges : ByteArray := prog_1_method_49_code
def yX7_digestOfEdges : MethodName := ⟨RX7, "digestOfEdges", "(J)J"⟩
abbrev cX7_digestOfSteps : ByteArray := prog_1_method_50_code
def yX7_digestOfSteps : MethodName := ⟨RX7, "digestOfSteps", "(J)J"⟩
abbrev cX7_digestOfLayers : ByteArray := prog_1_method_51_code
def yX7_digestOfLayers : MethodName := ⟨RX7, "digestOfLayers", "(J)J"⟩
abbrev cX7_needInstruction : ByteArray := prog_1_method_52_code
def yX7_needInstruction : MethodName := ⟨RX7, "needInstruction", "(I)V"⟩
abbrev cX7_needBlock : ByteArray := prog_1_method_53_code
def yX7_needBlock : MethodName := ⟨RX7, "needBlock", "(I)V"⟩
abbrev cX7_needEdge : ByteArray := prog_1_method_54_code
def yX7_needEdge : MethodName := ⟨RX7, "needEdge", "(I)V"⟩
abbrev cX7_needStep : ByteArray := prog_1_method_55_code
def yX7_needStep : MethodName := ⟨RX7, "needStep", "(I)V"⟩
abbrev cX7_needLayer : ByteArray := prog_1_method_56_code
def yX7_needLayer : MethodName := ⟨RX7, "needLayer", "(I)V"⟩
abbrev cX7_needSweeps : ByteArray := prog_1_method_57_code
def yX7_needSweeps : MethodName := ⟨RX7, "needSweeps", "(I)V"⟩
abbrev cX7_isTarget : ByteArray := prog_1_method_58_code
def yX7_isTarget : MethodName := ⟨RX7, "isTarget", "(I)Z"⟩
abbrev cX7_forget : ByteArray := prog_1_method_59_code
def yX7_forget : MethodName := ⟨RX7, "forget", "()V"⟩
abbrev cX7_freshFlow : ByteArray := prog_1_method_60_code
def yX7_freshFlow : MethodName := ⟨RX7, "freshFlow", "()LOrielChart$Flow;"⟩
abbrev cX7_freshRanks : ByteArray := prog_1_method_61_code
def yX7_freshRanks : MethodName := ⟨RX7, "freshRanks", "()LOrielChart$Ranks;"⟩
abbrev cX7_freshLives : ByteArray := prog_1_method_62_code
def yX7_freshLives : MethodName := ⟨RX7, "freshLives", "()LOrielChart$Lives;"⟩
abbrev cX7_freshReduction : ByteArray := prog_1_method_63_code
def yX7_freshReduction : MethodName := ⟨RX7, "freshReduction", "()LOrielChart$Reduction;"⟩
abbrev cX7_freshPicture : ByteArray := prog_1_method_64_code
def yX7_freshPicture : MethodName := ⟨RX7, "freshPicture", "()LOrielChart$Picture;"⟩
abbrev cX7_at : ByteArray := prog_1_method_65_code
def yX7_at : MethodName := ⟨RX7, "at", "([II)I"⟩
abbrev cX7_at_ : ByteArray := prog_1_method_66_code
def yX7_at_ : MethodName := ⟨RX7, "at", "([JI)J"⟩
abbrev cX7_put : ByteArray := prog_1_method_67_code
def yX7_put : MethodName := ⟨RX7, "put", "([III)V"⟩
abbrev cX7_put_ : ByteArray := prog_1_method_68_code
def yX7_put_ : MethodName := ⟨RX7, "put", "([JIJ)V"⟩
abbrev cX7_bit : ByteArray := prog_1_method_69_code
def yX7_bit : MethodName := ⟨RX7, "bit", "(I)J"⟩
abbrev cX7_has : ByteArray := prog_1_method_70_code
def yX7_has : MethodName := ⟨RX7, "has", "(JI)Z"⟩
abbrev cX7_lowest : ByteArray := prog_1_method_71_code
def yX7_lowest : MethodName := ⟨RX7, "lowest", "(J)I"⟩
abbrev cX7_spread : ByteArray := prog_1_method_72_code
def yX7_spread : MethodName := ⟨RX7, "spread", "([JJJ)J"⟩
abbrev cX7_jumps : ByteArray := prog_1_method_73_code
def yX7_jumps : MethodName := ⟨RX7, "jumps", "(I)Z"⟩
abbrev cX7_mix : ByteArray := prog_1_method_74_code
def yX7_mix : MethodName := ⟨RX7, "mix", "(JI)J"⟩
abbrev cX7_mix_ : ByteArray := prog_1_method_75_code
def yX7_mix_ : MethodName := ⟨RX7, "mix", "(JZ)J"⟩
def RX8 : String := "OrielChartModel"
def TX8 : u_T := fun k => match k with
  | 0 => ("OrielChartModel", "thrown", "I", false)
  | 1 => ("OrielChartModel", "many", "I", false)
  | 2 => ("OrielChartModel", "kind", "[I", true)
  | 3 => ("OrielChartModel", "target", "[I", true)
  | 4 => ("OrielChartModel", "sets", "[I", true)
  | 5 => ("OrielChartModel", "uses", "[I", true)
  | 6 => ("OrielChartModel", "isLaid", "Z", false)
  | 7 => ("OrielChartModel", "blocks", "I", false)
  | 8 => ("OrielChartModel", "edges", "I", false)
  | 9 => ("OrielChartModel", "blockOf", "[I", true)
  | 10 => ("OrielChartModel", "first", "[I", true)
  | 11 => ("OrielChartModel", "from", "[I", true)
  | 12 => ("OrielChartModel", "to", "[I", true)
  | 13 => ("OrielChartModel", "reached", "J", false)
  | 14 => ("OrielChartModel", "spared", "[J", true)
  | 15 => ("OrielChartModel", "loop", "[J", true)
  | 16 => ("OrielChartModel", "live", "[I", true)
  | 17 => ("OrielChartModel", "goes", "[J", true)
  | 18 => ("OrielChartModel", "endsIn", "[I", true)
  | 19 => ("OrielChartModel", "rule", "[I", true)
  | 20 => ("OrielChartModel", "ruled", "[I", true)
  | 21 => ("OrielChartModel", "steps", "I", false)
  | 22 => ("OrielChartModel", "nodes", "J", false)
  | 23 => ("OrielChartModel", "state", "[I", true)
  | 24 => ("OrielChartModel", "came", "[I", true)
  | 25 => ("OrielChartModel", "met", "I", false)
  | 26 => ("OrielChartModel", "isTurned", "[Z", true)
  | 27 => ("OrielChartModel", "layer", "[I", true)
  | 28 => ("OrielChartModel", "layers", "I", false)
  | 29 => ("OrielChartModel", "order", "[[I", false)
  | 30 => ("OrielChartModel", "swept", "I", false)
  | _ => ("OrielChartModel", "sum", "J", false)
def tyX8 : Nat → FieldType := fun k => match k with
  | 0 => .int
  | 1 => .int
  | 2 => .array .int
  | 3 => .array .int
  | 4 => .array .int
  | 5 => .array .int
  | 6 => .boolean
  | 7 => .int
  | 8 => .int
  | 9 => .array .int
  | 10 => .array .int
  | 11 => .array .int
  | 12 => .array .int
  | 13 => .long
  | 14 => .array .long
  | 15 => .array .long
  | 16 => .array .int
  | 17 => .array .long
  | 18 => .array .int
  | 19 => .array .int
  | 20 => .array .int
  | 21 => .int
  | 22 => .long
  | 23 => .array .int
  | 24 => .array .int
  | 25 => .int
  | 26 => .array .boolean
  | 27 => .array .int
  | 28 => .int
  | 29 => .array (.array .int)
  | 30 => .int
  | _ => .long
abbrev wsX80 : List Cond := u_ws RX8 TX8 32
theorem nmX8 : ∀ a, a < 32 → ∀ b, b < 32 → a ≠ b → (TX8 a).2.1 ≠ (TX8 b).2.1 := by decide +kernel
theorem tyX8_ok : ∀ k, k < 32 → parseFieldDescriptor (TX8 k).2.2.1 = some (tyX8 k) := by decide +kernel
abbrev cX8_init : ByteArray := prog_10_method_1_code
def yX8_init : MethodName := ⟨RX8, "<init>", "()V"⟩
abbrev cX8_thrown : ByteArray := prog_10_method_2_code
def yX8_thrown : MethodName := ⟨RX8, "thrown", "()I"⟩
abbrev cX8_refuse : ByteArray := prog_10_method_3_code
def yX8_refuse : MethodName := ⟨RX8, "refuse", "(I)I"⟩
abbrev cX8_is : ByteArray := prog_10_method_4_code
def yX8_is : MethodName := ⟨RX8, "is", "(III)Z"⟩
abbrev cX8_has : ByteArray := prog_10_method_5_code
def yX8_has : MethodName := ⟨RX8, "has", "(JI)Z"⟩
abbrev cX8_isLeader : ByteArray := prog_10_method_6_code
def yX8_isLeader : MethodName := ⟨RX8, "isLeader", "(I)Z"⟩
abbrev cX8_blockAt : ByteArray := prog_10_method_7_code
def yX8_blockAt : MethodName := ⟨RX8, "blockAt", "(I)I"⟩
abbrev cX8_addEdge : ByteArray := prog_10_method_8_code
def yX8_addEdge : MethodName := ⟨RX8, "addEdge", "(II)V"⟩
abbrev cX8_lay : ByteArray := prog_10_method_9_code
def yX8_lay : MethodName := ⟨RX8, "lay", "()V"⟩
abbrev cX8_reachedFrom : ByteArray := prog_10_method_10_code
def yX8_reachedFrom : MethodName := ⟨RX8, "reachedFrom", "(IJ)J"⟩
abbrev cX8_comesToExit : ByteArray := prog_10_method_11_code
def yX8_comesToExit : MethodName := ⟨RX8, "comesToExit", "(IJ)Z"⟩
abbrev cX8_isGraph : ByteArray := prog_10_method_12_code
def yX8_isGraph : MethodName := ⟨RX8, "isGraph", "(I)Z"⟩
abbrev cX8_isReachedNow : ByteArray := prog_10_method_13_code
def yX8_isReachedNow : MethodName := ⟨RX8, "isReachedNow", "(I)Z"⟩
abbrev cX8_dominatesNow : ByteArray := prog_10_method_14_code
def yX8_dominatesNow : MethodName := ⟨RX8, "dominatesNow", "(II)Z"⟩
abbrev cX8_parentNow : ByteArray := prog_10_method_15_code
def yX8_parentNow : MethodName := ⟨RX8, "parentNow", "(I)I"⟩
abbrev cX8_isBackNow : ByteArray := prog_10_method_16_code
def yX8_isBackNow : MethodName := ⟨RX8, "isBackNow", "(I)Z"⟩
abbrev cX8_loopOf : ByteArray := prog_10_method_17_code
def yX8_loopOf : MethodName := ⟨RX8, "loopOf", "(I)J"⟩
abbrev cX8_depthNow : ByteArray := prog_10_method_18_code
def yX8_depthNow : MethodName := ⟨RX8, "depthNow", "(I)I"⟩
abbrev cX8_loopsNow : ByteArray := prog_10_method_19_code
def yX8_loopsNow : MethodName := ⟨RX8, "loopsNow", "()I"⟩
abbrev cX8_isTameNow : ByteArray := prog_10_method_20_code
def yX8_isTameNow : MethodName := ⟨RX8, "isTameNow", "()Z"⟩
abbrev cX8_liveOut : ByteArray := prog_10_method_21_code
def yX8_liveOut : MethodName := ⟨RX8, "liveOut", "(I)I"⟩
abbrev cX8_ahead : ByteArray := prog_10_method_22_code
def yX8_ahead : MethodName := ⟨RX8, "ahead", "(II)I"⟩
abbrev cX8_layLive : ByteArray := prog_10_method_23_code
def yX8_layLive : MethodName := ⟨RX8, "layLive", "()V"⟩
abbrev cX8_vainNow : ByteArray := prog_10_method_24_code
def yX8_vainNow : MethodName := ⟨RX8, "vainNow", "()I"⟩
abbrev cX8_windingsNow : ByteArray := prog_10_method_25_code
def yX8_windingsNow : MethodName := ⟨RX8, "windingsNow", "()I"⟩
abbrev cX8_reduce : ByteArray := prog_10_method_26_code
def yX8_reduce : MethodName := ⟨RX8, "reduce", "()V"⟩
abbrev cX8_comers : ByteArray := prog_10_method_27_code
def yX8_comers : MethodName := ⟨RX8, "comers", "(I)I"⟩
abbrev cX8_single : ByteArray := prog_10_method_28_code
def yX8_single : MethodName := ⟨RX8, "single", "(J)I"⟩
abbrev cX8_isInner : ByteArray := prog_10_method_29_code
def yX8_isInner : MethodName := ⟨RX8, "isInner", "(I)Z"⟩
abbrev cX8_step : ByteArray := prog_10_method_30_code
def yX8_step : MethodName := ⟨RX8, "step", "(I)Z"⟩
abbrev cX8_isSingle : ByteArray := prog_10_method_31_code
def yX8_isSingle : MethodName := ⟨RX8, "isSingle", "(II)Z"⟩
abbrev cX8_single_ : ByteArray := prog_10_method_32_code
def yX8_single_ : MethodName := ⟨RX8, "single", "(III)Z"⟩
abbrev cX8_tell : ByteArray := prog_10_method_33_code
def yX8_tell : MethodName := ⟨RX8, "tell", "(II)Z"⟩
abbrev cX8_merge : ByteArray := prog_10_method_34_code
def yX8_merge : MethodName := ⟨RX8, "merge", "(II)Z"⟩
abbrev cX8_isDrawn : ByteArray := prog_10_method_35_code
def yX8_isDrawn : MethodName := ⟨RX8, "isDrawn", "(I)Z"⟩
abbrev cX8_top : ByteArray := prog_10_method_36_code
def yX8_top : MethodName := ⟨RX8, "top", "(I)I"⟩
abbrev cX8_bottom : ByteArray := prog_10_method_37_code
def yX8_bottom : MethodName := ⟨RX8, "bottom", "(I)I"⟩
abbrev cX8_go : ByteArray := prog_10_method_38_code
def yX8_go : MethodName := ⟨RX8, "go", "(I)V"⟩
abbrev cX8_layLayers : ByteArray := prog_10_method_39_code
def yX8_layLayers : MethodName := ⟨RX8, "layLayers", "()V"⟩
abbrev cX8_isThrough : ByteArray := prog_10_method_40_code
def yX8_isThrough : MethodName := ⟨RX8, "isThrough", "(II)Z"⟩
abbrev cX8_pointOf : ByteArray := prog_10_method_41_code
def yX8_pointOf : MethodName := ⟨RX8, "pointOf", "(II)I"⟩
abbrev cX8_firstOrder : ByteArray := prog_10_method_42_code
def yX8_firstOrder : MethodName := ⟨RX8, "firstOrder", "(I)[I"⟩
abbrev cX8_find : ByteArray := prog_10_method_43_code
def yX8_find : MethodName := ⟨RX8, "find", "([II)I"⟩
abbrev cX8_ordered : ByteArray := prog_10_method_44_code
def yX8_ordered : MethodName := ⟨RX8, "ordered", "([I[I[I)[I"⟩
abbrev cX8_orderBy : ByteArray := prog_10_method_45_code
def yX8_orderBy : MethodName := ⟨RX8, "orderBy", "([[III)V"⟩
abbrev cX8_sweepOnce : ByteArray := prog_10_method_46_code
def yX8_sweepOnce : MethodName := ⟨RX8, "sweepOnce", "([[IZ)V"⟩
abbrev cX8_crossingsIn : ByteArray := prog_10_method_47_code
def yX8_crossingsIn : MethodName := ⟨RX8, "crossingsIn", "([[I)I"⟩
abbrev cX8_beginAnew : ByteArray := prog_10_method_48_code
def yX8_beginAnew : MethodName := ⟨RX8, "beginAnew", "()V"⟩
abbrev cX8_isJump : ByteArray := prog_10_method_49_code
def yX8_isJump : MethodName := ⟨RX8, "isJump", "(I)Z"⟩
abbrev cX8_insert : ByteArray := prog_10_method_50_code
def yX8_insert : MethodName := ⟨RX8, "insert", "(III)I"⟩
abbrev cX8_copy : ByteArray := prog_10_method_51_code
def yX8_copy : MethodName := ⟨RX8, "copy", "(II)V"⟩
abbrev cX8_isInstruction : ByteArray := prog_10_method_52_code
def yX8_isInstruction : MethodName := ⟨RX8, "isInstruction", "(I)Z"⟩
abbrev cX8_remove : ByteArray := prog_10_method_53_code
def yX8_remove : MethodName := ⟨RX8, "remove", "(I)I"⟩
abbrev cX8_setTarget : ByteArray := prog_10_method_54_code
def yX8_setTarget : MethodName := ⟨RX8, "setTarget", "(II)I"⟩
abbrev cX8_setUse : ByteArray := prog_10_method_55_code
def yX8_setUse : MethodName := ⟨RX8, "setUse", "(III)I"⟩
abbrev cX8_instructions : ByteArray := prog_10_method_56_code
def yX8_instructions : MethodName := ⟨RX8, "instructions", "()I"⟩
abbrev cX8_kindOf : ByteArray := prog_10_method_57_code
def yX8_kindOf : MethodName := ⟨RX8, "kindOf", "(I)I"⟩
abbrev cX8_targetOf : ByteArray := prog_10_method_58_code
def yX8_targetOf : MethodName := ⟨RX8, "targetOf", "(I)I"⟩
abbrev cX8_isBlock : ByteArray := prog_10_method_59_code
def yX8_isBlock : MethodName := ⟨RX8, "isBlock", "(I)Z"⟩
abbrev cX8_isEdge : ByteArray := prog_10_method_60_code
def yX8_isEdge : MethodName := ⟨RX8, "isEdge", "(I)Z"⟩
abbrev cX8_blocks : ByteArray := prog_10_method_61_code
def yX8_blocks : MethodName := ⟨RX8, "blocks", "()I"⟩
abbrev cX8_blockOf : ByteArray := prog_10_method_62_code
def yX8_blockOf : MethodName := ⟨RX8, "blockOf", "(I)I"⟩
abbrev cX8_firstOf : ByteArray := prog_10_method_63_code
def yX8_firstOf : MethodName := ⟨RX8, "firstOf", "(I)I"⟩
abbrev cX8_isReached : ByteArray := prog_10_method_64_code
def yX8_isReached : MethodName := ⟨RX8, "isReached", "(I)Z"⟩
abbrev cX8_edges : ByteArray := prog_10_method_65_code
def yX8_edges : MethodName := ⟨RX8, "edges", "()I"⟩
abbrev cX8_edgeFrom : ByteArray := prog_10_method_66_code
def yX8_edgeFrom : MethodName := ⟨RX8, "edgeFrom", "(I)I"⟩
abbrev cX8_edgeTo : ByteArray := prog_10_method_67_code
def yX8_edgeTo : MethodName := ⟨RX8, "edgeTo", "(I)I"⟩
abbrev cX8_dominates : ByteArray := prog_10_method_68_code
def yX8_dominates : MethodName := ⟨RX8, "dominates", "(II)Z"⟩
abbrev cX8_parentOf : ByteArray := prog_10_method_69_code
def yX8_parentOf : MethodName := ⟨RX8, "parentOf", "(I)I"⟩
abbrev cX8_comesBehind : ByteArray := prog_10_method_70_code
def yX8_comesBehind : MethodName := ⟨RX8, "comesBehind", "(II)Z"⟩
abbrev cX8_isBack : ByteArray := prog_10_method_71_code
def yX8_isBack : MethodName := ⟨RX8, "isBack", "(I)Z"⟩
abbrev cX8_loops : ByteArray := prog_10_method_72_code
def yX8_loops : MethodName := ⟨RX8, "loops", "()I"⟩
abbrev cX8_loopSize : ByteArray := prog_10_method_73_code
def yX8_loopSize : MethodName := ⟨RX8, "loopSize", "(I)I"⟩
abbrev cX8_depthOf : ByteArray := prog_10_method_74_code
def yX8_depthOf : MethodName := ⟨RX8, "depthOf", "(I)I"⟩
abbrev cX8_isTame : ByteArray := prog_10_method_75_code
def yX8_isTame : MethodName := ⟨RX8, "isTame", "()Z"⟩
abbrev cX8_liveNow : ByteArray := prog_10_method_76_code
def yX8_liveNow : MethodName := ⟨RX8, "liveNow", "(I)I"⟩
abbrev cX8_liveIn : ByteArray := prog_10_method_77_code
def yX8_liveIn : MethodName := ⟨RX8, "liveIn", "(I)I"⟩
abbrev cX8_vain : ByteArray := prog_10_method_78_code
def yX8_vain : MethodName := ⟨RX8, "vain", "()I"⟩
abbrev cX8_windings : ByteArray := prog_10_method_79_code
def yX8_windings : MethodName := ⟨RX8, "windings", "()I"⟩
abbrev cX8_steps : ByteArray := prog_10_method_80_code
def yX8_steps : MethodName := ⟨RX8, "steps", "()I"⟩
abbrev cX8_ruleOf : ByteArray := prog_10_method_81_code
def yX8_ruleOf : MethodName := ⟨RX8, "ruleOf", "(I)I"⟩
abbrev cX8_nodeOf : ByteArray := prog_10_method_82_code
def yX8_nodeOf : MethodName := ⟨RX8, "nodeOf", "(I)I"⟩
abbrev cX8_left : ByteArray := prog_10_method_83_code
def yX8_left : MethodName := ⟨RX8, "left", "()I"⟩
abbrev cX8_isNeat : ByteArray := prog_10_method_84_code
def yX8_isNeat : MethodName := ⟨RX8, "isNeat", "()Z"⟩
abbrev cX8_endsIn : ByteArray := prog_10_method_85_code
def yX8_endsIn : MethodName := ⟨RX8, "endsIn", "(I)I"⟩
abbrev cX8_layers : ByteArray := prog_10_method_86_code
def yX8_layers : MethodName := ⟨RX8, "layers", "()I"⟩
abbrev cX8_layerNow : ByteArray := prog_10_method_87_code
def yX8_layerNow : MethodName := ⟨RX8, "layerNow", "(I)I"⟩
abbrev cX8_layerOf : ByteArray := prog_10_method_88_code
def yX8_layerOf : MethodName := ⟨RX8, "layerOf", "(I)I"⟩
abbrev cX8_isTurned : ByteArray := prog_10_method_89_code
def yX8_isTurned : MethodName := ⟨RX8, "isTurned", "(I)Z"⟩
abbrev cX8_isLayer : ByteArray := prog_10_method_90_code
def yX8_isLayer : MethodName := ⟨RX8, "isLayer", "(I)Z"⟩
abbrev cX8_points : ByteArray := prog_10_method_91_code
def yX8_points : MethodName := ⟨RX8, "points", "(I)I"⟩
abbrev cX8_pointAt : ByteArray := prog_10_method_92_code
def yX8_pointAt : MethodName := ⟨RX8, "pointAt", "(II)I"⟩
abbrev cX8_placeNow : ByteArray := prog_10_method_93_code
def yX8_placeNow : MethodName := ⟨RX8, "placeNow", "(I)I"⟩
abbrev cX8_placeOf : ByteArray := prog_10_method_94_code
def yX8_placeOf : MethodName := ⟨RX8, "placeOf", "(I)I"⟩
abbrev cX8_bendsNow : ByteArray := prog_10_method_95_code
def yX8_bendsNow : MethodName := ⟨RX8, "bendsNow", "(I)I"⟩
abbrev cX8_bends : ByteArray := prog_10_method_96_code
def yX8_bends : MethodName := ⟨RX8, "bends", "(I)I"⟩
abbrev cX8_bendAt : ByteArray := prog_10_method_97_code
def yX8_bendAt : MethodName := ⟨RX8, "bendAt", "(II)I"⟩
abbrev cX8_crossings : ByteArray := prog_10_method_98_code
def yX8_crossings : MethodName := ⟨RX8, "crossings", "()I"⟩
abbrev cX8_swept : ByteArray := prog_10_method_99_code
def yX8_swept : MethodName := ⟨RX8, "swept", "([[II)I"⟩
abbrev cX8_sweep : ByteArray := prog_10_method_100_code
def yX8_sweep : MethodName := ⟨RX8, "sweep", "(I)I"⟩
abbrev cX8_wouldCross : ByteArray := prog_10_method_101_code
def yX8_wouldCross : MethodName := ⟨RX8, "wouldCross", "(I)I"⟩
abbrev cX8_swept_ : ByteArray := prog_10_method_102_code
def yX8_swept_ : MethodName := ⟨RX8, "swept", "()I"⟩
abbrev cX8_meanLength : ByteArray := prog_10_method_103_code
def yX8_meanLength : MethodName := ⟨RX8, "meanLength", "()D"⟩
abbrev cX8_add : ByteArray := prog_10_method_104_code
def yX8_add : MethodName := ⟨RX8, "add", "(I)V"⟩
abbrev cX8_add_ : ByteArray := prog_10_method_105_code
def yX8_add_ : MethodName := ⟨RX8, "add", "(Z)V"⟩
abbrev cX8_addBlock : ByteArray := prog_10_method_106_code
def yX8_addBlock : MethodName := ⟨RX8, "addBlock", "(I)V"⟩
abbrev cX8_digest : ByteArray := prog_10_method_107_code
def yX8_digest : MethodName := ⟨RX8, "digest", "()J"⟩
def RJx145de : String := "java/io/Serializable"
def TJx145de : u_T := fun k => match k with
  | _ => ("", "", "", false)
def tyJx145de : Nat → FieldType := fun k => match k with
  | _ => .int
abbrev wsJx145de0 : List Cond := u_ws RJx145de TJx145de 0
theorem nmJx145de : ∀ a, a < 0 → ∀ b, b < 0 → a ≠ b → (TJx145de a).2.1 ≠ (TJx145de b).2.1 := by decide +kernel
theorem tyJx145de_ok : ∀ k, k < 0 → parseFieldDescriptor (TJx145de k).2.2.1 = some (tyJx145de k) := by decide +kernel
def RJx8e188 : String := "java/lang/Cloneable"
def TJx8e188 : u_T := fun k => match k with
  | _ => ("", "", "", false)
def tyJx8e188 : Nat → FieldType := fun k => match k with
  | _ => .int
abbrev wsJx8e1880 : List Cond := u_ws RJx8e188 TJx8e188 0
theorem nmJx8e188 : ∀ a, a < 0 → ∀ b, b < 0 → a ≠ b → (TJx8e188 a).2.1 ≠ (TJx8e188 b).2.1 := by decide +kernel
theorem tyJx8e188_ok : ∀ k, k < 0 → parseFieldDescriptor (TJx8e188 k).2.2.1 = some (tyJx8e188 k) := by decide +kernel
def RJxb160c : String := "java/lang/Comparable"
def TJxb160c : u_T := fun k => match k with
  | _ => ("", "", "", false)
def tyJxb160c : Nat → FieldType := fun k => match k with
  | _ => .int
abbrev wsJxb160c0 : List Cond := u_ws RJxb160c TJxb160c 0
theorem nmJxb160c : ∀ a, a < 0 → ∀ b, b < 0 → a ≠ b → (TJxb160c a).2.1 ≠ (TJxb160c b).2.1 := by decide +kernel
theorem tyJxb160c_ok : ∀ k, k < 0 → parseFieldDescriptor (TJxb160c k).2.2.1 = some (tyJxb160c k) := by decide +kernel
def RJ6 : String := "java/lang/Integer"
def TJ6 : u_T := fun k => match k with
  | _ => ("", "", "", false)
def tyJ6 : Nat → FieldType := fun k => match k with
  | _ => .int
abbrev wsJ60 : List Cond := u_ws RJ6 TJ6 0
theorem nmJ6 : ∀ a, a < 0 → ∀ b, b < 0 → a ≠ b → (TJ6 a).2.1 ≠ (TJ6 b).2.1 := by decide +kernel
theorem tyJ6_ok : ∀ k, k < 0 → parseFieldDescriptor (TJ6 k).2.2.1 = some (tyJ6 k) := by decide +kernel
abbrev cJ6_numberOfTrailingZeros_0f7a4 : ByteArray := prog_16_method_48_code
def yJ6_numberOfTrailingZeros_0f7a4 : MethodName := ⟨RJ6, "numberOfTrailingZeros", "(I)I"⟩
def RJ13 : String := "java/lang/Long"
def TJ13 : u_T := fun k => match k with
  | _ => ("", "", "", false)
def tyJ13 : Nat → FieldType := fun k => match k with
  | _ => .int
abbrev wsJ130 : List Cond := u_ws RJ13 TJ13 0
theorem nmJ13 : ∀ a, a < 0 → ∀ b, b < 0 → a ≠ b → (TJ13 a).2.1 ≠ (TJ13 b).2.1 := by decide +kernel
theorem tyJ13_ok : ∀ k, k < 0 → parseFieldDescriptor (TJ13 k).2.2.1 = some (tyJ13 k) := by decide +kernel
abbrev cJ13_numberOfTrailingZeros_95d88 : ByteArray := prog_17_method_49_code
def yJ13_numberOfTrailingZeros_95d88 : MethodName := ⟨RJ13, "numberOfTrailingZeros", "(J)I"⟩
abbrev cJ13_bitCount_95d88 : ByteArray := prog_17_method_50_code
def yJ13_bitCount_95d88 : MethodName := ⟨RJ13, "bitCount", "(J)I"⟩
def RJ9 : String := "java/lang/Math"
def TJ9 : u_T := fun k => match k with
  | _ => ("", "", "", false)
def tyJ9 : Nat → FieldType := fun k => match k with
  | _ => .int
abbrev wsJ90 : List Cond := u_ws RJ9 TJ9 0
theorem nmJ9 : ∀ a, a < 0 → ∀ b, b < 0 → a ≠ b → (TJ9 a).2.1 ≠ (TJ9 b).2.1 := by decide +kernel
theorem tyJ9_ok : ∀ k, k < 0 → parseFieldDescriptor (TJ9 k).2.2.1 = some (tyJ9 k) := by decide +kernel
abbrev cJ9_max_7cf53 : ByteArray := prog_18_method_65_code
def yJ9_max_7cf53 : MethodName := ⟨RJ9, "max", "(II)I"⟩
abbrev cJ9_min_7cf53 : ByteArray := prog_18_method_69_code
def yJ9_min_7cf53 : MethodName := ⟨RJ9, "min", "(II)I"⟩
def RJxd2413 : String := "java/lang/Number"
def TJxd2413 : u_T := fun k => match k with
  | _ => ("", "", "", false)
def tyJxd2413 : Nat → FieldType := fun k => match k with
  | _ => .int
abbrev wsJxd24130 : List Cond := u_ws RJxd2413 TJxd2413 0
theorem nmJxd2413 : ∀ a, a < 0 → ∀ b, b < 0 → a ≠ b → (TJxd2413 a).2.1 ≠ (TJxd2413 b).2.1 := by decide +kernel
theorem tyJxd2413_ok : ∀ k, k < 0 → parseFieldDescriptor (TJxd2413 k).2.2.1 = some (tyJxd2413 k) := by decide +kernel
def RJ0 : String := "java/lang/String"
def TJ0 : u_T := fun k => match k with
  | _ => ("", "", "", false)
def tyJ0 : Nat → FieldType := fun k => match k with
  | _ => .int
abbrev wsJ00 : List Cond := u_ws RJ0 TJ0 0
theorem nmJ0 : ∀ a, a < 0 → ∀ b, b < 0 → a ≠ b → (TJ0 a).2.1 ≠ (TJ0 b).2.1 := by decide +kernel
theorem tyJ0_ok : ∀ k, k < 0 → parseFieldDescriptor (TJ0 k).2.2.1 = some (tyJ0 k) := by decide +kernel
def RJ10 : String := "java/lang/System"
def TJ10 : u_T := fun k => match k with
  | _ => ("", "", "", false)
def tyJ10 : Nat → FieldType := fun k => match k with
  | _ => .int
abbrev wsJ100 : List Cond := u_ws RJ10 TJ10 0
theorem nmJ10 : ∀ a, a < 0 → ∀ b, b < 0 → a ≠ b → (TJ10 a).2.1 ≠ (TJ10 b).2.1 := by decide +kernel
theorem tyJ10_ok : ∀ k, k < 0 → parseFieldDescriptor (TJ10 k).2.2.1 = some (tyJ10 k) := by decide +kernel
def RJxfd54e : String := "java/lang/constant/Constable"
def TJxfd54e : u_T := fun k => match k with
  | _ => ("", "", "", false)
def tyJxfd54e : Nat → FieldType := fun k => match k with
  | _ => .int
abbrev wsJxfd54e0 : List Cond := u_ws RJxfd54e TJxfd54e 0
theorem nmJxfd54e : ∀ a, a < 0 → ∀ b, b < 0 → a ≠ b → (TJxfd54e a).2.1 ≠ (TJxfd54e b).2.1 := by decide +kernel
theorem tyJxfd54e_ok : ∀ k, k < 0 → parseFieldDescriptor (TJxfd54e k).2.2.1 = some (tyJxfd54e k) := by decide +kernel
def RJx3cf43 : String := "java/lang/constant/ConstantDesc"
def TJx3cf43 : u_T := fun k => match k with
  | _ => ("", "", "", false)
def tyJx3cf43 : Nat → FieldType := fun k => match k with
  | _ => .int
abbrev wsJx3cf430 : List Cond := u_ws RJx3cf43 TJx3cf43 0
theorem nmJx3cf43 : ∀ a, a < 0 → ∀ b, b < 0 → a ≠ b → (TJx3cf43 a).2.1 ≠ (TJx3cf43 b).2.1 := by decide +kernel
theorem tyJx3cf43_ok : ∀ k, k < 0 → parseFieldDescriptor (TJx3cf43 k).2.2.1 = some (tyJx3cf43 k) := by decide +kernel
def RJ7 : String := "java/util/Arrays"
def TJ7 : u_T := fun k => match k with
  | _ => ("", "", "", false)
def tyJ7 : Nat → FieldType := fun k => match k with
  | _ => .int
abbrev wsJ70 : List Cond := u_ws RJ7 TJ7 0
theorem nmJ7 : ∀ a, a < 0 → ∀ b, b < 0 → a ≠ b → (TJ7 a).2.1 ≠ (TJ7 b).2.1 := by decide +kernel
theorem tyJ7_ok : ∀ k, k < 0 → parseFieldDescriptor (TJ7 k).2.2.1 = some (tyJ7 k) := by decide +kernel
abbrev cJ7_fill_d0a16 : ByteArray := prog_24_method_101_code
def yJ7_fill_d0a16 : MethodName := ⟨RJ7, "fill", "([JJ)V"⟩
abbrev cJ7_fill_53178 : ByteArray := prog_24_method_103_code
def yJ7_fill_53178 : MethodName := ⟨RJ7, "fill", "([II)V"⟩
abbrev cJ7_fill_49daa : ByteArray := prog_24_method_111_code
def yJ7_fill_49daa : MethodName := ⟨RJ7, "fill", "([ZZ)V"⟩
abbrev cJ7_copyOf_59c91 : ByteArray := prog_24_method_123_code
def yJ7_copyOf_59c91 : MethodName := ⟨RJ7, "copyOf", "([II)[I"⟩
def RL : String := "OrielChartLaw"
abbrev cL_insert : ByteArray := method_3_code
def yL_insert : MethodName := ⟨RL, "insert", "(LOrielChart;III[J)I"⟩
abbrev cL_remove : ByteArray := method_4_code
def yL_remove : MethodName := ⟨RL, "remove", "(LOrielChart;I[J)I"⟩
abbrev cL_setTarget : ByteArray := method_5_code
def yL_setTarget : MethodName := ⟨RL, "setTarget", "(LOrielChart;II[J)I"⟩
abbrev cL_setUse : ByteArray := method_6_code
def yL_setUse : MethodName := ⟨RL, "setUse", "(LOrielChart;III[J)I"⟩
abbrev cL_kindOf : ByteArray := method_7_code
def yL_kindOf : MethodName := ⟨RL, "kindOf", "(LOrielChart;I[J)I"⟩
abbrev cL_targetOf : ByteArray := method_8_code
def yL_targetOf : MethodName := ⟨RL, "targetOf", "(LOrielChart;I[J)I"⟩
abbrev cL_blockOf : ByteArray := method_9_code
def yL_blockOf : MethodName := ⟨RL, "blockOf", "(LOrielChart;I[J)I"⟩
abbrev cL_firstOf : ByteArray := method_10_code
def yL_firstOf : MethodName := ⟨RL, "firstOf", "(LOrielChart;I[J)I"⟩
abbrev cL_isReached : ByteArray := method_11_code
def yL_isReached : MethodName := ⟨RL, "isReached", "(LOrielChart;I[J)I"⟩
abbrev cL_edgeFrom : ByteArray := method_12_code
def yL_edgeFrom : MethodName := ⟨RL, "edgeFrom", "(LOrielChart;I[J)I"⟩
abbrev cL_edgeTo : ByteArray := method_13_code
def yL_edgeTo : MethodName := ⟨RL, "edgeTo", "(LOrielChart;I[J)I"⟩
abbrev cL_dominates : ByteArray := method_14_code
def yL_dominates : MethodName := ⟨RL, "dominates", "(LOrielChart;II[J)I"⟩
abbrev cL_parentOf : ByteArray := method_15_code
def yL_parentOf : MethodName := ⟨RL, "parentOf", "(LOrielChart;I[J)I"⟩
abbrev cL_comesBehind : ByteArray := method_16_code
def yL_comesBehind : MethodName := ⟨RL, "comesBehind", "(LOrielChart;II[J)I"⟩
abbrev cL_isBack : ByteArray := method_17_code
def yL_isBack : MethodName := ⟨RL, "isBack", "(LOrielChart;I[J)I"⟩
abbrev cL_loopSize : ByteArray := method_18_code
def yL_loopSize : MethodName := ⟨RL, "loopSize", "(LOrielChart;I[J)I"⟩
abbrev cL_depthOf : ByteArray := method_19_code
def yL_depthOf : MethodName := ⟨RL, "depthOf", "(LOrielChart;I[J)I"⟩
abbrev cL_liveIn : ByteArray := method_20_code
def yL_liveIn : MethodName := ⟨RL, "liveIn", "(LOrielChart;I[J)I"⟩
abbrev cL_ruleOf : ByteArray := method_21_code
def yL_ruleOf : MethodName := ⟨RL, "ruleOf", "(LOrielChart;I[J)I"⟩
abbrev cL_nodeOf : ByteArray := method_22_code
def yL_nodeOf : MethodName := ⟨RL, "nodeOf", "(LOrielChart;I[J)I"⟩
abbrev cL_endsIn : ByteArray := method_23_code
def yL_endsIn : MethodName := ⟨RL, "endsIn", "(LOrielChart;I[J)I"⟩
abbrev cL_layerOf : ByteArray := method_24_code
def yL_layerOf : MethodName := ⟨RL, "layerOf", "(LOrielChart;I[J)I"⟩
abbrev cL_isTurned : ByteArray := method_25_code
def yL_isTurned : MethodName := ⟨RL, "isTurned", "(LOrielChart;I[J)I"⟩
abbrev cL_points : ByteArray := method_26_code
def yL_points : MethodName := ⟨RL, "points", "(LOrielChart;I[J)I"⟩
abbrev cL_pointAt : ByteArray := method_27_code
def yL_pointAt : MethodName := ⟨RL, "pointAt", "(LOrielChart;II[J)I"⟩
abbrev cL_placeOf : ByteArray := method_28_code
def yL_placeOf : MethodName := ⟨RL, "placeOf", "(LOrielChart;I[J)I"⟩
abbrev cL_bends : ByteArray := method_29_code
def yL_bends : MethodName := ⟨RL, "bends", "(LOrielChart;I[J)I"⟩
abbrev cL_bendAt : ByteArray := method_30_code
def yL_bendAt : MethodName := ⟨RL, "bendAt", "(LOrielChart;II[J)I"⟩
abbrev cL_sweep : ByteArray := method_31_code
def yL_sweep : MethodName := ⟨RL, "sweep", "(LOrielChart;I[J)I"⟩
abbrev cL_wouldCross : ByteArray := method_32_code
def yL_wouldCross : MethodName := ⟨RL, "wouldCross", "(LOrielChart;I[J)I"⟩
abbrev cL_law : ByteArray := code
def yL_law : MethodName := ⟨RL, "law", "([I)Z"⟩
abbrev vwCl : List vw_C := [(RX0, TX0, 5), (RX1, TX1, 11), (RX2, TX2, 3), (RX3, TX3, 16), (RX4, TX4, 7), (RX5, TX5, 8), (RX6, TX6, 9), (RX7, TX7, 6), (RX8, TX8, 32)]
end
section
theorem inT1 : ∀ w ∈ tables_1_1, w ∈ lw_tbl := fun w h => List.mem_append_right _ (List.mem_append_left _ h)
theorem inT2 : ∀ w ∈ tables_1_2, w ∈ lw_tbl := fun w h => List.mem_append_right _ (List.mem_append_right _ (List.mem_append_left _ h))
theorem inT3 : ∀ w ∈ tables_1_3, w ∈ lw_tbl := fun w h => List.mem_append_right _ (List.mem_append_right _ (List.mem_append_right _ (List.mem_append_left _ h)))
theorem inT4 : ∀ w ∈ tables_1_4, w ∈ lw_tbl := fun w h => List.mem_append_right _ (List.mem_append_right _ (List.mem_append_right _ (List.mem_append_right _ (List.mem_append_left _ h))))
theorem inT5 : ∀ w ∈ tables_1_5, w ∈ lw_tbl := fun w h => List.mem_append_right _ (List.mem_append_right _ (List.mem_append_right _ (List.mem_append_right _ (List.mem_append_right _ (List.mem_append_left _ h)))))
theorem inT6 : ∀ w ∈ tables_1_6, w ∈ lw_tbl := fun w h => List.mem_append_right _ (List.mem_append_right _ (List.mem_append_right _ (List.mem_append_right _ (List.mem_append_right _ (List.mem_append_right _ (List.mem_append_left _ h))))))
theorem inT7 : ∀ w ∈ tables_1_7, w ∈ lw_tbl := fun w h => List.mem_append_right _ (List.mem_append_right _ (List.mem_append_right _ (List.mem_append_right _ (List.mem_append_right _ (List.mem_append_right _ (List.mem_append_right _ (List.mem_append_left _ h)))))))
theorem inT8 : ∀ w ∈ tables_1_8, w ∈ lw_tbl := fun w h => List.mem_append_right _ (List.mem_append_right _ (List.mem_append_right _ (List.mem_append_right _ (List.mem_append_right _ (List.mem_append_right _ (List.mem_append_right _ (List.mem_append_right _ (h))))))))
theorem inTp {q : MethodName × Nat} (h : q ∈ lw_privs) : Cond.selects q.1.cls q.1 q.1 ∈ lw_tbl := List.mem_append_left _ (List.mem_map.mpr ⟨q, h, rfl⟩)
def NLm : List Cond := [Cond.methodLinkNest RX7 9 yX0_init "OrielChart", Cond.fieldLinkNest RX1 77 "OrielChart$Code" "kind" "[I" "OrielChart", Cond.fieldLinkNest RX7 92 "OrielChart$Code" "kind" "[I" "OrielChart", Cond.fieldLinkNest RX1 88 "OrielChart$Code" "target" "[I" "OrielChart", Cond.fieldLinkNest RX7 102 "OrielChart$Code" "target" "[I" "OrielChart", Cond.fieldLinkNest RX2 62 "OrielChart$Code" "sets" "[I" "OrielChart", Cond.fieldLinkNest RX7 116 "OrielChart$Code" "sets" "[I" "OrielChart", Cond.fieldLinkNest RX7 113 "OrielChart$Code" "uses" "[I" "OrielChart", Cond.fieldLinkNest RX2 74 "OrielChart$Code" "uses" "[I" "OrielChart", Cond.fieldLinkNest RX1 34 "OrielChart$Code" "count" "I" "OrielChart", Cond.fieldLinkNest RX7 51 "OrielChart$Code" "count" "I" "OrielChart", Cond.methodLinkNest RX7 18 yX1_init "OrielChart", Cond.fieldLinkNest RX7 130 "OrielChart$Flow" "home" "[I" "OrielChart", Cond.fieldLinkNest RX2 55 "OrielChart$Flow" "first" "[I" "OrielChart", Cond.fieldLinkNest RX7 136 "OrielChart$Flow" "first" "[I" "OrielChart", Cond.fieldLinkNest RX2 48 "OrielChart$Flow" "last" "[I" "OrielChart", Cond.fieldLinkNest RX4 81 "OrielChart$Flow" "from" "[I" "OrielChart", Cond.fieldLinkNest RX7 153 "OrielChart$Flow" "from" "[I" "OrielChart", Cond.fieldLinkNest RX4 88 "OrielChart$Flow" "to" "[I" "OrielChart", Cond.fieldLinkNest RX6 70 "OrielChart$Flow" "to" "[I" "OrielChart", Cond.fieldLinkNest RX7 156 "OrielChart$Flow" "to" "[I" "OrielChart", Cond.fieldLinkNest RX6 61 "OrielChart$Flow" "firstEdge" "[I" "OrielChart", Cond.fieldLinkNest RX5 45 "OrielChart$Flow" "next" "[J" "OrielChart", Cond.fieldLinkNest RX4 69 "OrielChart$Flow" "next" "[J" "OrielChart", Cond.fieldLinkNest RX2 67 "OrielChart$Flow" "next" "[J" "OrielChart", Cond.fieldLinkNest RX6 45 "OrielChart$Flow" "blockCount" "I" "OrielChart", Cond.fieldLinkNest RX2 27 "OrielChart$Flow" "blockCount" "I" "OrielChart", Cond.fieldLinkNest RX4 54 "OrielChart$Flow" "blockCount" "I" "OrielChart", Cond.fieldLinkNest RX7 127 "OrielChart$Flow" "blockCount" "I" "OrielChart", Cond.fieldLinkNest RX3 52 "OrielChart$Flow" "edgeCount" "I" "OrielChart", Cond.fieldLinkNest RX4 78 "OrielChart$Flow" "edgeCount" "I" "OrielChart", Cond.fieldLinkNest RX7 147 "OrielChart$Flow" "edgeCount" "I" "OrielChart", Cond.fieldLinkNest RX5 28 "OrielChart$Flow" "reached" "J" "OrielChart", Cond.fieldLinkNest RX4 24 "OrielChart$Flow" "reached" "J" "OrielChart", Cond.fieldLinkNest RX2 32 "OrielChart$Flow" "reached" "J" "OrielChart", Cond.fieldLinkNest RX7 139 "OrielChart$Flow" "reached" "J" "OrielChart", Cond.fieldLinkNest RX7 333 "OrielChart$Flow" "fresh" "Z" "OrielChart", Cond.methodLinkNest RX7 25 yX4_init "OrielChart", Cond.fieldLinkNest RX7 181 "OrielChart$Ranks" "loop" "[J" "OrielChart", Cond.fieldLinkNest RX7 178 "OrielChart$Ranks" "loopCount" "I" "OrielChart", Cond.fieldLinkNest RX7 197 "OrielChart$Ranks" "tame" "Z" "OrielChart", Cond.fieldLinkNest RX7 334 "OrielChart$Ranks" "fresh" "Z" "OrielChart", Cond.methodLinkNest RX7 32 yX2_init "OrielChart", Cond.fieldLinkNest RX7 204 "OrielChart$Lives" "live" "[I" "OrielChart", Cond.fieldLinkNest RX7 207 "OrielChart$Lives" "vainCount" "I" "OrielChart", Cond.fieldLinkNest RX7 119 "OrielChart$Lives" "fresh" "Z" "OrielChart", Cond.methodLinkNest RX7 39 yX5_init "OrielChart", Cond.fieldLinkNest RX7 233 "OrielChart$Reduction" "home" "[I" "OrielChart", Cond.fieldLinkNest RX7 224 "OrielChart$Reduction" "rule" "[I" "OrielChart", Cond.fieldLinkNest RX7 227 "OrielChart$Reduction" "node" "[I" "OrielChart", Cond.fieldLinkNest RX7 230 "OrielChart$Reduction" "nodes" "J" "OrielChart", Cond.fieldLinkNest RX7 218 "OrielChart$Reduction" "stepCount" "I" "OrielChart", Cond.fieldLinkNest RX7 335 "OrielChart$Reduction" "fresh" "Z" "OrielChart", Cond.methodLinkNest RX7 46 yX3_init "OrielChart", Cond.methodLinkNest RX3 11 yX6_init "OrielChart", Cond.fieldLinkNest RX3 124 "OrielChart$Walk" "came" "[I" "OrielChart", Cond.fieldLinkNest RX3 115 "OrielChart$Walk" "upper" "[I" "OrielChart", Cond.fieldLinkNest RX3 108 "OrielChart$Walk" "lower" "[I" "OrielChart", Cond.fieldLinkNest RX3 121 "OrielChart$Walk" "cameCount" "I" "OrielChart", Cond.fieldLinkNest RX3 83 "OrielChart$Walk" "seen" "J" "OrielChart", Cond.fieldLinkNest RX7 244 "OrielChart$Picture" "walk" "LOrielChart$Walk;" "OrielChart", Cond.fieldLinkNest RX7 241 "OrielChart$Picture" "layer" "[I" "OrielChart", Cond.fieldLinkNest RX7 238 "OrielChart$Picture" "layerCount" "I" "OrielChart", Cond.fieldLinkNest RX7 289 "OrielChart$Picture" "sweeps" "I" "OrielChart", Cond.fieldLinkNest RX7 336 "OrielChart$Picture" "fresh" "Z" "OrielChart", Cond.methodLinkNest RX1 80 yX7_at "OrielChart", Cond.methodLinkNest RX1 65 yX7_bit "OrielChart", Cond.methodLinkNest RX1 84 yX7_jumps "OrielChart", Cond.methodLinkNest RX1 91 yX7_has "OrielChart", Cond.methodLinkNest RX1 54 yX7_put "OrielChart", Cond.methodLinkNest RX1 58 yX7_put_ "OrielChart", Cond.methodLinkNest RX1 99 yX7_at_ "OrielChart", Cond.methodLinkNest RX1 69 yX7_spread "OrielChart", Cond.methodLinkNest RX4 30 yX7_has "OrielChart", Cond.methodLinkNest RX4 72 yX7_bit "OrielChart", Cond.methodLinkNest RX4 65 yX7_spread "OrielChart", Cond.methodLinkNest RX4 38 yX7_put_ "OrielChart", Cond.methodLinkNest RX4 85 yX7_at "OrielChart", Cond.methodLinkNest RX4 61 yX7_at_ "OrielChart", Cond.methodLinkNest RX2 15 yX7_put "OrielChart", Cond.methodLinkNest RX2 36 yX7_has "OrielChart", Cond.methodLinkNest RX2 71 yX7_at_ "OrielChart", Cond.methodLinkNest RX2 51 yX7_at "OrielChart", Cond.methodLinkNest RX5 41 yX7_has "OrielChart", Cond.methodLinkNest RX5 46 yX7_at_ "OrielChart", Cond.methodLinkNest RX5 50 yX7_put_ "OrielChart", Cond.methodLinkNest RX5 54 yX7_put "OrielChart", Cond.methodLinkNest RX5 72 yX7_bit "OrielChart", Cond.methodLinkNest RX5 84 yX7_lowest "OrielChart", Cond.methodLinkNest RX5 87 yX7_at "OrielChart", Cond.methodLinkNest RX6 41 yX7_put "OrielChart", Cond.methodLinkNest RX6 54 yX7_at "OrielChart", Cond.methodLinkNest RX6 64 yX7_bit "OrielChart", Cond.methodLinkNest RX6 73 yX7_has "OrielChart", Cond.methodLinkNest RX3 87 yX7_has "OrielChart", Cond.methodLinkNest RX3 75 yX7_put "OrielChart", Cond.methodLinkNest RX3 95 yX7_at "OrielChart", Cond.methodLinkNest RX0 39 yX7_at "OrielChart", Cond.methodLinkNest RX0 35 yX7_put "OrielChart", Cond.castable "java/lang/IllegalArgumentException" "java/lang/IllegalArgumentException", Cond.declares ⟨"java/lang/RuntimeException", "<init>", "()V"⟩, Cond.declares ⟨"java/lang/RuntimeException", "<init>", "(Ljava/lang/String;)V"⟩, Cond.declares ⟨"java/lang/Exception", "<init>", "()V"⟩, Cond.declares ⟨"java/lang/Exception", "<init>", "(Ljava/lang/String;)V"⟩, Cond.declares ⟨"java/lang/Throwable", "<init>", "()V"⟩, Cond.declares ⟨"java/lang/Throwable", "<init>", "(Ljava/lang/String;)V"⟩, Cond.castable "java/lang/IllegalStateException" "java/lang/IllegalStateException", Cond.castable "java/lang/IndexOutOfBoundsException" "java/lang/IndexOutOfBoundsException", Cond.castable "[I" "java/lang/Cloneable", Cond.castable "[[I" "java/lang/Cloneable"]
theorem nw_0 : Cond.methodLinkNest RX7 9 yX0_init "OrielChart" ∈ NLm := List.mem_of_getElem? (i := 0) rfl
theorem nw_1 : Cond.fieldLinkNest RX1 77 "OrielChart$Code" "kind" "[I" "OrielChart" ∈ NLm := List.mem_of_getElem? (i := 1) rfl
theorem nw_2 : Cond.fieldLinkNest RX7 92 "OrielChart$Code" "kind" "[I" "OrielChart" ∈ NLm := List.mem_of_getElem? (i := 2) rfl
theorem nw_3 : Cond.fieldLinkNest RX1 88 "OrielChart$Code" "target" "[I" "OrielChart" ∈ NLm := List.mem_of_getElem? (i := 3) rfl
theorem nw_4 : Cond.fieldLinkNest RX7 102 "OrielChart$Code" "target" "[I" "OrielChart" ∈ NLm := List.mem_of_getElem? (i := 4) rfl
theorem nw_5 : Cond.fieldLinkNest RX2 62 "OrielChart$Code" "sets" "[I" "OrielChart" ∈ NLm := List.mem_of_getElem? (i := 5) rfl
theorem nw_6 : Cond.fieldLinkNest RX7 116 "OrielChart$Code" "sets" "[I" "OrielChart" ∈ NLm := List.mem_of_getElem? (i := 6) rfl
theorem nw_7 : Cond.fieldLinkNest RX7 113 "OrielChart$Code" "uses" "[I" "OrielChart" ∈ NLm := List.mem_of_getElem? (i := 7) rfl
theorem nw_8 : Cond.fieldLinkNest RX2 74 "OrielChart$Code" "uses" "[I" "OrielChart" ∈ NLm := List.mem_of_getElem? (i := 8) rfl
theorem nw_9 : Cond.fieldLinkNest RX1 34 "OrielChart$Code" "count" "I" "OrielChart" ∈ NLm := List.mem_of_getElem? (i := 9) rfl
theorem nw_10 : Cond.fieldLinkNest RX7 51 "OrielChart$Code" "count" "I" "OrielChart" ∈ NLm := List.mem_of_getElem? (i := 10) rfl
theorem nw_11 : Cond.methodLinkNest RX7 18 yX1_init "OrielChart" ∈ NLm := List.mem_of_getElem? (i := 11) rfl
theorem nw_12 : Cond.fieldLinkNest RX7 130 "OrielChart$Flow" "home" "[I" "OrielChart" ∈ NLm := List.mem_of_getElem? (i := 12) rfl
theorem nw_13 : Cond.fieldLinkNest RX2 55 "OrielChart$Flow" "first" "[I" "OrielChart" ∈ NLm := List.mem_of_getElem? (i := 13) rfl
theorem nw_14 : Cond.fieldLinkNest RX7 136 "OrielChart$Flow" "first" "[I" "OrielChart" ∈ NLm := List.mem_of_getElem? (i := 14) rfl
theorem nw_15 : Cond.fieldLinkNest RX2 48 "OrielChart$Flow" "last" "[I" "OrielChart" ∈ NLm := List.mem_of_getElem? (i := 15) rfl
theorem nw_16 : Cond.fieldLinkNest RX4 81 "OrielChart$Flow" "from" "[I" "OrielChart" ∈ NLm := List.mem_of_getElem? (i := 16) rfl
theorem nw_17 : Cond.fieldLinkNest RX7 153 "OrielChart$Flow" "from" "[I" "OrielChart" ∈ NLm := List.mem_of_getElem? (i := 17) rfl
theorem nw_18 : Cond.fieldLinkNest RX4 88 "OrielChart$Flow" "to" "[I" "OrielChart" ∈ NLm := List.mem_of_getElem? (i := 18) rfl
theorem nw_19 : Cond.fieldLinkNest RX6 70 "OrielChart$Flow" "to" "[I" "OrielChart" ∈ NLm := List.mem_of_getElem? (i := 19) rfl
theorem nw_20 : Cond.fieldLinkNest RX7 156 "OrielChart$Flow" "to" "[I" "OrielChart" ∈ NLm := List.mem_of_getElem? (i := 20) rfl
theorem nw_21 : Cond.fieldLinkNest RX6 61 "OrielChart$Flow" "firstEdge" "[I" "OrielChart" ∈ NLm := List.mem_of_getElem? (i := 21) rfl
theorem nw_22 : Cond.fieldLinkNest RX5 45 "OrielChart$Flow" "next" "[J" "OrielChart" ∈ NLm := List.mem_of_getElem? (i := 22) rfl
theorem nw_23 : Cond.fieldLinkNest RX4 69 "OrielChart$Flow" "next" "[J" "OrielChart" ∈ NLm := List.mem_of_getElem? (i := 23) rfl
theorem nw_24 : Cond.fieldLinkNest RX2 67 "OrielChart$Flow" "next" "[J" "OrielChart" ∈ NLm := List.mem_of_getElem? (i := 24) rfl
theorem nw_25 : Cond.fieldLinkNest RX6 45 "OrielChart$Flow" "blockCount" "I" "OrielChart" ∈ NLm := List.mem_of_getElem? (i := 25) rfl
theorem nw_26 : Cond.fieldLinkNest RX2 27 "OrielChart$Flow" "blockCount" "I" "OrielChart" ∈ NLm := List.mem_of_getElem? (i := 26) rfl
theorem nw_27 : Cond.fieldLinkNest RX4 54 "OrielChart$Flow" "blockCount" "I" "OrielChart" ∈ NLm := List.mem_of_getElem? (i := 27) rfl
theorem nw_28 : Cond.fieldLinkNest RX7 127 "OrielChart$Flow" "blockCount" "I" "OrielChart" ∈ NLm := List.mem_of_getElem? (i := 28) rfl
theorem nw_29 : Cond.fieldLinkNest RX3 52 "OrielChart$Flow" "edgeCount" "I" "OrielChart" ∈ NLm := List.mem_of_getElem? (i := 29) rfl
theorem nw_30 : Cond.fieldLinkNest RX4 78 "OrielChart$Flow" "edgeCount" "I" "OrielChart" ∈ NLm := List.mem_of_getElem? (i := 30) rfl
theorem nw_31 : Cond.fieldLinkNest RX7 147 "OrielChart$Flow" "edgeCount" "I" "OrielChart" ∈ NLm := List.mem_of_getElem? (i := 31) rfl
theorem nw_32 : Cond.fieldLinkNest RX5 28 "OrielChart$Flow" "reached" "J" "OrielChart" ∈ NLm := List.mem_of_getElem? (i := 32) rfl
theorem nw_33 : Cond.fieldLinkNest RX4 24 "OrielChart$Flow" "reached" "J" "OrielChart" ∈ NLm := List.mem_of_getElem? (i := 33) rfl
theorem nw_34 : Cond.fieldLinkNest RX2 32 "OrielChart$Flow" "reached" "J" "OrielChart" ∈ NLm := List.mem_of_getElem? (i := 34) rfl
theorem nw_35 : Cond.fieldLinkNest RX7 139 "OrielChart$Flow" "reached" "J" "OrielChart" ∈ NLm := List.mem_of_getElem? (i := 35) rfl
theorem nw_36 : Cond.fieldLinkNest RX7 333 "OrielChart$Flow" "fresh" "Z" "OrielChart" ∈ NLm := List.mem_of_getElem? (i := 36) rfl
theorem nw_37 : Cond.methodLinkNest RX7 25 yX4_init "OrielChart" ∈ NLm := List.mem_of_getElem? (i := 37) rfl
theorem nw_38 : Cond.fieldLinkNest RX7 181 "OrielChart$Ranks" "loop" "[J" "OrielChart" ∈ NLm := List.mem_of_getElem? (i := 38) rfl
theorem nw_39 : Cond.fieldLinkNest RX7 178 "OrielChart$Ranks" "loopCount" "I" "OrielChart" ∈ NLm := List.mem_of_getElem? (i := 39) rfl
theorem nw_40 : Cond.fieldLinkNest RX7 197 "OrielChart$Ranks" "tame" "Z" "OrielChart" ∈ NLm := List.mem_of_getElem? (i := 40) rfl
theorem nw_41 : Cond.fieldLinkNest RX7 334 "OrielChart$Ranks" "fresh" "Z" "OrielChart" ∈ NLm := List.mem_of_getElem? (i := 41) rfl
theorem nw_42 : Cond.methodLinkNest RX7 32 yX2_init "OrielChart" ∈ NLm := List.mem_of_getElem? (i := 42) rfl
theorem nw_43 : Cond.fieldLinkNest RX7 204 "OrielChart$Lives" "live" "[I" "OrielChart" ∈ NLm := List.mem_of_getElem? (i := 43) rfl
theorem nw_44 : Cond.fieldLinkNest RX7 207 "OrielChart$Lives" "vainCount" "I" "OrielChart" ∈ NLm := List.mem_of_getElem? (i := 44) rfl
theorem nw_45 : Cond.fieldLinkNest RX7 119 "OrielChart$Lives" "fresh" "Z" "OrielChart" ∈ NLm := List.mem_of_getElem? (i := 45) rfl
theorem nw_46 : Cond.methodLinkNest RX7 39 yX5_init "OrielChart" ∈ NLm := List.mem_of_getElem? (i := 46) rfl
theorem nw_47 : Cond.fieldLinkNest RX7 233 "OrielChart$Reduction" "home" "[I" "OrielChart" ∈ NLm := List.mem_of_getElem? (i := 47) rfl
theorem nw_48 : Cond.fieldLinkNest RX7 224 "OrielChart$Reduction" "rule" "[I" "OrielChart" ∈ NLm := List.mem_of_getElem? (i := 48) rfl
theorem nw_49 : Cond.fieldLinkNest RX7 227 "OrielChart$Reduction" "node" "[I" "OrielChart" ∈ NLm := List.mem_of_getElem? (i := 49) rfl
theorem nw_50 : Cond.fieldLinkNest RX7 230 "OrielChart$Reduction" "nodes" "J" "OrielChart" ∈ NLm := List.mem_of_getElem? (i := 50) rfl
theorem nw_51 : Cond.fieldLinkNest RX7 218 "OrielChart$Reduction" "stepCount" "I" "OrielChart" ∈ NLm := List.mem_of_getElem? (i := 51) rfl
theorem nw_52 : Cond.fieldLinkNest RX7 335 "OrielChart$Reduction" "fresh" "Z" "OrielChart" ∈ NLm := List.mem_of_getElem? (i := 52) rfl
theorem nw_53 : Cond.methodLinkNest RX7 46 yX3_init "OrielChart" ∈ NLm := List.mem_of_getElem? (i := 53) rfl
theorem nw_54 : Cond.methodLinkNest RX3 11 yX6_init "OrielChart" ∈ NLm := List.mem_of_getElem? (i := 54) rfl
theorem nw_55 : Cond.fieldLinkNest RX3 124 "OrielChart$Walk" "came" "[I" "OrielChart" ∈ NLm := List.mem_of_getElem? (i := 55) rfl
theorem nw_56 : Cond.fieldLinkNest RX3 115 "OrielChart$Walk" "upper" "[I" "OrielChart" ∈ NLm := List.mem_of_getElem? (i := 56) rfl
theorem nw_57 : Cond.fieldLinkNest RX3 108 "OrielChart$Walk" "lower" "[I" "OrielChart" ∈ NLm := List.mem_of_getElem? (i := 57) rfl
theorem nw_58 : Cond.fieldLinkNest RX3 121 "OrielChart$Walk" "cameCount" "I" "OrielChart" ∈ NLm := List.mem_of_getElem? (i := 58) rfl
theorem nw_59 : Cond.fieldLinkNest RX3 83 "OrielChart$Walk" "seen" "J" "OrielChart" ∈ NLm := List.mem_of_getElem? (i := 59) rfl
theorem nw_60 : Cond.fieldLinkNest RX7 244 "OrielChart$Picture" "walk" "LOrielChart$Walk;" "OrielChart" ∈ NLm := List.mem_of_getElem? (i := 60) rfl
theorem nw_61 : Cond.fieldLinkNest RX7 241 "OrielChart$Picture" "layer" "[I" "OrielChart" ∈ NLm := List.mem_of_getElem? (i := 61) rfl
theorem nw_62 : Cond.fieldLinkNest RX7 238 "OrielChart$Picture" "layerCount" "I" "OrielChart" ∈ NLm := List.mem_of_getElem? (i := 62) rfl
theorem nw_63 : Cond.fieldLinkNest RX7 289 "OrielChart$Picture" "sweeps" "I" "OrielChart" ∈ NLm := List.mem_of_getElem? (i := 63) rfl
theorem nw_64 : Cond.fieldLinkNest RX7 336 "OrielChart$Picture" "fresh" "Z" "OrielChart" ∈ NLm := List.mem_of_getElem? (i := 64) rfl
theorem nw_65 : Cond.methodLinkNest RX1 80 yX7_at "OrielChart" ∈ NLm := List.mem_of_getElem? (i := 65) rfl
theorem nw_66 : Cond.methodLinkNest RX1 65 yX7_bit "OrielChart" ∈ NLm := List.mem_of_getElem? (i := 66) rfl
theorem nw_67 : Cond.methodLinkNest RX1 84 yX7_jumps "OrielChart" ∈ NLm := List.mem_of_getElem? (i := 67) rfl
theorem nw_68 : Cond.methodLinkNest RX1 91 yX7_has "OrielChart" ∈ NLm := List.mem_of_getElem? (i := 68) rfl
theorem nw_69 : Cond.methodLinkNest RX1 54 yX7_put "OrielChart" ∈ NLm := List.mem_of_getElem? (i := 69) rfl
theorem nw_70 : Cond.methodLinkNest RX1 58 yX7_put_ "OrielChart" ∈ NLm := List.mem_of_getElem? (i := 70) rfl
theorem nw_71 : Cond.methodLinkNest RX1 99 yX7_at_ "OrielChart" ∈ NLm := List.mem_of_getElem? (i := 71) rfl
theorem nw_72 : Cond.methodLinkNest RX1 69 yX7_spread "OrielChart" ∈ NLm := List.mem_of_getElem? (i := 72) rfl
theorem nw_73 : Cond.methodLinkNest RX4 30 yX7_has "OrielChart" ∈ NLm := List.mem_of_getElem? (i := 73) rfl
theorem nw_74 : Cond.methodLinkNest RX4 72 yX7_bit "OrielChart" ∈ NLm := List.mem_of_getElem? (i := 74) rfl
theorem nw_75 : Cond.methodLinkNest RX4 65 yX7_spread "OrielChart" ∈ NLm := List.mem_of_getElem? (i := 75) rfl
theorem nw_76 : Cond.methodLinkNest RX4 38 yX7_put_ "OrielChart" ∈ NLm := List.mem_of_getElem? (i := 76) rfl
theorem nw_77 : Cond.methodLinkNest RX4 85 yX7_at "OrielChart" ∈ NLm := List.mem_of_getElem? (i := 77) rfl
theorem nw_78 : Cond.methodLinkNest RX4 61 yX7_at_ "OrielChart" ∈ NLm := List.mem_of_getElem? (i := 78) rfl
theorem nw_79 : Cond.methodLinkNest RX2 15 yX7_put "OrielChart" ∈ NLm := List.mem_of_getElem? (i := 79) rfl
theorem nw_80 : Cond.methodLinkNest RX2 36 yX7_has "OrielChart" ∈ NLm := List.mem_of_getElem? (i := 80) rfl
theorem nw_81 : Cond.methodLinkNest RX2 71 yX7_at_ "OrielChart" ∈ NLm := List.mem_of_getElem? (i := 81) rfl
theorem nw_82 : Cond.methodLinkNest RX2 51 yX7_at "OrielChart" ∈ NLm := List.mem_of_getElem? (i := 82) rfl
theorem nw_83 : Cond.methodLinkNest RX5 41 yX7_has "OrielChart" ∈ NLm := List.mem_of_getElem? (i := 83) rfl
theorem nw_84 : Cond.methodLinkNest RX5 46 yX7_at_ "OrielChart" ∈ NLm := List.mem_of_getElem? (i := 84) rfl
theorem nw_85 : Cond.methodLinkNest RX5 50 yX7_put_ "OrielChart" ∈ NLm := List.mem_of_getElem? (i := 85) rfl
theorem nw_86 : Cond.methodLinkNest RX5 54 yX7_put "OrielChart" ∈ NLm := List.mem_of_getElem? (i := 86) rfl
theorem nw_87 : Cond.methodLinkNest RX5 72 yX7_bit "OrielChart" ∈ NLm := List.mem_of_getElem? (i := 87) rfl
theorem nw_88 : Cond.methodLinkNest RX5 84 yX7_lowest "OrielChart" ∈ NLm := List.mem_of_getElem? (i := 88) rfl
theorem nw_89 : Cond.methodLinkNest RX5 87 yX7_at "OrielChart" ∈ NLm := List.mem_of_getElem? (i := 89) rfl
theorem nw_90 : Cond.methodLinkNest RX6 41 yX7_put "OrielChart" ∈ NLm := List.mem_of_getElem? (i := 90) rfl
theorem nw_91 : Cond.methodLinkNest RX6 54 yX7_at "OrielChart" ∈ NLm := List.mem_of_getElem? (i := 91) rfl
theorem nw_92 : Cond.methodLinkNest RX6 64 yX7_bit "OrielChart" ∈ NLm := List.mem_of_getElem? (i := 92) rfl
theorem nw_93 : Cond.methodLinkNest RX6 73 yX7_has "OrielChart" ∈ NLm := List.mem_of_getElem? (i := 93) rfl
theorem nw_94 : Cond.methodLinkNest RX3 87 yX7_has "OrielChart" ∈ NLm := List.mem_of_getElem? (i := 94) rfl
theorem nw_95 : Cond.methodLinkNest RX3 75 yX7_put "OrielChart" ∈ NLm := List.mem_of_getElem? (i := 95) rfl
theorem nw_96 : Cond.methodLinkNest RX3 95 yX7_at "OrielChart" ∈ NLm := List.mem_of_getElem? (i := 96) rfl
theorem nw_97 : Cond.methodLinkNest RX0 39 yX7_at "OrielChart" ∈ NLm := List.mem_of_getElem? (i := 97) rfl
theorem nw_98 : Cond.methodLinkNest RX0 35 yX7_put "OrielChart" ∈ NLm := List.mem_of_getElem? (i := 98) rfl
theorem nw_99 : Cond.castable "java/lang/IllegalArgumentException" "java/lang/IllegalArgumentException" ∈ NLm := List.mem_of_getElem? (i := 99) rfl
theorem nw_100 : Cond.declares ⟨"java/lang/RuntimeException", "<init>", "()V"⟩ ∈ NLm := List.mem_of_getElem? (i := 100) rfl
theorem nw_101 : Cond.declares ⟨"java/lang/RuntimeException", "<init>", "(Ljava/lang/String;)V"⟩ ∈ NLm := List.mem_of_getElem? (i := 101) rfl
theorem nw_102 : Cond.declares ⟨"java/lang/Exception", "<init>", "()V"⟩ ∈ NLm := List.mem_of_getElem? (i := 102) rfl
theorem nw_103 : Cond.declares ⟨"java/lang/Exception", "<init>", "(Ljava/lang/String;)V"⟩ ∈ NLm := List.mem_of_getElem? (i := 103) rfl
theorem nw_104 : Cond.declares ⟨"java/lang/Throwable", "<init>", "()V"⟩ ∈ NLm := List.mem_of_getElem? (i := 104) rfl
theorem nw_105 : Cond.declares ⟨"java/lang/Throwable", "<init>", "(Ljava/lang/String;)V"⟩ ∈ NLm := List.mem_of_getElem? (i := 105) rfl
theorem nw_106 : Cond.castable "java/lang/IllegalStateException" "java/lang/IllegalStateException" ∈ NLm := List.mem_of_getElem? (i := 106) rfl
theorem nw_107 : Cond.castable "java/lang/IndexOutOfBoundsException" "java/lang/IndexOutOfBoundsException" ∈ NLm := List.mem_of_getElem? (i := 107) rfl
theorem nw_108 : Cond.castable "[I" "java/lang/Cloneable" ∈ NLm := List.mem_of_getElem? (i := 108) rfl
theorem nw_109 : Cond.castable "[[I" "java/lang/Cloneable" ∈ NLm := List.mem_of_getElem? (i := 109) rfl
theorem nt_0 : Cond.methodLinkNest RX7 9 yX0_init "OrielChart" ∈ lw_tbl := inT1 _ (List.mem_of_getElem? (i := 32) rfl)
theorem nt_1 : Cond.fieldLinkNest RX1 77 "OrielChart$Code" "kind" "[I" "OrielChart" ∈ lw_tbl := inT1 _ (List.mem_of_getElem? (i := 37) rfl)
theorem nt_2 : Cond.fieldLinkNest RX7 92 "OrielChart$Code" "kind" "[I" "OrielChart" ∈ lw_tbl := inT1 _ (List.mem_of_getElem? (i := 38) rfl)
theorem nt_3 : Cond.fieldLinkNest RX1 88 "OrielChart$Code" "target" "[I" "OrielChart" ∈ lw_tbl := inT1 _ (List.mem_of_getElem? (i := 40) rfl)
theorem nt_4 : Cond.fieldLinkNest RX7 102 "OrielChart$Code" "target" "[I" "OrielChart" ∈ lw_tbl := inT1 _ (List.mem_of_getElem? (i := 41) rfl)
theorem nt_5 : Cond.fieldLinkNest RX2 62 "OrielChart$Code" "sets" "[I" "OrielChart" ∈ lw_tbl := inT1 _ (List.mem_of_getElem? (i := 43) rfl)
theorem nt_6 : Cond.fieldLinkNest RX7 116 "OrielChart$Code" "sets" "[I" "OrielChart" ∈ lw_tbl := inT1 _ (List.mem_of_getElem? (i := 44) rfl)
theorem nt_7 : Cond.fieldLinkNest RX7 113 "OrielChart$Code" "uses" "[I" "OrielChart" ∈ lw_tbl := inT1 _ (List.mem_of_getElem? (i := 46) rfl)
theorem nt_8 : Cond.fieldLinkNest RX2 74 "OrielChart$Code" "uses" "[I" "OrielChart" ∈ lw_tbl := inT1 _ (List.mem_of_getElem? (i := 47) rfl)
theorem nt_9 : Cond.fieldLinkNest RX1 34 "OrielChart$Code" "count" "I" "OrielChart" ∈ lw_tbl := inT1 _ (List.mem_of_getElem? (i := 48) rfl)
theorem nt_10 : Cond.fieldLinkNest RX7 51 "OrielChart$Code" "count" "I" "OrielChart" ∈ lw_tbl := inT1 _ (List.mem_of_getElem? (i := 50) rfl)
theorem nt_11 : Cond.methodLinkNest RX7 18 yX1_init "OrielChart" ∈ lw_tbl := inT1 _ (List.mem_of_getElem? (i := 65) rfl)
theorem nt_12 : Cond.fieldLinkNest RX7 130 "OrielChart$Flow" "home" "[I" "OrielChart" ∈ lw_tbl := inT1 _ (List.mem_of_getElem? (i := 70) rfl)
theorem nt_13 : Cond.fieldLinkNest RX2 55 "OrielChart$Flow" "first" "[I" "OrielChart" ∈ lw_tbl := inT1 _ (List.mem_of_getElem? (i := 72) rfl)
theorem nt_14 : Cond.fieldLinkNest RX7 136 "OrielChart$Flow" "first" "[I" "OrielChart" ∈ lw_tbl := inT1 _ (List.mem_of_getElem? (i := 73) rfl)
theorem nt_15 : Cond.fieldLinkNest RX2 48 "OrielChart$Flow" "last" "[I" "OrielChart" ∈ lw_tbl := inT1 _ (List.mem_of_getElem? (i := 75) rfl)
theorem nt_16 : Cond.fieldLinkNest RX4 81 "OrielChart$Flow" "from" "[I" "OrielChart" ∈ lw_tbl := inT1 _ (List.mem_of_getElem? (i := 77) rfl)
theorem nt_17 : Cond.fieldLinkNest RX7 153 "OrielChart$Flow" "from" "[I" "OrielChart" ∈ lw_tbl := inT1 _ (List.mem_of_getElem? (i := 78) rfl)
theorem nt_18 : Cond.fieldLinkNest RX4 88 "OrielChart$Flow" "to" "[I" "OrielChart" ∈ lw_tbl := inT1 _ (List.mem_of_getElem? (i := 80) rfl)
theorem nt_19 : Cond.fieldLinkNest RX6 70 "OrielChart$Flow" "to" "[I" "OrielChart" ∈ lw_tbl := inT1 _ (List.mem_of_getElem? (i := 81) rfl)
theorem nt_20 : Cond.fieldLinkNest RX7 156 "OrielChart$Flow" "to" "[I" "OrielChart" ∈ lw_tbl := inT1 _ (List.mem_of_getElem? (i := 82) rfl)
theorem nt_21 : Cond.fieldLinkNest RX6 61 "OrielChart$Flow" "firstEdge" "[I" "OrielChart" ∈ lw_tbl := inT1 _ (List.mem_of_getElem? (i := 84) rfl)
theorem nt_22 : Cond.fieldLinkNest RX5 45 "OrielChart$Flow" "next" "[J" "OrielChart" ∈ lw_tbl := inT1 _ (List.mem_of_getElem? (i := 86) rfl)
theorem nt_23 : Cond.fieldLinkNest RX4 69 "OrielChart$Flow" "next" "[J" "OrielChart" ∈ lw_tbl := inT1 _ (List.mem_of_getElem? (i := 87) rfl)
theorem nt_24 : Cond.fieldLinkNest RX2 67 "OrielChart$Flow" "next" "[J" "OrielChart" ∈ lw_tbl := inT1 _ (List.mem_of_getElem? (i := 88) rfl)
theorem nt_25 : Cond.fieldLinkNest RX6 45 "OrielChart$Flow" "blockCount" "I" "OrielChart" ∈ lw_tbl := inT1 _ (List.mem_of_getElem? (i := 90) rfl)
theorem nt_26 : Cond.fieldLinkNest RX2 27 "OrielChart$Flow" "blockCount" "I" "OrielChart" ∈ lw_tbl := inT1 _ (List.mem_of_getElem? (i := 91) rfl)
theorem nt_27 : Cond.fieldLinkNest RX4 54 "OrielChart$Flow" "blockCount" "I" "OrielChart" ∈ lw_tbl := inT1 _ (List.mem_of_getElem? (i := 92) rfl)
theorem nt_28 : Cond.fieldLinkNest RX7 127 "OrielChart$Flow" "blockCount" "I" "OrielChart" ∈ lw_tbl := inT1 _ (List.mem_of_getElem? (i := 93) rfl)
theorem nt_29 : Cond.fieldLinkNest RX3 52 "OrielChart$Flow" "edgeCount" "I" "OrielChart" ∈ lw_tbl := inT1 _ (List.mem_of_getElem? (i := 94) rfl)
theorem nt_30 : Cond.fieldLinkNest RX4 78 "OrielChart$Flow" "edgeCount" "I" "OrielChart" ∈ lw_tbl := inT1 _ (List.mem_of_getElem? (i := 96) rfl)
theorem nt_31 : Cond.fieldLinkNest RX7 147 "OrielChart$Flow" "edgeCount" "I" "OrielChart" ∈ lw_tbl := inT1 _ (List.mem_of_getElem? (i := 97) rfl)
theorem nt_32 : Cond.fieldLinkNest RX5 28 "OrielChart$Flow" "reached" "J" "OrielChart" ∈ lw_tbl := inT1 _ (List.mem_of_getElem? (i := 98) rfl)
theorem nt_33 : Cond.fieldLinkNest RX4 24 "OrielChart$Flow" "reached" "J" "OrielChart" ∈ lw_tbl := inT1 _ (List.mem_of_getElem? (i := 99) rfl)
theorem nt_34 : Cond.fieldLinkNest RX2 32 "OrielChart$Flow" "reached" "J" "OrielChart" ∈ lw_tbl := inT1 _ (List.mem_of_getElem? (i := 100) rfl)
theorem nt_35 : Cond.fieldLinkNest RX7 139 "OrielChart$Flow" "reached" "J" "OrielChart" ∈ lw_tbl := inT1 _ (List.mem_of_getElem? (i := 102) rfl)
theorem nt_36 : Cond.fieldLinkNest RX7 333 "OrielChart$Flow" "fresh" "Z" "OrielChart" ∈ lw_tbl := inT1 _ (List.mem_of_getElem? (i := 103) rfl)
theorem nt_37 : Cond.methodLinkNest RX7 25 yX4_init "OrielChart" ∈ lw_tbl := inT1 _ (List.mem_of_getElem? (i := 130) rfl)
theorem nt_38 : Cond.fieldLinkNest RX7 181 "OrielChart$Ranks" "loop" "[J" "OrielChart" ∈ lw_tbl := inT1 _ (List.mem_of_getElem? (i := 136) rfl)
theorem nt_39 : Cond.fieldLinkNest RX7 178 "OrielChart$Ranks" "loopCount" "I" "OrielChart" ∈ lw_tbl := inT1 _ (List.mem_of_getElem? (i := 140) rfl)
theorem nt_40 : Cond.fieldLinkNest RX7 197 "OrielChart$Ranks" "tame" "Z" "OrielChart" ∈ lw_tbl := inT1 _ (List.mem_of_getElem? (i := 142) rfl)
theorem nt_41 : Cond.fieldLinkNest RX7 334 "OrielChart$Ranks" "fresh" "Z" "OrielChart" ∈ lw_tbl := inT1 _ (List.mem_of_getElem? (i := 143) rfl)
theorem nt_42 : Cond.methodLinkNest RX7 32 yX2_init "OrielChart" ∈ lw_tbl := inT1 _ (List.mem_of_getElem? (i := 161) rfl)
theorem nt_43 : Cond.fieldLinkNest RX7 204 "OrielChart$Lives" "live" "[I" "OrielChart" ∈ lw_tbl := inT1 _ (List.mem_of_getElem? (i := 166) rfl)
theorem nt_44 : Cond.fieldLinkNest RX7 207 "OrielChart$Lives" "vainCount" "I" "OrielChart" ∈ lw_tbl := inT1 _ (List.mem_of_getElem? (i := 168) rfl)
theorem nt_45 : Cond.fieldLinkNest RX7 119 "OrielChart$Lives" "fresh" "Z" "OrielChart" ∈ lw_tbl := inT1 _ (List.mem_of_getElem? (i := 169) rfl)
theorem nt_46 : Cond.methodLinkNest RX7 39 yX5_init "OrielChart" ∈ lw_tbl := inT1 _ (List.mem_of_getElem? (i := 179) rfl)
theorem nt_47 : Cond.fieldLinkNest RX7 233 "OrielChart$Reduction" "home" "[I" "OrielChart" ∈ lw_tbl := inT1 _ (List.mem_of_getElem? (i := 185) rfl)
theorem nt_48 : Cond.fieldLinkNest RX7 224 "OrielChart$Reduction" "rule" "[I" "OrielChart" ∈ lw_tbl := inT1 _ (List.mem_of_getElem? (i := 187) rfl)
theorem nt_49 : Cond.fieldLinkNest RX7 227 "OrielChart$Reduction" "node" "[I" "OrielChart" ∈ lw_tbl := inT1 _ (List.mem_of_getElem? (i := 189) rfl)
theorem nt_50 : Cond.fieldLinkNest RX7 230 "OrielChart$Reduction" "nodes" "J" "OrielChart" ∈ lw_tbl := inT1 _ (List.mem_of_getElem? (i := 192) rfl)
theorem nt_51 : Cond.fieldLinkNest RX7 218 "OrielChart$Reduction" "stepCount" "I" "OrielChart" ∈ lw_tbl := inT1 _ (List.mem_of_getElem? (i := 194) rfl)
theorem nt_52 : Cond.fieldLinkNest RX7 335 "OrielChart$Reduction" "fresh" "Z" "OrielChart" ∈ lw_tbl := inT1 _ (List.mem_of_getElem? (i := 195) rfl)
theorem nt_53 : Cond.methodLinkNest RX7 46 yX3_init "OrielChart" ∈ lw_tbl := inT1 _ (List.mem_of_getElem? (i := 215) rfl)
theorem nt_54 : Cond.methodLinkNest RX3 11 yX6_init "OrielChart" ∈ lw_tbl := inT1 _ (List.mem_of_getElem? (i := 221) rfl)
theorem nt_55 : Cond.fieldLinkNest RX3 124 "OrielChart$Walk" "came" "[I" "OrielChart" ∈ lw_tbl := inT1 _ (List.mem_of_getElem? (i := 226) rfl)
theorem nt_56 : Cond.fieldLinkNest RX3 115 "OrielChart$Walk" "upper" "[I" "OrielChart" ∈ lw_tbl := inT1 _ (List.mem_of_getElem? (i := 228) rfl)
theorem nt_57 : Cond.fieldLinkNest RX3 108 "OrielChart$Walk" "lower" "[I" "OrielChart" ∈ lw_tbl := inT1 _ (List.mem_of_getElem? (i := 230) rfl)
theorem nt_58 : Cond.fieldLinkNest RX3 121 "OrielChart$Walk" "cameCount" "I" "OrielChart" ∈ lw_tbl := inT1 _ (List.mem_of_getElem? (i := 234) rfl)
theorem nt_59 : Cond.fieldLinkNest RX3 83 "OrielChart$Walk" "seen" "J" "OrielChart" ∈ lw_tbl := inT1 _ (List.mem_of_getElem? (i := 237) rfl)
theorem nt_60 : Cond.fieldLinkNest RX7 244 "OrielChart$Picture" "walk" "LOrielChart$Walk;" "OrielChart" ∈ lw_tbl := inT2 _ (List.mem_of_getElem? (i := 19) rfl)
theorem nt_61 : Cond.fieldLinkNest RX7 241 "OrielChart$Picture" "layer" "[I" "OrielChart" ∈ lw_tbl := inT2 _ (List.mem_of_getElem? (i := 21) rfl)
theorem nt_62 : Cond.fieldLinkNest RX7 238 "OrielChart$Picture" "layerCount" "I" "OrielChart" ∈ lw_tbl := inT2 _ (List.mem_of_getElem? (i := 34) rfl)
theorem nt_63 : Cond.fieldLinkNest RX7 289 "OrielChart$Picture" "sweeps" "I" "OrielChart" ∈ lw_tbl := inT2 _ (List.mem_of_getElem? (i := 36) rfl)
theorem nt_64 : Cond.fieldLinkNest RX7 336 "OrielChart$Picture" "fresh" "Z" "OrielChart" ∈ lw_tbl := inT2 _ (List.mem_of_getElem? (i := 37) rfl)
theorem nt_65 : Cond.methodLinkNest RX1 80 yX7_at "OrielChart" ∈ lw_tbl := inT2 _ (List.mem_of_getElem? (i := 109) rfl)
theorem nt_66 : Cond.methodLinkNest RX1 65 yX7_bit "OrielChart" ∈ lw_tbl := inT2 _ (List.mem_of_getElem? (i := 112) rfl)
theorem nt_67 : Cond.methodLinkNest RX1 84 yX7_jumps "OrielChart" ∈ lw_tbl := inT2 _ (List.mem_of_getElem? (i := 115) rfl)
theorem nt_68 : Cond.methodLinkNest RX1 91 yX7_has "OrielChart" ∈ lw_tbl := inT2 _ (List.mem_of_getElem? (i := 122) rfl)
theorem nt_69 : Cond.methodLinkNest RX1 54 yX7_put "OrielChart" ∈ lw_tbl := inT2 _ (List.mem_of_getElem? (i := 125) rfl)
theorem nt_70 : Cond.methodLinkNest RX1 58 yX7_put_ "OrielChart" ∈ lw_tbl := inT2 _ (List.mem_of_getElem? (i := 128) rfl)
theorem nt_71 : Cond.methodLinkNest RX1 99 yX7_at_ "OrielChart" ∈ lw_tbl := inT2 _ (List.mem_of_getElem? (i := 139) rfl)
theorem nt_72 : Cond.methodLinkNest RX1 69 yX7_spread "OrielChart" ∈ lw_tbl := inT2 _ (List.mem_of_getElem? (i := 142) rfl)
theorem nt_73 : Cond.methodLinkNest RX4 30 yX7_has "OrielChart" ∈ lw_tbl := inT2 _ (List.mem_of_getElem? (i := 173) rfl)
theorem nt_74 : Cond.methodLinkNest RX4 72 yX7_bit "OrielChart" ∈ lw_tbl := inT2 _ (List.mem_of_getElem? (i := 177) rfl)
theorem nt_75 : Cond.methodLinkNest RX4 65 yX7_spread "OrielChart" ∈ lw_tbl := inT2 _ (List.mem_of_getElem? (i := 178) rfl)
theorem nt_76 : Cond.methodLinkNest RX4 38 yX7_put_ "OrielChart" ∈ lw_tbl := inT2 _ (List.mem_of_getElem? (i := 180) rfl)
theorem nt_77 : Cond.methodLinkNest RX4 85 yX7_at "OrielChart" ∈ lw_tbl := inT2 _ (List.mem_of_getElem? (i := 185) rfl)
theorem nt_78 : Cond.methodLinkNest RX4 61 yX7_at_ "OrielChart" ∈ lw_tbl := inT2 _ (List.mem_of_getElem? (i := 186) rfl)
theorem nt_79 : Cond.methodLinkNest RX2 15 yX7_put "OrielChart" ∈ lw_tbl := inT2 _ (List.mem_of_getElem? (i := 211) rfl)
theorem nt_80 : Cond.methodLinkNest RX2 36 yX7_has "OrielChart" ∈ lw_tbl := inT2 _ (List.mem_of_getElem? (i := 216) rfl)
theorem nt_81 : Cond.methodLinkNest RX2 71 yX7_at_ "OrielChart" ∈ lw_tbl := inT2 _ (List.mem_of_getElem? (i := 221) rfl)
theorem nt_82 : Cond.methodLinkNest RX2 51 yX7_at "OrielChart" ∈ lw_tbl := inT2 _ (List.mem_of_getElem? (i := 222) rfl)
theorem nt_83 : Cond.methodLinkNest RX5 41 yX7_has "OrielChart" ∈ lw_tbl := inT3 _ (List.mem_of_getElem? (i := 11) rfl)
theorem nt_84 : Cond.methodLinkNest RX5 46 yX7_at_ "OrielChart" ∈ lw_tbl := inT3 _ (List.mem_of_getElem? (i := 12) rfl)
theorem nt_85 : Cond.methodLinkNest RX5 50 yX7_put_ "OrielChart" ∈ lw_tbl := inT3 _ (List.mem_of_getElem? (i := 13) rfl)
theorem nt_86 : Cond.methodLinkNest RX5 54 yX7_put "OrielChart" ∈ lw_tbl := inT3 _ (List.mem_of_getElem? (i := 14) rfl)
theorem nt_87 : Cond.methodLinkNest RX5 72 yX7_bit "OrielChart" ∈ lw_tbl := inT3 _ (List.mem_of_getElem? (i := 23) rfl)
theorem nt_88 : Cond.methodLinkNest RX5 84 yX7_lowest "OrielChart" ∈ lw_tbl := inT3 _ (List.mem_of_getElem? (i := 30) rfl)
theorem nt_89 : Cond.methodLinkNest RX5 87 yX7_at "OrielChart" ∈ lw_tbl := inT3 _ (List.mem_of_getElem? (i := 31) rfl)
theorem nt_90 : Cond.methodLinkNest RX6 41 yX7_put "OrielChart" ∈ lw_tbl := inT3 _ (List.mem_of_getElem? (i := 72) rfl)
theorem nt_91 : Cond.methodLinkNest RX6 54 yX7_at "OrielChart" ∈ lw_tbl := inT3 _ (List.mem_of_getElem? (i := 77) rfl)
theorem nt_92 : Cond.methodLinkNest RX6 64 yX7_bit "OrielChart" ∈ lw_tbl := inT3 _ (List.mem_of_getElem? (i := 78) rfl)
theorem nt_93 : Cond.methodLinkNest RX6 73 yX7_has "OrielChart" ∈ lw_tbl := inT3 _ (List.mem_of_getElem? (i := 84) rfl)
theorem nt_94 : Cond.methodLinkNest RX3 87 yX7_has "OrielChart" ∈ lw_tbl := inT3 _ (List.mem_of_getElem? (i := 89) rfl)
theorem nt_95 : Cond.methodLinkNest RX3 75 yX7_put "OrielChart" ∈ lw_tbl := inT3 _ (List.mem_of_getElem? (i := 90) rfl)
theorem nt_96 : Cond.methodLinkNest RX3 95 yX7_at "OrielChart" ∈ lw_tbl := inT3 _ (List.mem_of_getElem? (i := 99) rfl)
theorem nt_97 : Cond.methodLinkNest RX0 39 yX7_at "OrielChart" ∈ lw_tbl := inT4 _ (List.mem_of_getElem? (i := 91) rfl)
theorem nt_98 : Cond.methodLinkNest RX0 35 yX7_put "OrielChart" ∈ lw_tbl := inT4 _ (List.mem_of_getElem? (i := 95) rfl)
theorem nt_99 : Cond.castable "java/lang/IllegalArgumentException" "java/lang/IllegalArgumentException" ∈ lw_tbl := inT3 _ (List.mem_of_getElem? (i := 235) rfl)
theorem nt_100 : Cond.declares ⟨"java/lang/RuntimeException", "<init>", "()V"⟩ ∈ lw_tbl := inT3 _ (List.mem_of_getElem? (i := 236) rfl)
theorem nt_101 : Cond.declares ⟨"java/lang/RuntimeException", "<init>", "(Ljava/lang/String;)V"⟩ ∈ lw_tbl := inT3 _ (List.mem_of_getElem? (i := 237) rfl)
theorem nt_102 : Cond.declares ⟨"java/lang/Exception", "<init>", "()V"⟩ ∈ lw_tbl := inT3 _ (List.mem_of_getElem? (i := 238) rfl)
theorem nt_103 : Cond.declares ⟨"java/lang/Exception", "<init>", "(Ljava/lang/String;)V"⟩ ∈ lw_tbl := inT3 _ (List.mem_of_getElem? (i := 239) rfl)
theorem nt_104 : Cond.declares ⟨"java/lang/Throwable", "<init>", "()V"⟩ ∈ lw_tbl := inT4 _ (List.mem_of_getElem? (i := 0) rfl)
theorem nt_105 : Cond.declares ⟨"java/lang/Throwable", "<init>", "(Ljava/lang/String;)V"⟩ ∈ lw_tbl := inT4 _ (List.mem_of_getElem? (i := 1) rfl)
theorem nt_106 : Cond.castable "java/lang/IllegalStateException" "java/lang/IllegalStateException" ∈ lw_tbl := inT4 _ (List.mem_of_getElem? (i := 69) rfl)
theorem nt_107 : Cond.castable "java/lang/IndexOutOfBoundsException" "java/lang/IndexOutOfBoundsException" ∈ lw_tbl := inT4 _ (List.mem_of_getElem? (i := 118) rfl)
theorem nt_108 : Cond.castable "[I" "java/lang/Cloneable" ∈ lw_tbl := inT6 _ (List.mem_of_getElem? (i := 228) rfl)
theorem nt_109 : Cond.castable "[[I" "java/lang/Cloneable" ∈ lw_tbl := inT7 _ (List.mem_of_getElem? (i := 212) rfl)
theorem nl_tbl : ∀ w ∈ NLm, w ∈ lw_tbl := List.forall_mem_cons.mpr ⟨nt_0, List.forall_mem_cons.mpr ⟨nt_1, List.forall_mem_cons.mpr ⟨nt_2, List.forall_mem_cons.mpr ⟨nt_3, List.forall_mem_cons.mpr ⟨nt_4, List.forall_mem_cons.mpr ⟨nt_5, List.forall_mem_cons.mpr ⟨nt_6, List.forall_mem_cons.mpr ⟨nt_7, List.forall_mem_cons.mpr ⟨nt_8, List.forall_mem_cons.mpr ⟨nt_9, List.forall_mem_cons.mpr ⟨nt_10, List.forall_mem_cons.mpr ⟨nt_11, List.forall_mem_cons.mpr ⟨nt_12, List.forall_mem_cons.mpr ⟨nt_13, List.forall_mem_cons.mpr ⟨nt_14, List.forall_mem_cons.mpr ⟨nt_15, List.forall_mem_cons.mpr ⟨nt_16, List.forall_mem_cons.mpr ⟨nt_17, List.forall_mem_cons.mpr ⟨nt_18, List.forall_mem_cons.mpr ⟨nt_19, List.forall_mem_cons.mpr ⟨nt_20, List.forall_mem_cons.mpr ⟨nt_21, List.forall_mem_cons.mpr ⟨nt_22, List.forall_mem_cons.mpr ⟨nt_23, List.forall_mem_cons.mpr ⟨nt_24, List.forall_mem_cons.mpr ⟨nt_25, List.forall_mem_cons.mpr ⟨nt_26, List.forall_mem_cons.mpr ⟨nt_27, List.forall_mem_cons.mpr ⟨nt_28, List.forall_mem_cons.mpr ⟨nt_29, List.forall_mem_cons.mpr ⟨nt_30, List.forall_mem_cons.mpr ⟨nt_31, List.forall_mem_cons.mpr ⟨nt_32, List.forall_mem_cons.mpr ⟨nt_33, List.forall_mem_cons.mpr ⟨nt_34, List.forall_mem_cons.mpr ⟨nt_35, List.forall_mem_cons.mpr ⟨nt_36, List.forall_mem_cons.mpr ⟨nt_37, List.forall_mem_cons.mpr ⟨nt_38, List.forall_mem_cons.mpr ⟨nt_39, List.forall_mem_cons.mpr ⟨nt_40, List.forall_mem_cons.mpr ⟨nt_41, List.forall_mem_cons.mpr ⟨nt_42, List.forall_mem_cons.mpr ⟨nt_43, List.forall_mem_cons.mpr ⟨nt_44, List.forall_mem_cons.mpr ⟨nt_45, List.forall_mem_cons.mpr ⟨nt_46, List.forall_mem_cons.mpr ⟨nt_47, List.forall_mem_cons.mpr ⟨nt_48, List.forall_mem_cons.mpr ⟨nt_49, List.forall_mem_cons.mpr ⟨nt_50, List.forall_mem_cons.mpr ⟨nt_51, List.forall_mem_cons.mpr ⟨nt_52, List.forall_mem_cons.mpr ⟨nt_53, List.forall_mem_cons.mpr ⟨nt_54, List.forall_mem_cons.mpr ⟨nt_55, List.forall_mem_cons.mpr ⟨nt_56, List.forall_mem_cons.mpr ⟨nt_57, List.forall_mem_cons.mpr ⟨nt_58, List.forall_mem_cons.mpr ⟨nt_59, List.forall_mem_cons.mpr ⟨nt_60, List.forall_mem_cons.mpr ⟨nt_61, List.forall_mem_cons.mpr ⟨nt_62, List.forall_mem_cons.mpr ⟨nt_63, List.forall_mem_cons.mpr ⟨nt_64, List.forall_mem_cons.mpr ⟨nt_65, List.forall_mem_cons.mpr ⟨nt_66, List.forall_mem_cons.mpr ⟨nt_67, List.forall_mem_cons.mpr ⟨nt_68, List.forall_mem_cons.mpr ⟨nt_69, List.forall_mem_cons.mpr ⟨nt_70, List.forall_mem_cons.mpr ⟨nt_71, List.forall_mem_cons.mpr ⟨nt_72, List.forall_mem_cons.mpr ⟨nt_73, List.forall_mem_cons.mpr ⟨nt_74, List.forall_mem_cons.mpr ⟨nt_75, List.forall_mem_cons.mpr ⟨nt_76, List.forall_mem_cons.mpr ⟨nt_77, List.forall_mem_cons.mpr ⟨nt_78, List.forall_mem_cons.mpr ⟨nt_79, List.forall_mem_cons.mpr ⟨nt_80, List.forall_mem_cons.mpr ⟨nt_81, List.forall_mem_cons.mpr ⟨nt_82, List.forall_mem_cons.mpr ⟨nt_83, List.forall_mem_cons.mpr ⟨nt_84, List.forall_mem_cons.mpr ⟨nt_85, List.forall_mem_cons.mpr ⟨nt_86, List.forall_mem_cons.mpr ⟨nt_87, List.forall_mem_cons.mpr ⟨nt_88, List.forall_mem_cons.mpr ⟨nt_89, List.forall_mem_cons.mpr ⟨nt_90, List.forall_mem_cons.mpr ⟨nt_91, List.forall_mem_cons.mpr ⟨nt_92, List.forall_mem_cons.mpr ⟨nt_93, List.forall_mem_cons.mpr ⟨nt_94, List.forall_mem_cons.mpr ⟨nt_95, List.forall_mem_cons.mpr ⟨nt_96, List.forall_mem_cons.mpr ⟨nt_97, List.forall_mem_cons.mpr ⟨nt_98, List.forall_mem_cons.mpr ⟨nt_99, List.forall_mem_cons.mpr ⟨nt_100, List.forall_mem_cons.mpr ⟨nt_101, List.forall_mem_cons.mpr ⟨nt_102, List.forall_mem_cons.mpr ⟨nt_103, List.forall_mem_cons.mpr ⟨nt_104, List.forall_mem_cons.mpr ⟨nt_105, List.forall_mem_cons.mpr ⟨nt_106, List.forall_mem_cons.mpr ⟨nt_107, List.forall_mem_cons.mpr ⟨nt_108, List.forall_mem_cons.mpr ⟨nt_109, fun _ h => absurd h List.not_mem_nil⟩⟩⟩⟩⟩⟩⟩⟩⟩⟩⟩⟩⟩⟩⟩⟩⟩⟩⟩⟩⟩⟩⟩⟩⟩⟩⟩⟩⟩⟩⟩⟩⟩⟩⟩⟩⟩⟩⟩⟩⟩⟩⟩⟩⟩⟩⟩⟩⟩⟩⟩⟩⟩⟩⟩⟩⟩⟩⟩⟩⟩⟩⟩⟩⟩⟩⟩⟩⟩⟩⟩⟩⟩⟩⟩⟩⟩⟩⟩⟩⟩⟩⟩⟩⟩⟩⟩⟩⟩⟩⟩⟩⟩⟩⟩⟩⟩⟩⟩⟩⟩⟩⟩⟩⟩⟩⟩⟩⟩⟩
/-! ===== contracts in one form: the whole world goes in and comes back; one list of words for all methods ===== -/
def isNest : Cond → Bool
  | .fieldLinkNest _ _ _ _ _ _ => true
  | .methodLinkNest _ _ _ _ => true
  | .declares _ => true
  | .castable _ _ => true
  | _ => false
theorem nest_warm {w : Cond} {s U : State} (h1 : isNest w = true) (hW : s.WarmedH U.vm) (h : va_Nw w s) : va_Nw w U := by
  cases w <;> first | exact va_Nw.warmF hW h | exact va_Nw.warmM hW h | exact va_Nw.warmD hW h | exact va_Nw.warmC hW h | (simp [isNest] at h1)
theorem nest_same {w : Cond} {s U : State} (h1 : isNest w = true) (hv : s.vm = U.vm) (h : va_Nw w s) : va_Nw w U := by
  cases w <;> first | exact va_Nw.same rfl hv h | (simp [isNest] at h1)
theorem nest_use {w : Cond} {s : State} {args : Array Value} (h1 : isNest w = true) (h : va_Nw w s) : w.before args s = true := by
  cases w <;> first | exact va_Nw.use rfl h | (simp [isNest] at h1)
theorem nest_of {w : Cond} {s : State} {args : Array Value} (h1 : isNest w = true) (h : w.before args s = true) : va_Nw w s := by
  cases w <;> first | exact va_Nw.of rfl h | (simp [isNest] at h1)
theorem nl_all : NLm.all isNest = true := by decide +kernel
def OV (U : State) : Prop := (Cond.arrayOver (.array .int)).before #[] U = true
def NW (U : State) : Prop := (∀ w ∈ NLm, va_Nw w U) ∧ OV U
theorem NW.warm {s U : State} (h : NW s) (hW : s.WarmedH U.vm) : NW U := ⟨fun w hw => nest_warm (List.all_eq_true.mp nl_all w hw) hW (h.1 w hw), over_moved hW.alike h.2⟩
theorem NW.same {s U : State} (h : NW s) (hv : s.vm = U.vm) : NW U := ⟨fun w hw => nest_same (List.all_eq_true.mp nl_all w hw) hv (h.1 w hw), over_moved (hv ▸ Vm.Alike.refl s.vm) h.2⟩
theorem NW.use {s : State} {args : Array Value} (h : NW s) {w : Cond} (hw : w ∈ NLm) : w.before args s = true := nest_use (List.all_eq_true.mp nl_all w hw) (h.1 w hw)
def GW : List Cond := lw_tbl.filter goodWord
theorem gw_mem {w : Cond} (h : w ∈ lw_tbl) (hg : goodWord w = true) : w ∈ GW := List.mem_filter.mpr ⟨h, hg⟩
theorem gw_tbl {w : Cond} (h : w ∈ GW) : w ∈ lw_tbl := (List.mem_filter.mp h).1
theorem gw_ok {w : Cond} (h : w ∈ GW) : (w.onTables && w.keeps) = true ∨ ∃ ty, w = .arrayClass ty := good_of_word (List.mem_filter.mp h).2
theorem gw_in {ck : Cond} (h : ck ∈ GW) : GoodIn GW (ck :: GW) := fun w hw => by
  rcases List.mem_cons.mp hw with rfl | h9
  · exact ⟨h, gw_ok h⟩
  · exact ⟨h9, gw_ok h9⟩
theorem gw_V {ck : Cond} {own C : String} {idx : Nat} {y : MethodName} (h : ck ∈ GW) (h1 : Cond.methodLink own idx y ∈ GW) (h2 : Cond.instanceMethod y ∈ GW) (h3 : Cond.selects C y y ∈ GW) (h4 : Cond.initialized C ∈ GW) : GoodIn GW (wsV own idx C y (ck :: GW)) := fun w hw => by
  rcases List.mem_append.mp hw with h9 | h9
  · simp only [List.mem_cons, List.not_mem_nil, or_false] at h9
    rcases h9 with rfl | rfl | rfl | rfl
    · exact ⟨h1, gw_ok h1⟩
    · exact ⟨h2, gw_ok h2⟩
    · exact ⟨h3, gw_ok h3⟩
    · exact ⟨h4, gw_ok h4⟩
  · exact gw_in h w h9
theorem gw_S {ck : Cond} {own : String} {idx : Nat} {y : MethodName} (h : ck ∈ GW) (h1 : Cond.methodLink own idx y ∈ GW) (h2 : Cond.static y ∈ GW) (h4 : Cond.initialized y.cls ∈ GW) : GoodIn GW (va_wsS own idx y (ck :: GW)) := fun w hw => by
  rcases List.mem_append.mp hw with h9 | h9
  · simp only [List.mem_cons, List.not_mem_nil, or_false] at h9
    rcases h9 with rfl | rfl | rfl
    · exact ⟨h1, gw_ok h1⟩
    · exact ⟨h2, gw_ok h2⟩
    · exact ⟨h4, gw_ok h4⟩
  · exact gw_in h w h9
def PB (D : va_G) (tys : List (ClassId × FieldType)) (w : va_W) (sz : Nat) : State → Prop := fun U => U.heap.size = sz ∧ va_P D vwCl w U.heap ∧ va_K D vwCl tys U ∧ va_D (fun _ => True) w ∧ NW U
def BW (D : va_G) (tys : List (ClassId × FieldType)) (A : Nat → Prop) : va_W → State → Prop := fun u t => va_P D vwCl u t.heap ∧ va_K D vwCl tys t ∧ va_D A u
def rmf (d mc ms : Nat) : Room := { frames := d, cells := mc, slots := ms, locals := 48 * d }
abbrev CT (l : Launch) (D : va_G) (tys : List (ClassId × FieldType)) (y : MethodName) (ck : Cond) (d mc ms : Nat) (w : va_W) (As : List Value) (Qc : (Nat → Prop) → Array Value → State → Outcome → State → Prop) : Prop :=
  ∀ sz : Nat, Met l y (ck :: GW) (rmf d mc ms) (va_Pc As (PB D tys w sz)) (Qc (va_A w sz)) mc ms (va_A w sz)
abbrev QI (D : va_G) (tys : List (ClassId × FieldType)) (post : Int32 → va_W → Prop) : (Nat → Prop) → Array Value → State → Outcome → State → Prop := fun A => va_Qi post (BW D tys A) A
abbrev QL (D : va_G) (tys : List (ClassId × FieldType)) (post : Int64 → va_W → Prop) : (Nat → Prop) → Array Value → State → Outcome → State → Prop := fun A => va_Ql post (BW D tys A) A
abbrev QD (D : va_G) (tys : List (ClassId × FieldType)) (post : UInt64 → va_W → Prop) : (Nat → Prop) → Array Value → State → Outcome → State → Prop := fun A => va_Qd post (BW D tys A) A
abbrev QV (D : va_G) (tys : List (ClassId × FieldType)) (post : va_W → Prop) : (Nat → Prop) → Array Value → State → Outcome → State → Prop := fun A => va_Qv post (BW D tys A) A
abbrev QR (D : va_G) (tys : List (ClassId × FieldType)) (post : Nat → va_W → Prop) : (Nat → Prop) → Array Value → State → Outcome → State → Prop := fun A => va_Qr (fun _ : va_W => True) (fun u ra t => post ra u ∧ BW D tys A u t) A
theorem blindPB {As : List Value} {D : va_G} {tys : List (ClassId × FieldType)} {w : va_W} {sz : Nat} : FrameBlind (va_Pc As (PB D tys w sz)) := fun a U g mk q => by
  obtain ⟨q0, q1, qP, qK, qD, qN⟩ := q
  exact ⟨q0, q1, qP, va_K.moved (u := U) (U := U.calling g mk a) (Vm.Alike.refl U.vm) qK, qD, qN.same rfl⟩
/-- a method's entry -/
theorem ent {l : Launch} {D : va_G} {tys : List (ClassId × FieldType)} {y : MethodName} {cc : ByteArray} {maxL : Nat} {ret : Option FieldType} {d mc ms : Nat} {w : va_W} {As : List Value} {Qc : (Nat → Prop) → Array Value → State → Outcome → State → Prop} (hy : plainName y.cls = true) (hlen : (lg_sl As).length ≤ maxL)
    (body : ∀ (p : Program) (e : Env) (s : State) (m : MethodId) (below : List Frame) (meth : Method) (c : Code) (ls : Array Slot) (A : Nat → Prop), p.tables.exec = Jvm.exec → c.code = cc → meth.sig.returnType = ret → (∀ w ∈ GW, w.before As.toArray s = true) → s.vm.findClass y.cls = some m.cls → c.maxLocals = maxL → meth.locks = false → meth.name = y.name →
      va_P D vwCl w s.heap → va_K D vwCl tys s → va_D A w → va_S A s.heap s.heap [] → (∀ q, s.heap.size ≤ q → A q) → NW s → lv_has ls maxL (lv_args 0 As) →
      W p l e (rmf d mc ms) s m As.toArray below meth c s.heap [] 0 0 (MQ below (Qc A) As.toArray s mc ms A) (F0 m 0 ls [])) : CT l D tys y (.code y cc maxL ret) d mc ms w As Qc := by
  intro sz
  refine Met.ofW (cc := cc) (maxL := maxL) (ret := ret) hy rfl ?_
  intro p e s m args below meth c s₁ B hml hv
  obtain ⟨rfl, hsz, hP, hK, hD0, hN⟩ := hv
  have hts := atoms_spec (ws := (.code y cc maxL ret) :: GW) B.pre
  subst hsz
  have hD := hD0.self (sz := s.heap.size)
  have hl := lv_entry As (n := maxL) hlen
  rw [lg_entry_eq]
  exact body p e s m below meth c _ (va_A w s.heap.size) B.exec B.bytes B.returns (fun w hw => hts w (List.mem_cons_of_mem _ hw)) (findClass_of_methodNamed B.named) hml B.notSynchronized (name_of_methodNamed B.named B.method).1 hP hK hD va_S.rf (fun q h => Or.inr h) hN hl
section XR
variable {p : Program} {l : Launch} {e : Env} {R : Room} {s : State} {m : MethodId} {args : Array Value} {below : List Frame} {meth : Method} {c : Code} {H : Heap} {locs : List Loc} {cells slots : Nat} {Q : State → Prop}
variable {cc bytes : ByteArray} {pc : Nat} {ls : Array Slot} {st0 rest : List Value} {D : va_G} {tys : List (ClassId × FieldType)} {A : Nat → Prop} {w : va_W}
variable {y : MethodName} {maxL nL mc ms n index d q0 ci N b : Nat} {ret : Option FieldType} {own C : String} {T : u_T} {As fs : List Value} {Qc : (Nat → Prop) → Array Value → State → Outcome → State → Prop} {host : String}
theorem hpre (hK : va_K D vwCl tys s) (hN : NW s) (hP : va_P D vwCl w H) (hD : va_D A w) (av : List Value) : PreS s H (va_Pc av (PB D tys w H.size)) av :=
  ⟨blindPB, fun U hU hW => ⟨rfl, by rw [hU], by rw [hU]; exact hP, va_K.moved hW.alike hK, hD.weaken (fun _ _ _ _ => trivial), hN.warm hW⟩⟩
theorem rV (hx : p.tables.exec = Jvm.exec) (hb : c.code = cc) (hml : c.maxLocals = nL) (hown : s.vm.findClass own = some m.cls) (hg : ∀ w ∈ GW, w.before args s = true) (hN : NW s) (hK : va_K D vwCl tys s) (hP : va_P D vwCl w H) (hD : va_D A w)
    (hM : CT l D tys y (.code y bytes maxL ret) d mc ms w (.ref b :: As) Qc) (m5 : Cond.code y bytes maxL ret ∈ GW) (m1 : Cond.methodLink own index y ∈ GW) (m2 : Cond.instanceMethod y ∈ GW) (m3 : Cond.selects C y y ∈ GW) (m4 : Cond.initialized C ∈ GW)
    (hd : y.cls = C ∧ y.cls ≠ "java/lang/invoke/MethodHandle" ∧ y.cls ≠ "java/lang/invoke/VarHandle" ∧ (parseMethodDescriptor y.desc).map (fun d => d.parameters.length) = some n) (hR : (rmf d mc ms).frames + 1 ≤ R.frames ∧ 8 + (maxL + 11) + (rmf d mc ms).locals ≤ R.locals)
    (hc : vwCl[ci]? = some (C, T, N)) (hq : w[q0]? = some (b, .inr (ci, fs))) (hn : As.length = n) (hl : ls.size = nL) (hst : st0 = As.reverse ++ .ref b :: rest) (hW : (rest.map fun v => v.category).sum ≤ 8) (hdg : decode cc pc = .ok (.invokevirtual index, 3)) (hf : cells + mc ≤ R.cells ∧ slots + ms ≤ R.slots) :
    va_Run p l e R s m args below meth c H locs cells slots mc ms (F0 m pc ls st0) rest (Qc (va_A w H.size) (Value.ref b :: As).toArray) (va_A w H.size) :=
  va_runV (As := As) (rest := rest) (C := C) ⟨hx, hb, hml, hown, hg⟩ (hM H.size) (cwV n hg (gw_V m5 m1 m2 m3 m4) rfl rfl rfl hd hR) ⟨blindPB, va_recv (ci := ci) (q0 := q0) hK hP hc hq, (hpre hK hN hP hD _).2⟩ rfl hn hl hst (lv_room (m := m) (pc := pc) (ls := ls) (rest := st0) hW) hdg hf
theorem rS (hx : p.tables.exec = Jvm.exec) (hb : c.code = cc) (hml : c.maxLocals = nL) (hown : s.vm.findClass own = some m.cls) (hg : ∀ w ∈ GW, w.before args s = true) (hN : NW s) (hK : va_K D vwCl tys s) (hP : va_P D vwCl w H) (hD : va_D A w)
    (hM : CT l D tys y (.code y bytes maxL ret) d mc ms w As Qc) (m5 : Cond.code y bytes maxL ret ∈ GW) (m1 : Cond.methodLink own index y ∈ GW) (m2 : Cond.static y ∈ GW) (m4 : Cond.initialized y.cls ∈ GW)
    (hd : y.cls ≠ "java/lang/invoke/MethodHandle" ∧ y.cls ≠ "java/lang/invoke/VarHandle" ∧ (parseMethodDescriptor y.desc).map (fun d => d.parameters.length) = some n) (hR : (rmf d mc ms).frames + 1 ≤ R.frames ∧ 8 + (maxL + 11) + (rmf d mc ms).locals ≤ R.locals)
    (hn : As.length = n) (hl : ls.size = nL) (hst : st0 = As.reverse ++ rest) (hW : (rest.map fun v => v.category).sum ≤ 8) (hdg : decode cc pc = .ok (.invokestatic index, 3)) (hf : cells + mc ≤ R.cells ∧ slots + ms ≤ R.slots) :
    va_Run p l e R s m args below meth c H locs cells slots mc ms (F0 m pc ls st0) rest (Qc (va_A w H.size) As.toArray) (va_A w H.size) :=
  va_runS (As := As) (rest := rest) ⟨hx, hb, hml, hown, hg⟩ (hM H.size) (va_cwS n hg (gw_S m5 m1 m2 m4) rfl rfl rfl hd hR) (hpre hK hN hP hD _) rfl hn hl hst (lv_room (m := m) (pc := pc) (ls := ls) (rest := st0) hW) hdg hf
theorem rSN (hx : p.tables.exec = Jvm.exec) (hb : c.code = cc) (hml : c.maxLocals = nL) (hown : s.vm.findClass own = some m.cls) (hg : ∀ w ∈ GW, w.before args s = true) (hN : NW s) (hK : va_K D vwCl tys s) (hP : va_P D vwCl w H) (hD : va_D A w)
    (hM : CT l D tys y (.code y bytes maxL ret) d mc ms w As Qc) (m5 : Cond.code y bytes maxL ret ∈ GW) (m1 : Cond.methodLinkNest own index y host ∈ NLm) (m2 : Cond.static y ∈ GW) (m4 : Cond.initialized y.cls ∈ GW)
    (hd : y.cls ≠ "java/lang/invoke/MethodHandle" ∧ y.cls ≠ "java/lang/invoke/VarHandle" ∧ (parseMethodDescriptor y.desc).map (fun d => d.parameters.length) = some n) (hR : (rmf d mc ms).frames + 1 ≤ R.frames ∧ 8 + (maxL + 11) + (rmf d mc ms).locals ≤ R.locals)
    (hn : As.length = n) (hl : ls.size = nL) (hst : st0 = As.reverse ++ rest) (hW : (rest.map fun v => v.category).sum ≤ 8) (hdg : decode cc pc = .ok (.invokestatic index, 3)) (hf : cells + mc ≤ R.cells ∧ slots + ms ≤ R.slots) :
    va_Run p l e R s m args below meth c H locs cells slots mc ms (F0 m pc ls st0) rest (Qc (va_A w H.size) As.toArray) (va_A w H.size) :=
  va_runSN (As := As) (rest := rest) (host := host) ⟨hx, hb, hml, hown, hg⟩ (hM H.size) ⟨va_cnB n hg (gw_in m5) rfl rfl rfl (hN.1 _ m1) (hg _ m4) hd hR, hg _ m2, trivial⟩ (hpre hK hN hP hD _) rfl hn hl hst (lv_room (m := m) (pc := pc) (ls := ls) (rest := st0) hW) hdg hf
theorem rI (hx : p.tables.exec = Jvm.exec) (hb : c.code = cc) (hml : c.maxLocals = nL) (hown : s.vm.findClass own = some m.cls) (hg : ∀ w ∈ GW, w.before args s = true) (hN : NW s) (hK : va_K D vwCl tys s) (hP : va_P D vwCl w H) (hD : va_D A w)
    (hM : CT l D tys y (.code y bytes maxL none) d mc ms w (.ref b :: As) Qc) (m5 : Cond.code y bytes maxL none ∈ GW) (m1 : Cond.methodLink own index y ∈ GW) (m2 : Cond.instanceMethod y ∈ GW) (m4 : Cond.initialized y.cls ∈ GW) (hy : y.name = "<init>")
    (hd : y.cls ≠ "java/lang/invoke/MethodHandle" ∧ y.cls ≠ "java/lang/invoke/VarHandle" ∧ (parseMethodDescriptor y.desc).map (fun d => d.parameters.length) = some n) (hR : (rmf d mc ms).frames + 1 ≤ R.frames ∧ 8 + (maxL + 11) + (rmf d mc ms).locals ≤ R.locals)
    (hn : As.length = n) (hl : ls.size = nL) (hst : st0 = As.reverse ++ .ref b :: rest) (hW : (rest.map fun v => v.category).sum ≤ 8) (hdg : decode cc pc = .ok (.invokespecial index, 3)) (hf : cells + mc ≤ R.cells ∧ slots + ms ≤ R.slots) :
    va_Run p l e R s m args below meth c H locs cells slots mc ms (F0 m pc ls st0) rest (Qc (va_A w H.size) (Value.ref b :: As).toArray) (va_A w H.size) :=
  va_runI (As := As) (rest := rest) ⟨hx, hb, hml, hown, hg⟩ (hM H.size) (cwI n hg (gw_in m5) rfl rfl rfl (hg _ m4) (hg _ m1) (hg _ m2) hy hd hR) (hpre hK hN hP hD _) rfl hn hl hst (lv_room (m := m) (pc := pc) (ls := ls) (rest := st0) hW) hdg hf
theorem rIN (hx : p.tables.exec = Jvm.exec) (hb : c.code = cc) (hml : c.maxLocals = nL) (hown : s.vm.findClass own = some m.cls) (hg : ∀ w ∈ GW, w.before args s = true) (hN : NW s) (hK : va_K D vwCl tys s) (hP : va_P D vwCl w H) (hD : va_D A w)
    (hM : CT l D tys y (.code y bytes maxL none) d mc ms w (.ref b :: As) Qc) (m5 : Cond.code y bytes maxL none ∈ GW) (m1 : Cond.methodLinkNest own index y host ∈ NLm) (m2 : Cond.instanceMethod y ∈ GW) (m4 : Cond.initialized y.cls ∈ GW) (hy : y.name = "<init>")
    (hd : y.cls ≠ "java/lang/invoke/MethodHandle" ∧ y.cls ≠ "java/lang/invoke/VarHandle" ∧ (parseMethodDescriptor y.desc).map (fun d => d.parameters.length) = some n) (hR : (rmf d mc ms).frames + 1 ≤ R.frames ∧ 8 + (maxL + 11) + (rmf d mc ms).locals ≤ R.locals)
    (hn : As.length = n) (hl : ls.size = nL) (hst : st0 = As.reverse ++ .ref b :: rest) (hW : (rest.map fun v => v.category).sum ≤ 8) (hdg : decode cc pc = .ok (.invokespecial index, 3)) (hf : cells + mc ≤ R.cells ∧ slots + ms ≤ R.slots) :
    va_Run p l e R s m args below meth c H locs cells slots mc ms (F0 m pc ls st0) rest (Qc (va_A w H.size) (Value.ref b :: As).toArray) (va_A w H.size) :=
  va_runIN (As := As) (rest := rest) (host := host) ⟨hx, hb, hml, hown, hg⟩ (hM H.size) ⟨va_cnB n hg (gw_in m5) rfl rfl rfl (hN.1 _ m1) (hg _ m4) hd hR, hy, hg _ m2⟩ (hpre hK hN hP hD _) rfl hn hl hst (lv_room (m := m) (pc := pc) (ls := ls) (rest := st0) hW) hdg hf
theorem fr_all {H0 : Heap} (hD : va_D A w) (hS : va_S A H0 H locs) (hA : ∀ q, H0.size ≤ q → A q) : ∀ q, va_A w H.size q → A q := fun q h => by
  rcases h with ⟨k, e, h⟩ | h
  · exact hD.2 k (q, e) h
  · exact hA q (Nat.le_trans hS.1 h)
variable {H0 : Heap} {a9 : Array Value}
theorem kI {post : Int32 → va_W → Prop} (hr : va_Run p l e R s m args below meth c H locs cells slots mc ms (F0 m pc ls st0) rest (QI D tys post (va_A w H.size) a9) (va_A w H.size)) (hD : va_D A w) (hS : va_S A H0 H locs) (hA : ∀ q, H0.size ≤ q → A q)
    (kk : ∀ (r : Int32) (u : va_W) (H1 : Heap) (locs1 : List Loc), post r u → va_P D vwCl u H1 → va_D A u → va_S A H0 H1 locs1 → W p l e R s m args below meth c H1 locs1 (cells + mc) (slots + ms) Q (F0 m (pc + 3) ls (.int r :: rest))) : W p l e R s m args below meth c H locs cells slots Q (F0 m pc ls st0) :=
  va_calli hr hS (fun q _ h => fr_all hD hS hA q h) (fr_all hD hS hA) (fun r u t H1 locs1 ht hvm hw hB hz1 hk1 hS1 => kk r u H1 locs1 hw (by rw [← ht]; exact hB.1) (hB.2.2.weaken (fun k q _ h => fr_all hD hS hA q.1 h)) hS1)
theorem kL {post : Int64 → va_W → Prop} (hr : va_Run p l e R s m args below meth c H locs cells slots mc ms (F0 m pc ls st0) rest (QL D tys post (va_A w H.size) a9) (va_A w H.size)) (hD : va_D A w) (hS : va_S A H0 H locs) (hA : ∀ q, H0.size ≤ q → A q)
    (kk : ∀ (r : Int64) (u : va_W) (H1 : Heap) (locs1 : List Loc), post r u → va_P D vwCl u H1 → va_D A u → va_S A H0 H1 locs1 → W p l e R s m args below meth c H1 locs1 (cells + mc) (slots + ms) Q (F0 m (pc + 3) ls (.long r :: rest))) : W p l e R s m args below meth c H locs cells slots Q (F0 m pc ls st0) :=
  va_calll hr hS (fun q _ h => fr_all hD hS hA q h) (fr_all hD hS hA) (fun r u t H1 locs1 ht hvm hw hB hz1 hk1 hS1 => kk r u H1 locs1 hw (by rw [← ht]; exact hB.1) (hB.2.2.weaken (fun k q _ h => fr_all hD hS hA q.1 h)) hS1)
theorem kD {post : UInt64 → va_W → Prop} (hr : va_Run p l e R s m args below meth c H locs cells slots mc ms (F0 m pc ls st0) rest (QD D tys post (va_A w H.size) a9) (va_A w H.size)) (hD : va_D A w) (hS : va_S A H0 H locs) (hA : ∀ q, H0.size ≤ q → A q)
    (kk : ∀ (r : UInt64) (u : va_W) (H1 : Heap) (locs1 : List Loc), post r u → va_P D vwCl u H1 → va_D A u → va_S A H0 H1 locs1 → W p l e R s m args below meth c H1 locs1 (cells + mc) (slots + ms) Q (F0 m (pc + 3) ls (.double r :: rest))) : W p l e R s m args below meth c H locs cells slots Q (F0 m pc ls st0) :=
  va_calld hr hS (fun q _ h => fr_all hD hS hA q h) (fr_all hD hS hA) (fun r u t H1 locs1 ht hvm hw hB hz1 hk1 hS1 => kk r u H1 locs1 hw (by rw [← ht]; exact hB.1) (hB.2.2.weaken (fun k q _ h => fr_all hD hS hA q.1 h)) hS1)
theorem kV {post : va_W → Prop} (hr : va_Run p l e R s m args below meth c H locs cells slots mc ms (F0 m pc ls st0) rest (QV D tys post (va_A w H.size) a9) (va_A w H.size)) (hD : va_D A w) (hS : va_S A H0 H locs) (hA : ∀ q, H0.size ≤ q → A q)
    (kk : ∀ (u : va_W) (H1 : Heap) (locs1 : List Loc), post u → va_P D vwCl u H1 → va_D A u → va_S A H0 H1 locs1 → W p l e R s m args below meth c H1 locs1 (cells + mc) (slots + ms) Q (F0 m (pc + 3) ls rest)) : W p l e R s m args below meth c H locs cells slots Q (F0 m pc ls st0) :=
  va_callv hr hS (fun q _ h => fr_all hD hS hA q h) (fr_all hD hS hA) (fun u t H1 locs1 ht hvm hw hB hz1 hk1 hS1 => kk u H1 locs1 hw (by rw [← ht]; exact hB.1) (hB.2.2.weaken (fun k q _ h => fr_all hD hS hA q.1 h)) hS1)
theorem kR {post : Nat → va_W → Prop} (hr : va_Run p l e R s m args below meth c H locs cells slots mc ms (F0 m pc ls st0) rest (QR D tys post (va_A w H.size) a9) (va_A w H.size)) (hD : va_D A w) (hS : va_S A H0 H locs) (hA : ∀ q, H0.size ≤ q → A q)
    (kk : ∀ (ra : Nat) (u : va_W) (H1 : Heap) (locs1 : List Loc), post ra u → va_P D vwCl u H1 → va_D A u → va_S A H0 H1 locs1 → W p l e R s m args below meth c H1 locs1 (cells + mc) (slots + ms) Q (F0 m (pc + 3) ls (.ref ra :: rest))) : W p l e R s m args below meth c H locs cells slots Q (F0 m pc ls st0) :=
  va_callr hr hS (fun q _ h => fr_all hD hS hA q h) (fr_all hD hS hA) (fun u ra t H1 locs1 ht hvm _ hB hz1 hk1 hS1 => kk ra u H1 locs1 hB.1 (by rw [← ht]; exact hB.2.1) (hB.2.2.2.weaken (fun k q _ h => fr_all hD hS hA q.1 h)) hS1)
/-- a loop that counts up -/
theorem w_loop {σ : Type} (Inv : Nat → σ → Heap → List Loc → Array Slot → Prop) (N : Nat)
    (hx : ∀ (u : σ) (H : Heap) (locs : List Loc) (ls : Array Slot), Inv N u H locs ls → W p l e R s m args below meth c H locs cells slots Q (F0 m pc ls []))
    (hs : ∀ (i : Nat) (u : σ) (H : Heap) (locs : List Loc) (ls : Array Slot), i < N → Inv i u H locs ls → (∀ (u' : σ) (H' : Heap) (locs' : List Loc) (ls' : Array Slot), Inv (i + 1) u' H' locs' ls' → W p l e R s m args below meth c H' locs' cells slots Q (F0 m pc ls' [])) → W p l e R s m args below meth c H locs cells slots Q (F0 m pc ls []))
    (i : Nat) (u : σ) (hi : i ≤ N) (h : Inv i u H locs ls) : W p l e R s m args below meth c H locs cells slots Q (F0 m pc ls []) := by
  obtain ⟨k, hk⟩ : ∃ k, N = i + k := ⟨N - i, by omega⟩
  induction k generalizing i u H locs ls with
  | zero =>
    have e9 : N = i := by omega
    subst e9
    exact hx u H locs ls h
  | succ k ih =>
    exact hs i u H locs ls (by omega) h (fun u' H' locs' ls' h' => ih (i + 1) u' (by omega) h' (by omega))
end XR
section XN
variable {p : Program} {l : Launch} {e : Env} {R : Room} {s : State} {m : MethodId} {args : Array Value} {below : List Frame} {meth : Method} {c : Code} {H : Heap} {locs : List Loc} {cells slots : Nat} {Q : State → Prop}
variable {cc : ByteArray} {pc : Nat} {ls : Array Slot} {rest : List Value} {D : va_G} {cl : List vw_C} {A : Nat → Prop} {a : Nat} {tys : List (ClassId × FieldType)} {ws : va_W} {H0 : Heap}
/-- a new array of a class that is known -/
theorem my_newa (hexec : p.tables.exec = Jvm.exec) (hb : c.code = cc) {atype : ArrayType} (harr : (Cond.arrayClass (newarray.typeOf atype)).before args s = true) {ty : FieldType} (hty : newarray.typeOf atype = ty) (hK : va_K D cl tys s) (hP : va_P D cl ws H) (hD : va_D A ws) (hS : va_S A H0 H locs) (hA : ∀ q, H0.size ≤ q → A q) (t0 : Nat) {c0 : ClassId} (ht : tys[t0]? = some (c0, ty)) (hRA : ∀ c1, va_RA s c1 ty → s.vm.findClass ("[" ++ ty.toString) = some c1)
    {n : Int32} {N' : Nat} {a0 : vp_A} (ha : ∀ cA : ClassId, vp_cell cA a0 = arrV cA N' (fun _ => defaultValue ty)) (hn : ¬ n < 0) (hN : n.toNatClampNeg = N') (hbytes : N' * componentBytes ty ≤ 536870912) (hcells : cells + 1 ≤ R.cells) (hslots : slots + N' ≤ R.slots) (hdg : decode cc pc = .ok (.newarray atype, 2))
    (kk : ∀ (q : Nat) (H1 : Heap), va_P D cl (ws ++ [(q, .inl (c0, a0))]) H1 → va_D A (ws ++ [(q, .inl (c0, a0))]) → va_S A H0 H1 locs →
      W p l e R s m args below meth c H1 locs (cells + 1) (slots + N') Q (F0 m (pc + 2) ls (.ref q :: rest))) : W p l e R s m args below meth c H locs cells slots Q (F0 m pc ls (.int n :: rest)) := by
  refine va_newa hexec hb harr hty hK hP hD hS hA ha hn hN hbytes hcells hslots hdg (fun q cA H1 hK1 hP1 hD1 hS1 => ?_)
  have h1 := hRA _ (hK1.2 tys.length (cA, ty) (by simp)).2
  have h2 := hRA _ (hK.2 t0 _ ht).2
  have h3 : cA = c0 := Option.some.inj (h1.symm.trans h2)
  subst h3
  exact kk q H1 hP1 hD1 hS1
/-- a new array of int arrays, of a class that is known -/
theorem my_newA (hexec : p.tables.exec = Jvm.exec) (hb : c.code = cc) {own : String} {index : Nat} (hown : s.vm.findClass own = some m.cls) (hclink : (Cond.classLink own index "[I").before args s = true) (hN : NW s) (hK : va_K D cl tys s) (hP : va_P D cl ws H) (hD : va_D A ws) (hS : va_S A H0 H locs) (hA : ∀ q, H0.size ≤ q → A q) (t0 : Nat) {c0 : ClassId} (ht : tys[t0]? = some (c0, .array .int))
    {n : Int32} {N' : Nat} (hn : ¬ n < 0) (hNn : n.toNatClampNeg = N') (hbytes : N' * 4 ≤ 536870912) (hcells : cells + 1 ≤ R.cells) (hslots : slots + N' ≤ R.slots) (hdg : decode cc pc = .ok (.anewarray index, 3))
    (kk : ∀ (q : Nat) (H1 : Heap), va_P D cl (ws ++ [(q, .inl (c0, N', .inr (.inr (.inr (.inr (fun _ => none))))))]) H1 → va_D A (ws ++ [(q, .inl (c0, N', .inr (.inr (.inr (.inr (fun _ => none))))))]) → va_S A H0 H1 locs →
      W p l e R s m args below meth c H1 locs (cells + 1) (slots + N') Q (F0 m (pc + 3) ls (.ref q :: rest))) : W p l e R s m args below meth c H locs cells slots Q (F0 m pc ls (.int n :: rest)) := by
  subst hNn
  refine W.anewA (t := .int) hexec hb hown hclink (over_moved (Vm.Alike.refl s.vm) hN.2) rfl hdg rfl hn hbytes hcells hslots fun cA kA comp f1 f2 f3 f4 => ?_
  have h2 : s.vm.findClass ("[" ++ (FieldType.array .int).toString) = some c0 := (hK.2 t0 _ ht).2
  have h3 : cA = c0 := Option.some.inj (f1.symm.trans h2)
  subst h3
  generalize hH1 : H.push ({ cls := cA, slots := Array.replicate n.toNatClampNeg .null, vm := .none } : Cell) = H1
  have z1 : H1.size = H.size + 1 := by rw [← hH1, Array.size_push]
  have e1 : H1[H.size]? = some (arrV cA n.toNatClampNeg (fun _ => .null)) := by rw [← hH1, Array.getElem?_push_size, ← arrV_new]
  have o1 : ∀ q : Nat, q < H.size → H1[q]? = H[q]? := fun q hq => by rw [← hH1, Array.getElem?_push, if_neg (Nat.ne_of_lt hq)]
  have hk : ∀ (k : Nat) (x : Nat × va_E), ws[k]? = some x → H1[x.1]? = H[x.1]? := fun k x hx => o1 x.1 ((hP k x hx).lt)
  refine kk H.size H1 ((hP.kept hk).app (fun k x hx => ?_)) (hD.push hP rfl (hA _ hS.1)) ⟨Nat.le_trans hS.1 (by omega), fun x h1 h2 => (o1 x (Nat.lt_of_lt_of_le h1 hS.1)).trans (hS.2.1 x h1 h2), hS.2.2⟩
  have hz : k < 1 := (List.getElem?_eq_some_iff.mp hx).1
  rw [show k = 0 by omega] at hx
  cases hx
  show H1[H.size]? = some (vp_cell _ _)
  rw [vp_cell_q]
  exact e1
end XN
end
