section
-- ===== PART A: goes FIRST, ahead of the names: the tables' words, and 'selects' of the private methods out of them =====
/-- a private method of a class that the tables say can be made, by its rows of tables_1 -/
def lw_okq (q : MethodName × Nat) : Prop := (q.1.cls ≠ "java/lang/invoke/MethodHandle" ∧ q.1.cls ≠ "java/lang/invoke/VarHandle") ∧ Cond.instantiable q.1.cls q.2 ∈ tables_1 ∧ Cond.privateMethod q.1 ∈ tables_1 ∧ Cond.instanceMethod q.1 ∈ tables_1
theorem lw_p0 : lw_okq (⟨"OrielChart", "freshFlow", "()LOrielChart$Flow;"⟩, 6) := ⟨⟨by decide +kernel, by decide +kernel⟩, List.mem_of_getElem? (i := 23) (by decide +kernel), List.mem_of_getElem? (i := 339) (by decide +kernel), List.mem_of_getElem? (i := 340) (by decide +kernel)⟩
theorem lw_p1 : lw_okq (⟨"OrielChart$Flow", "cut", "(IJ)V"⟩, 11) := ⟨⟨by decide +kernel, by decide +kernel⟩, List.mem_of_getElem? (i := 64) (by decide +kernel), List.mem_of_getElem? (i := 359) (by decide +kernel), List.mem_of_getElem? (i := 360) (by decide +kernel)⟩
theorem lw_p2 : lw_okq (⟨"OrielChart$Flow", "leave", "(LOrielChart$Code;I)V"⟩, 11) := ⟨⟨by decide +kernel, by decide +kernel⟩, List.mem_of_getElem? (i := 64) (by decide +kernel), List.mem_of_getElem? (i := 372) (by decide +kernel), List.mem_of_getElem? (i := 373) (by decide +kernel)⟩
theorem lw_p3 : lw_okq (⟨"OrielChart$Flow", "join", "(III)V"⟩, 11) := ⟨⟨by decide +kernel, by decide +kernel⟩, List.mem_of_getElem? (i := 64) (by decide +kernel), List.mem_of_getElem? (i := 376) (by decide +kernel), List.mem_of_getElem? (i := 377) (by decide +kernel)⟩
theorem lw_p4 : lw_okq (⟨"OrielChart", "freshRanks", "()LOrielChart$Ranks;"⟩, 6) := ⟨⟨by decide +kernel, by decide +kernel⟩, List.mem_of_getElem? (i := 23) (by decide +kernel), List.mem_of_getElem? (i := 406) (by decide +kernel), List.mem_of_getElem? (i := 407) (by decide +kernel)⟩
theorem lw_p5 : lw_okq (⟨"OrielChart$Ranks", "sortEdges", "(LOrielChart$Flow;)V"⟩, 7) := ⟨⟨by decide +kernel, by decide +kernel⟩, List.mem_of_getElem? (i := 129) (by decide +kernel), List.mem_of_getElem? (i := 422) (by decide +kernel), List.mem_of_getElem? (i := 423) (by decide +kernel)⟩
theorem lw_p6 : lw_okq (⟨"OrielChart$Ranks", "closeLoop", "(I)V"⟩, 7) := ⟨⟨by decide +kernel, by decide +kernel⟩, List.mem_of_getElem? (i := 129) (by decide +kernel), List.mem_of_getElem? (i := 432) (by decide +kernel), List.mem_of_getElem? (i := 433) (by decide +kernel)⟩
theorem lw_p7 : lw_okq (⟨"OrielChart", "freshLives", "()LOrielChart$Lives;"⟩, 6) := ⟨⟨by decide +kernel, by decide +kernel⟩, List.mem_of_getElem? (i := 23) (by decide +kernel), List.mem_of_getElem? (i := 444) (by decide +kernel), List.mem_of_getElem? (i := 445) (by decide +kernel)⟩
theorem lw_p8 : lw_okq (⟨"OrielChart$Lives", "passUp", "(LOrielChart$Code;LOrielChart$Flow;)Z"⟩, 3) := ⟨⟨by decide +kernel, by decide +kernel⟩, List.mem_of_getElem? (i := 160) (by decide +kernel), List.mem_of_getElem? (i := 453) (by decide +kernel), List.mem_of_getElem? (i := 454) (by decide +kernel)⟩
theorem lw_p9 : lw_okq (⟨"OrielChart$Lives", "behind", "(LOrielChart$Flow;I)I"⟩, 3) := ⟨⟨by decide +kernel, by decide +kernel⟩, List.mem_of_getElem? (i := 160) (by decide +kernel), List.mem_of_getElem? (i := 458) (by decide +kernel), List.mem_of_getElem? (i := 459) (by decide +kernel)⟩
theorem lw_p10 : lw_okq (⟨"OrielChart$Lives", "vainIn", "(LOrielChart$Code;LOrielChart$Flow;I)I"⟩, 3) := ⟨⟨by decide +kernel, by decide +kernel⟩, List.mem_of_getElem? (i := 160) (by decide +kernel), List.mem_of_getElem? (i := 467) (by decide +kernel), List.mem_of_getElem? (i := 468) (by decide +kernel)⟩
theorem lw_p11 : lw_okq (⟨"OrielChart", "freshReduction", "()LOrielChart$Reduction;"⟩, 6) := ⟨⟨by decide +kernel, by decide +kernel⟩, List.mem_of_getElem? (i := 23) (by decide +kernel), List.mem_of_getElem? (i := 484) (by decide +kernel), List.mem_of_getElem? (i := 485) (by decide +kernel)⟩
theorem lw_p12 : lw_okq (⟨"OrielChart$Reduction", "takeStep", "()Z"⟩, 8) := ⟨⟨by decide +kernel, by decide +kernel⟩, List.mem_of_getElem? (i := 178) (by decide +kernel), List.mem_of_getElem? (i := 496) (by decide +kernel), List.mem_of_getElem? (i := 497) (by decide +kernel)⟩
theorem lw_p13 : lw_okq (⟨"OrielChart$Reduction", "findEntries", "()V"⟩, 8) := ⟨⟨by decide +kernel, by decide +kernel⟩, List.mem_of_getElem? (i := 178) (by decide +kernel), List.mem_of_getElem? (i := 500) (by decide +kernel), List.mem_of_getElem? (i := 501) (by decide +kernel)⟩
theorem lw_p14 : lw_okq (⟨"OrielChart$Reduction", "ruleFor", "(I)I"⟩, 8) := ⟨⟨by decide +kernel, by decide +kernel⟩, List.mem_of_getElem? (i := 178) (by decide +kernel), List.mem_of_getElem? (i := 506) (by decide +kernel), List.mem_of_getElem? (i := 507) (by decide +kernel)⟩
theorem lw_p15 : lw_okq (⟨"OrielChart$Reduction", "isSingle", "(III)Z"⟩, 8) := ⟨⟨by decide +kernel, by decide +kernel⟩, List.mem_of_getElem? (i := 178) (by decide +kernel), List.mem_of_getElem? (i := 513) (by decide +kernel), List.mem_of_getElem? (i := 514) (by decide +kernel)⟩
def lw_privs_1 : List (MethodName × Nat) := [(⟨"OrielChart", "freshFlow", "()LOrielChart$Flow;"⟩, 6), (⟨"OrielChart$Flow", "cut", "(IJ)V"⟩, 11), (⟨"OrielChart$Flow", "leave", "(LOrielChart$Code;I)V"⟩, 11), (⟨"OrielChart$Flow", "join", "(III)V"⟩, 11), (⟨"OrielChart", "freshRanks", "()LOrielChart$Ranks;"⟩, 6), (⟨"OrielChart$Ranks", "sortEdges", "(LOrielChart$Flow;)V"⟩, 7), (⟨"OrielChart$Ranks", "closeLoop", "(I)V"⟩, 7), (⟨"OrielChart", "freshLives", "()LOrielChart$Lives;"⟩, 6), (⟨"OrielChart$Lives", "passUp", "(LOrielChart$Code;LOrielChart$Flow;)Z"⟩, 3), (⟨"OrielChart$Lives", "behind", "(LOrielChart$Flow;I)I"⟩, 3), (⟨"OrielChart$Lives", "vainIn", "(LOrielChart$Code;LOrielChart$Flow;I)I"⟩, 3), (⟨"OrielChart", "freshReduction", "()LOrielChart$Reduction;"⟩, 6), (⟨"OrielChart$Reduction", "takeStep", "()Z"⟩, 8), (⟨"OrielChart$Reduction", "findEntries", "()V"⟩, 8), (⟨"OrielChart$Reduction", "ruleFor", "(I)I"⟩, 8), (⟨"OrielChart$Reduction", "isSingle", "(III)Z"⟩, 8)]
theorem lw_r1 : ∀ q ∈ lw_privs_1, lw_okq q := List.forall_mem_cons.mpr ⟨lw_p0, List.forall_mem_cons.mpr ⟨lw_p1, List.forall_mem_cons.mpr ⟨lw_p2, List.forall_mem_cons.mpr ⟨lw_p3, List.forall_mem_cons.mpr ⟨lw_p4, List.forall_mem_cons.mpr ⟨lw_p5, List.forall_mem_cons.mpr ⟨lw_p6, List.forall_mem_cons.mpr ⟨lw_p7, List.forall_mem_cons.mpr ⟨lw_p8, List.forall_mem_cons.mpr ⟨lw_p9, List.forall_mem_cons.mpr ⟨lw_p10, List.forall_mem_cons.mpr ⟨lw_p11, List.forall_mem_cons.mpr ⟨lw_p12, List.forall_mem_cons.mpr ⟨lw_p13, List.forall_mem_cons.mpr ⟨lw_p14, List.forall_mem_cons.mpr ⟨lw_p15, fun _ h => absurd h List.not_mem_nil⟩⟩⟩⟩⟩⟩⟩⟩⟩⟩⟩⟩⟩⟩⟩⟩
theorem lw_p16 : lw_okq (⟨"OrielChart$Reduction", "isDouble", "(III)Z"⟩, 8) := ⟨⟨by decide +kernel, by decide +kernel⟩, List.mem_of_getElem? (i := 178) (by decide +kernel), List.mem_of_getElem? (i := 517) (by decide +kernel), List.mem_of_getElem? (i := 518) (by decide +kernel)⟩
theorem lw_p17 : lw_okq (⟨"OrielChart$Reduction", "apply", "(II)V"⟩, 8) := ⟨⟨by decide +kernel, by decide +kernel⟩, List.mem_of_getElem? (i := 178) (by decide +kernel), List.mem_of_getElem? (i := 521) (by decide +kernel), List.mem_of_getElem? (i := 522) (by decide +kernel)⟩
theorem lw_p18 : lw_okq (⟨"OrielChart$Reduction", "merge", "(JIZ)V"⟩, 8) := ⟨⟨by decide +kernel, by decide +kernel⟩, List.mem_of_getElem? (i := 178) (by decide +kernel), List.mem_of_getElem? (i := 525) (by decide +kernel), List.mem_of_getElem? (i := 526) (by decide +kernel)⟩
theorem lw_p19 : lw_okq (⟨"OrielChart", "freshPicture", "()LOrielChart$Picture;"⟩, 6) := ⟨⟨by decide +kernel, by decide +kernel⟩, List.mem_of_getElem? (i := 23) (by decide +kernel), List.mem_of_getElem? (i := 541) (by decide +kernel), List.mem_of_getElem? (i := 542) (by decide +kernel)⟩
theorem lw_p20 : lw_okq (⟨"OrielChart$Walk", "enter", "(LOrielChart$Flow;I)V"⟩, 9) := ⟨⟨by decide +kernel, by decide +kernel⟩, List.mem_of_getElem? (i := 220) (by decide +kernel), List.mem_of_getElem? (i := 554) (by decide +kernel), List.mem_of_getElem? (i := 555) (by decide +kernel)⟩
theorem lw_p21 : lw_okq (⟨"OrielChart$Walk", "goOn", "(LOrielChart$Flow;I)V"⟩, 9) := ⟨⟨by decide +kernel, by decide +kernel⟩, List.mem_of_getElem? (i := 220) (by decide +kernel), List.mem_of_getElem? (i := 560) (by decide +kernel), List.mem_of_getElem? (i := 561) (by decide +kernel)⟩
theorem lw_p22 : lw_okq (⟨"OrielChart$Picture", "setLayers", "()V"⟩, 16) := ⟨⟨by decide +kernel, by decide +kernel⟩, List.mem_of_getElem? (i := 214) (by decide +kernel), List.mem_of_getElem? (i := 566) (by decide +kernel), List.mem_of_getElem? (i := 567) (by decide +kernel)⟩
theorem lw_p23 : lw_okq (⟨"OrielChart$Picture", "pushDown", "()Z"⟩, 16) := ⟨⟨by decide +kernel, by decide +kernel⟩, List.mem_of_getElem? (i := 214) (by decide +kernel), List.mem_of_getElem? (i := 572) (by decide +kernel), List.mem_of_getElem? (i := 573) (by decide +kernel)⟩
theorem lw_p24 : lw_okq (⟨"OrielChart$Picture", "top", "(I)I"⟩, 16) := ⟨⟨by decide +kernel, by decide +kernel⟩, List.mem_of_getElem? (i := 214) (by decide +kernel), List.mem_of_getElem? (i := 581) (by decide +kernel), List.mem_of_getElem? (i := 582) (by decide +kernel)⟩
theorem lw_p25 : lw_okq (⟨"OrielChart$Picture", "numberBends", "()V"⟩, 16) := ⟨⟨by decide +kernel, by decide +kernel⟩, List.mem_of_getElem? (i := 214) (by decide +kernel), List.mem_of_getElem? (i := 588) (by decide +kernel), List.mem_of_getElem? (i := 589) (by decide +kernel)⟩
theorem lw_p26 : lw_okq (⟨"OrielChart$Picture", "bottom", "(I)I"⟩, 16) := ⟨⟨by decide +kernel, by decide +kernel⟩, List.mem_of_getElem? (i := 214) (by decide +kernel), List.mem_of_getElem? (i := 596) (by decide +kernel), List.mem_of_getElem? (i := 597) (by decide +kernel)⟩
theorem lw_p27 : lw_okq (⟨"OrielChart$Picture", "fill", "(II)I"⟩, 16) := ⟨⟨by decide +kernel, by decide +kernel⟩, List.mem_of_getElem? (i := 214) (by decide +kernel), List.mem_of_getElem? (i := 600) (by decide +kernel), List.mem_of_getElem? (i := 601) (by decide +kernel)⟩
theorem lw_p28 : lw_okq (⟨"OrielChart$Picture", "putPoint", "(III)V"⟩, 16) := ⟨⟨by decide +kernel, by decide +kernel⟩, List.mem_of_getElem? (i := 214) (by decide +kernel), List.mem_of_getElem? (i := 604) (by decide +kernel), List.mem_of_getElem? (i := 605) (by decide +kernel)⟩
theorem lw_p29 : lw_okq (⟨"OrielChart$Picture", "pointOn", "(II)I"⟩, 16) := ⟨⟨by decide +kernel, by decide +kernel⟩, List.mem_of_getElem? (i := 214) (by decide +kernel), List.mem_of_getElem? (i := 608) (by decide +kernel), List.mem_of_getElem? (i := 609) (by decide +kernel)⟩
theorem lw_p30 : lw_okq (⟨"OrielChart$Picture", "crossingsUnder", "(I)I"⟩, 16) := ⟨⟨by decide +kernel, by decide +kernel⟩, List.mem_of_getElem? (i := 214) (by decide +kernel), List.mem_of_getElem? (i := 620) (by decide +kernel), List.mem_of_getElem? (i := 621) (by decide +kernel)⟩
theorem lw_p31 : lw_okq (⟨"OrielChart$Picture", "leaves", "(II)Z"⟩, 16) := ⟨⟨by decide +kernel, by decide +kernel⟩, List.mem_of_getElem? (i := 214) (by decide +kernel), List.mem_of_getElem? (i := 624) (by decide +kernel), List.mem_of_getElem? (i := 625) (by decide +kernel)⟩
def lw_privs_2 : List (MethodName × Nat) := [(⟨"OrielChart$Reduction", "isDouble", "(III)Z"⟩, 8), (⟨"OrielChart$Reduction", "apply", "(II)V"⟩, 8), (⟨"OrielChart$Reduction", "merge", "(JIZ)V"⟩, 8), (⟨"OrielChart", "freshPicture", "()LOrielChart$Picture;"⟩, 6), (⟨"OrielChart$Walk", "enter", "(LOrielChart$Flow;I)V"⟩, 9), (⟨"OrielChart$Walk", "goOn", "(LOrielChart$Flow;I)V"⟩, 9), (⟨"OrielChart$Picture", "setLayers", "()V"⟩, 16), (⟨"OrielChart$Picture", "pushDown", "()Z"⟩, 16), (⟨"OrielChart$Picture", "top", "(I)I"⟩, 16), (⟨"OrielChart$Picture", "numberBends", "()V"⟩, 16), (⟨"OrielChart$Picture", "bottom", "(I)I"⟩, 16), (⟨"OrielChart$Picture", "fill", "(II)I"⟩, 16), (⟨"OrielChart$Picture", "putPoint", "(III)V"⟩, 16), (⟨"OrielChart$Picture", "pointOn", "(II)I"⟩, 16), (⟨"OrielChart$Picture", "crossingsUnder", "(I)I"⟩, 16), (⟨"OrielChart$Picture", "leaves", "(II)Z"⟩, 16)]
theorem lw_r2 : ∀ q ∈ lw_privs_2, lw_okq q := List.forall_mem_cons.mpr ⟨lw_p16, List.forall_mem_cons.mpr ⟨lw_p17, List.forall_mem_cons.mpr ⟨lw_p18, List.forall_mem_cons.mpr ⟨lw_p19, List.forall_mem_cons.mpr ⟨lw_p20, List.forall_mem_cons.mpr ⟨lw_p21, List.forall_mem_cons.mpr ⟨lw_p22, List.forall_mem_cons.mpr ⟨lw_p23, List.forall_mem_cons.mpr ⟨lw_p24, List.forall_mem_cons.mpr ⟨lw_p25, List.forall_mem_cons.mpr ⟨lw_p26, List.forall_mem_cons.mpr ⟨lw_p27, List.forall_mem_cons.mpr ⟨lw_p28, List.forall_mem_cons.mpr ⟨lw_p29, List.forall_mem_cons.mpr ⟨lw_p30, List.forall_mem_cons.mpr ⟨lw_p31, fun _ h => absurd h List.not_mem_nil⟩⟩⟩⟩⟩⟩⟩⟩⟩⟩⟩⟩⟩⟩⟩⟩
theorem lw_p32 : lw_okq (⟨"OrielChart", "digestOfCode", "(J)J"⟩, 6) := ⟨⟨by decide +kernel, by decide +kernel⟩, List.mem_of_getElem? (i := 23) (by decide +kernel), List.mem_of_getElem? (i := 645) (by decide +kernel), List.mem_of_getElem? (i := 646) (by decide +kernel)⟩
theorem lw_p33 : lw_okq (⟨"OrielChart", "digestOfBlocks", "(J)J"⟩, 6) := ⟨⟨by decide +kernel, by decide +kernel⟩, List.mem_of_getElem? (i := 23) (by decide +kernel), List.mem_of_getElem? (i := 654) (by decide +kernel), List.mem_of_getElem? (i := 655) (by decide +kernel)⟩
theorem lw_p34 : lw_okq (⟨"OrielChart", "digestOfEdges", "(J)J"⟩, 6) := ⟨⟨by decide +kernel, by decide +kernel⟩, List.mem_of_getElem? (i := 23) (by decide +kernel), List.mem_of_getElem? (i := 675) (by decide +kernel), List.mem_of_getElem? (i := 676) (by decide +kernel)⟩
theorem lw_p35 : lw_okq (⟨"OrielChart", "digestOfSteps", "(J)J"⟩, 6) := ⟨⟨by decide +kernel, by decide +kernel⟩, List.mem_of_getElem? (i := 23) (by decide +kernel), List.mem_of_getElem? (i := 689) (by decide +kernel), List.mem_of_getElem? (i := 690) (by decide +kernel)⟩
theorem lw_p36 : lw_okq (⟨"OrielChart", "digestOfLayers", "(J)J"⟩, 6) := ⟨⟨by decide +kernel, by decide +kernel⟩, List.mem_of_getElem? (i := 23) (by decide +kernel), List.mem_of_getElem? (i := 693) (by decide +kernel), List.mem_of_getElem? (i := 694) (by decide +kernel)⟩
theorem lw_p37 : lw_okq (⟨"java/lang/Throwable", "fillInStackTrace", "(I)Ljava/lang/Throwable;"⟩, 6) := ⟨⟨by decide +kernel, by decide +kernel⟩, List.mem_of_getElem? (i := 752) (by decide +kernel), List.mem_of_getElem? (i := 750) (by decide +kernel), List.mem_of_getElem? (i := 751) (by decide +kernel)⟩
theorem lw_p38 : lw_okq (⟨"OrielChart$Code", "shiftTargets", "(II)V"⟩, 5) := ⟨⟨by decide +kernel, by decide +kernel⟩, List.mem_of_getElem? (i := 31) (by decide +kernel), List.mem_of_getElem? (i := 808) (by decide +kernel), List.mem_of_getElem? (i := 809) (by decide +kernel)⟩
theorem lw_p39 : lw_okq (⟨"OrielChart$Code", "copy", "(II)V"⟩, 5) := ⟨⟨by decide +kernel, by decide +kernel⟩, List.mem_of_getElem? (i := 31) (by decide +kernel), List.mem_of_getElem? (i := 817) (by decide +kernel), List.mem_of_getElem? (i := 818) (by decide +kernel)⟩
theorem lw_p40 : lw_okq (⟨"OrielChart", "forget", "()V"⟩, 6) := ⟨⟨by decide +kernel, by decide +kernel⟩, List.mem_of_getElem? (i := 23) (by decide +kernel), List.mem_of_getElem? (i := 821) (by decide +kernel), List.mem_of_getElem? (i := 822) (by decide +kernel)⟩
theorem lw_p41 : lw_okq (⟨"OrielChart", "needInstruction", "(I)V"⟩, 6) := ⟨⟨by decide +kernel, by decide +kernel⟩, List.mem_of_getElem? (i := 23) (by decide +kernel), List.mem_of_getElem? (i := 833) (by decide +kernel), List.mem_of_getElem? (i := 834) (by decide +kernel)⟩
theorem lw_p42 : lw_okq (⟨"OrielChart", "needBlock", "(I)V"⟩, 6) := ⟨⟨by decide +kernel, by decide +kernel⟩, List.mem_of_getElem? (i := 23) (by decide +kernel), List.mem_of_getElem? (i := 903) (by decide +kernel), List.mem_of_getElem? (i := 904) (by decide +kernel)⟩
theorem lw_p43 : lw_okq (⟨"OrielChart", "needEdge", "(I)V"⟩, 6) := ⟨⟨by decide +kernel, by decide +kernel⟩, List.mem_of_getElem? (i := 23) (by decide +kernel), List.mem_of_getElem? (i := 922) (by decide +kernel), List.mem_of_getElem? (i := 923) (by decide +kernel)⟩
theorem lw_p44 : lw_okq (⟨"OrielChart", "needStep", "(I)V"⟩, 6) := ⟨⟨by decide +kernel, by decide +kernel⟩, List.mem_of_getElem? (i := 23) (by decide +kernel), List.mem_of_getElem? (i := 995) (by decide +kernel), List.mem_of_getElem? (i := 996) (by decide +kernel)⟩
theorem lw_p45 : lw_okq (⟨"OrielChart", "needLayer", "(I)V"⟩, 6) := ⟨⟨by decide +kernel, by decide +kernel⟩, List.mem_of_getElem? (i := 23) (by decide +kernel), List.mem_of_getElem? (i := 1035) (by decide +kernel), List.mem_of_getElem? (i := 1036) (by decide +kernel)⟩
theorem lw_p46 : lw_okq (⟨"OrielChart$Picture", "arrange", "(II)V"⟩, 16) := ⟨⟨by decide +kernel, by decide +kernel⟩, List.mem_of_getElem? (i := 214) (by decide +kernel), List.mem_of_getElem? (i := 1088) (by decide +kernel), List.mem_of_getElem? (i := 1089) (by decide +kernel)⟩
theorem lw_p47 : lw_okq (⟨"OrielChart$Picture", "weigh", "(III)V"⟩, 16) := ⟨⟨by decide +kernel, by decide +kernel⟩, List.mem_of_getElem? (i := 214) (by decide +kernel), List.mem_of_getElem? (i := 1093) (by decide +kernel), List.mem_of_getElem? (i := 1094) (by decide +kernel)⟩
def lw_privs_3 : List (MethodName × Nat) := [(⟨"OrielChart", "digestOfCode", "(J)J"⟩, 6), (⟨"OrielChart", "digestOfBlocks", "(J)J"⟩, 6), (⟨"OrielChart", "digestOfEdges", "(J)J"⟩, 6), (⟨"OrielChart", "digestOfSteps", "(J)J"⟩, 6), (⟨"OrielChart", "digestOfLayers", "(J)J"⟩, 6), (⟨"java/lang/Throwable", "fillInStackTrace", "(I)Ljava/lang/Throwable;"⟩, 6), (⟨"OrielChart$Code", "shiftTargets", "(II)V"⟩, 5), (⟨"OrielChart$Code", "copy", "(II)V"⟩, 5), (⟨"OrielChart", "forget", "()V"⟩, 6), (⟨"OrielChart", "needInstruction", "(I)V"⟩, 6), (⟨"OrielChart", "needBlock", "(I)V"⟩, 6), (⟨"OrielChart", "needEdge", "(I)V"⟩, 6), (⟨"OrielChart", "needStep", "(I)V"⟩, 6), (⟨"OrielChart", "needLayer", "(I)V"⟩, 6), (⟨"OrielChart$Picture", "arrange", "(II)V"⟩, 16), (⟨"OrielChart$Picture", "weigh", "(III)V"⟩, 16)]
theorem lw_r3 : ∀ q ∈ lw_privs_3, lw_okq q := List.forall_mem_cons.mpr ⟨lw_p32, List.forall_mem_cons.mpr ⟨lw_p33, List.forall_mem_cons.mpr ⟨lw_p34, List.forall_mem_cons.mpr ⟨lw_p35, List.forall_mem_cons.mpr ⟨lw_p36, List.forall_mem_cons.mpr ⟨lw_p37, List.forall_mem_cons.mpr ⟨lw_p38, List.forall_mem_cons.mpr ⟨lw_p39, List.forall_mem_cons.mpr ⟨lw_p40, List.forall_mem_cons.mpr ⟨lw_p41, List.forall_mem_cons.mpr ⟨lw_p42, List.forall_mem_cons.mpr ⟨lw_p43, List.forall_mem_cons.mpr ⟨lw_p44, List.forall_mem_cons.mpr ⟨lw_p45, List.forall_mem_cons.mpr ⟨lw_p46, List.forall_mem_cons.mpr ⟨lw_p47, fun _ h => absurd h List.not_mem_nil⟩⟩⟩⟩⟩⟩⟩⟩⟩⟩⟩⟩⟩⟩⟩⟩
theorem lw_p48 : lw_okq (⟨"OrielChart$Picture", "isAhead", "(II)Z"⟩, 16) := ⟨⟨by decide +kernel, by decide +kernel⟩, List.mem_of_getElem? (i := 214) (by decide +kernel), List.mem_of_getElem? (i := 1098) (by decide +kernel), List.mem_of_getElem? (i := 1099) (by decide +kernel)⟩
theorem lw_p49 : lw_okq (⟨"OrielChartModel", "refuse", "(I)I"⟩, 32) := ⟨⟨by decide +kernel, by decide +kernel⟩, List.mem_of_getElem? (i := 1115) (by decide +kernel), List.mem_of_getElem? (i := 1235) (by decide +kernel), List.mem_of_getElem? (i := 1236) (by decide +kernel)⟩
theorem lw_p50 : lw_okq (⟨"OrielChartModel", "copy", "(II)V"⟩, 32) := ⟨⟨by decide +kernel, by decide +kernel⟩, List.mem_of_getElem? (i := 1115) (by decide +kernel), List.mem_of_getElem? (i := 1239) (by decide +kernel), List.mem_of_getElem? (i := 1240) (by decide +kernel)⟩
theorem lw_p51 : lw_okq (⟨"OrielChartModel", "beginAnew", "()V"⟩, 32) := ⟨⟨by decide +kernel, by decide +kernel⟩, List.mem_of_getElem? (i := 1115) (by decide +kernel), List.mem_of_getElem? (i := 1243) (by decide +kernel), List.mem_of_getElem? (i := 1244) (by decide +kernel)⟩
theorem lw_p52 : lw_okq (⟨"OrielChartModel", "isInstruction", "(I)Z"⟩, 32) := ⟨⟨by decide +kernel, by decide +kernel⟩, List.mem_of_getElem? (i := 1115) (by decide +kernel), List.mem_of_getElem? (i := 1251) (by decide +kernel), List.mem_of_getElem? (i := 1252) (by decide +kernel)⟩
theorem lw_p53 : lw_okq (⟨"OrielChartModel", "lay", "()V"⟩, 32) := ⟨⟨by decide +kernel, by decide +kernel⟩, List.mem_of_getElem? (i := 1115) (by decide +kernel), List.mem_of_getElem? (i := 1279) (by decide +kernel), List.mem_of_getElem? (i := 1280) (by decide +kernel)⟩
theorem lw_p54 : lw_okq (⟨"OrielChartModel", "isLeader", "(I)Z"⟩, 32) := ⟨⟨by decide +kernel, by decide +kernel⟩, List.mem_of_getElem? (i := 1115) (by decide +kernel), List.mem_of_getElem? (i := 1283) (by decide +kernel), List.mem_of_getElem? (i := 1284) (by decide +kernel)⟩
theorem lw_p55 : lw_okq (⟨"OrielChartModel", "blockAt", "(I)I"⟩, 32) := ⟨⟨by decide +kernel, by decide +kernel⟩, List.mem_of_getElem? (i := 1115) (by decide +kernel), List.mem_of_getElem? (i := 1287) (by decide +kernel), List.mem_of_getElem? (i := 1288) (by decide +kernel)⟩
theorem lw_p56 : lw_okq (⟨"OrielChartModel", "addEdge", "(II)V"⟩, 32) := ⟨⟨by decide +kernel, by decide +kernel⟩, List.mem_of_getElem? (i := 1115) (by decide +kernel), List.mem_of_getElem? (i := 1291) (by decide +kernel), List.mem_of_getElem? (i := 1292) (by decide +kernel)⟩
theorem lw_p57 : lw_okq (⟨"OrielChartModel", "reachedFrom", "(IJ)J"⟩, 32) := ⟨⟨by decide +kernel, by decide +kernel⟩, List.mem_of_getElem? (i := 1115) (by decide +kernel), List.mem_of_getElem? (i := 1295) (by decide +kernel), List.mem_of_getElem? (i := 1296) (by decide +kernel)⟩
theorem lw_p58 : lw_okq (⟨"OrielChartModel", "loopOf", "(I)J"⟩, 32) := ⟨⟨by decide +kernel, by decide +kernel⟩, List.mem_of_getElem? (i := 1115) (by decide +kernel), List.mem_of_getElem? (i := 1302) (by decide +kernel), List.mem_of_getElem? (i := 1303) (by decide +kernel)⟩
theorem lw_p59 : lw_okq (⟨"OrielChartModel", "isBackNow", "(I)Z"⟩, 32) := ⟨⟨by decide +kernel, by decide +kernel⟩, List.mem_of_getElem? (i := 1115) (by decide +kernel), List.mem_of_getElem? (i := 1306) (by decide +kernel), List.mem_of_getElem? (i := 1307) (by decide +kernel)⟩
theorem lw_p60 : lw_okq (⟨"OrielChartModel", "dominatesNow", "(II)Z"⟩, 32) := ⟨⟨by decide +kernel, by decide +kernel⟩, List.mem_of_getElem? (i := 1115) (by decide +kernel), List.mem_of_getElem? (i := 1310) (by decide +kernel), List.mem_of_getElem? (i := 1311) (by decide +kernel)⟩
theorem lw_p61 : lw_okq (⟨"OrielChartModel", "isReachedNow", "(I)Z"⟩, 32) := ⟨⟨by decide +kernel, by decide +kernel⟩, List.mem_of_getElem? (i := 1115) (by decide +kernel), List.mem_of_getElem? (i := 1314) (by decide +kernel), List.mem_of_getElem? (i := 1315) (by decide +kernel)⟩
theorem lw_p62 : lw_okq (⟨"OrielChartModel", "isGraph", "(I)Z"⟩, 32) := ⟨⟨by decide +kernel, by decide +kernel⟩, List.mem_of_getElem? (i := 1115) (by decide +kernel), List.mem_of_getElem? (i := 1318) (by decide +kernel), List.mem_of_getElem? (i := 1319) (by decide +kernel)⟩
theorem lw_p63 : lw_okq (⟨"OrielChartModel", "layLive", "()V"⟩, 32) := ⟨⟨by decide +kernel, by decide +kernel⟩, List.mem_of_getElem? (i := 1115) (by decide +kernel), List.mem_of_getElem? (i := 1322) (by decide +kernel), List.mem_of_getElem? (i := 1323) (by decide +kernel)⟩
def lw_privs_4 : List (MethodName × Nat) := [(⟨"OrielChart$Picture", "isAhead", "(II)Z"⟩, 16), (⟨"OrielChartModel", "refuse", "(I)I"⟩, 32), (⟨"OrielChartModel", "copy", "(II)V"⟩, 32), (⟨"OrielChartModel", "beginAnew", "()V"⟩, 32), (⟨"OrielChartModel", "isInstruction", "(I)Z"⟩, 32), (⟨"OrielChartModel", "lay", "()V"⟩, 32), (⟨"OrielChartModel", "isLeader", "(I)Z"⟩, 32), (⟨"OrielChartModel", "blockAt", "(I)I"⟩, 32), (⟨"OrielChartModel", "addEdge", "(II)V"⟩, 32), (⟨"OrielChartModel", "reachedFrom", "(IJ)J"⟩, 32), (⟨"OrielChartModel", "loopOf", "(I)J"⟩, 32), (⟨"OrielChartModel", "isBackNow", "(I)Z"⟩, 32), (⟨"OrielChartModel", "dominatesNow", "(II)Z"⟩, 32), (⟨"OrielChartModel", "isReachedNow", "(I)Z"⟩, 32), (⟨"OrielChartModel", "isGraph", "(I)Z"⟩, 32), (⟨"OrielChartModel", "layLive", "()V"⟩, 32)]
theorem lw_r4 : ∀ q ∈ lw_privs_4, lw_okq q := List.forall_mem_cons.mpr ⟨lw_p48, List.forall_mem_cons.mpr ⟨lw_p49, List.forall_mem_cons.mpr ⟨lw_p50, List.forall_mem_cons.mpr ⟨lw_p51, List.forall_mem_cons.mpr ⟨lw_p52, List.forall_mem_cons.mpr ⟨lw_p53, List.forall_mem_cons.mpr ⟨lw_p54, List.forall_mem_cons.mpr ⟨lw_p55, List.forall_mem_cons.mpr ⟨lw_p56, List.forall_mem_cons.mpr ⟨lw_p57, List.forall_mem_cons.mpr ⟨lw_p58, List.forall_mem_cons.mpr ⟨lw_p59, List.forall_mem_cons.mpr ⟨lw_p60, List.forall_mem_cons.mpr ⟨lw_p61, List.forall_mem_cons.mpr ⟨lw_p62, List.forall_mem_cons.mpr ⟨lw_p63, fun _ h => absurd h List.not_mem_nil⟩⟩⟩⟩⟩⟩⟩⟩⟩⟩⟩⟩⟩⟩⟩⟩
theorem lw_p64 : lw_okq (⟨"OrielChartModel", "liveOut", "(I)I"⟩, 32) := ⟨⟨by decide +kernel, by decide +kernel⟩, List.mem_of_getElem? (i := 1115) (by decide +kernel), List.mem_of_getElem? (i := 1329) (by decide +kernel), List.mem_of_getElem? (i := 1330) (by decide +kernel)⟩
theorem lw_p65 : lw_okq (⟨"OrielChartModel", "ahead", "(II)I"⟩, 32) := ⟨⟨by decide +kernel, by decide +kernel⟩, List.mem_of_getElem? (i := 1115) (by decide +kernel), List.mem_of_getElem? (i := 1333) (by decide +kernel), List.mem_of_getElem? (i := 1334) (by decide +kernel)⟩
theorem lw_p66 : lw_okq (⟨"OrielChartModel", "reduce", "()V"⟩, 32) := ⟨⟨by decide +kernel, by decide +kernel⟩, List.mem_of_getElem? (i := 1115) (by decide +kernel), List.mem_of_getElem? (i := 1337) (by decide +kernel), List.mem_of_getElem? (i := 1338) (by decide +kernel)⟩
theorem lw_p67 : lw_okq (⟨"OrielChartModel", "step", "(I)Z"⟩, 32) := ⟨⟨by decide +kernel, by decide +kernel⟩, List.mem_of_getElem? (i := 1115) (by decide +kernel), List.mem_of_getElem? (i := 1344) (by decide +kernel), List.mem_of_getElem? (i := 1345) (by decide +kernel)⟩
theorem lw_p68 : lw_okq (⟨"OrielChartModel", "tell", "(II)Z"⟩, 32) := ⟨⟨by decide +kernel, by decide +kernel⟩, List.mem_of_getElem? (i := 1115) (by decide +kernel), List.mem_of_getElem? (i := 1349) (by decide +kernel), List.mem_of_getElem? (i := 1350) (by decide +kernel)⟩
theorem lw_p69 : lw_okq (⟨"OrielChartModel", "isInner", "(I)Z"⟩, 32) := ⟨⟨by decide +kernel, by decide +kernel⟩, List.mem_of_getElem? (i := 1115) (by decide +kernel), List.mem_of_getElem? (i := 1364) (by decide +kernel), List.mem_of_getElem? (i := 1365) (by decide +kernel)⟩
theorem lw_p70 : lw_okq (⟨"OrielChartModel", "comers", "(I)I"⟩, 32) := ⟨⟨by decide +kernel, by decide +kernel⟩, List.mem_of_getElem? (i := 1115) (by decide +kernel), List.mem_of_getElem? (i := 1368) (by decide +kernel), List.mem_of_getElem? (i := 1369) (by decide +kernel)⟩
theorem lw_p71 : lw_okq (⟨"OrielChartModel", "merge", "(II)Z"⟩, 32) := ⟨⟨by decide +kernel, by decide +kernel⟩, List.mem_of_getElem? (i := 1115) (by decide +kernel), List.mem_of_getElem? (i := 1372) (by decide +kernel), List.mem_of_getElem? (i := 1373) (by decide +kernel)⟩
theorem lw_p72 : lw_okq (⟨"OrielChartModel", "isSingle", "(II)Z"⟩, 32) := ⟨⟨by decide +kernel, by decide +kernel⟩, List.mem_of_getElem? (i := 1115) (by decide +kernel), List.mem_of_getElem? (i := 1378) (by decide +kernel), List.mem_of_getElem? (i := 1379) (by decide +kernel)⟩
theorem lw_p73 : lw_okq (⟨"OrielChartModel", "single", "(III)Z"⟩, 32) := ⟨⟨by decide +kernel, by decide +kernel⟩, List.mem_of_getElem? (i := 1115) (by decide +kernel), List.mem_of_getElem? (i := 1382) (by decide +kernel), List.mem_of_getElem? (i := 1383) (by decide +kernel)⟩
theorem lw_p74 : lw_okq (⟨"OrielChartModel", "layLayers", "()V"⟩, 32) := ⟨⟨by decide +kernel, by decide +kernel⟩, List.mem_of_getElem? (i := 1115) (by decide +kernel), List.mem_of_getElem? (i := 1386) (by decide +kernel), List.mem_of_getElem? (i := 1387) (by decide +kernel)⟩
theorem lw_p75 : lw_okq (⟨"OrielChartModel", "go", "(I)V"⟩, 32) := ⟨⟨by decide +kernel, by decide +kernel⟩, List.mem_of_getElem? (i := 1115) (by decide +kernel), List.mem_of_getElem? (i := 1393) (by decide +kernel), List.mem_of_getElem? (i := 1394) (by decide +kernel)⟩
theorem lw_p76 : lw_okq (⟨"OrielChartModel", "isDrawn", "(I)Z"⟩, 32) := ⟨⟨by decide +kernel, by decide +kernel⟩, List.mem_of_getElem? (i := 1115) (by decide +kernel), List.mem_of_getElem? (i := 1397) (by decide +kernel), List.mem_of_getElem? (i := 1398) (by decide +kernel)⟩
theorem lw_p77 : lw_okq (⟨"OrielChartModel", "bottom", "(I)I"⟩, 32) := ⟨⟨by decide +kernel, by decide +kernel⟩, List.mem_of_getElem? (i := 1115) (by decide +kernel), List.mem_of_getElem? (i := 1401) (by decide +kernel), List.mem_of_getElem? (i := 1402) (by decide +kernel)⟩
theorem lw_p78 : lw_okq (⟨"OrielChartModel", "top", "(I)I"⟩, 32) := ⟨⟨by decide +kernel, by decide +kernel⟩, List.mem_of_getElem? (i := 1115) (by decide +kernel), List.mem_of_getElem? (i := 1405) (by decide +kernel), List.mem_of_getElem? (i := 1406) (by decide +kernel)⟩
theorem lw_p79 : lw_okq (⟨"OrielChartModel", "firstOrder", "(I)[I"⟩, 32) := ⟨⟨by decide +kernel, by decide +kernel⟩, List.mem_of_getElem? (i := 1115) (by decide +kernel), List.mem_of_getElem? (i := 1409) (by decide +kernel), List.mem_of_getElem? (i := 1410) (by decide +kernel)⟩
def lw_privs_5 : List (MethodName × Nat) := [(⟨"OrielChartModel", "liveOut", "(I)I"⟩, 32), (⟨"OrielChartModel", "ahead", "(II)I"⟩, 32), (⟨"OrielChartModel", "reduce", "()V"⟩, 32), (⟨"OrielChartModel", "step", "(I)Z"⟩, 32), (⟨"OrielChartModel", "tell", "(II)Z"⟩, 32), (⟨"OrielChartModel", "isInner", "(I)Z"⟩, 32), (⟨"OrielChartModel", "comers", "(I)I"⟩, 32), (⟨"OrielChartModel", "merge", "(II)Z"⟩, 32), (⟨"OrielChartModel", "isSingle", "(II)Z"⟩, 32), (⟨"OrielChartModel", "single", "(III)Z"⟩, 32), (⟨"OrielChartModel", "layLayers", "()V"⟩, 32), (⟨"OrielChartModel", "go", "(I)V"⟩, 32), (⟨"OrielChartModel", "isDrawn", "(I)Z"⟩, 32), (⟨"OrielChartModel", "bottom", "(I)I"⟩, 32), (⟨"OrielChartModel", "top", "(I)I"⟩, 32), (⟨"OrielChartModel", "firstOrder", "(I)[I"⟩, 32)]
theorem lw_r5 : ∀ q ∈ lw_privs_5, lw_okq q := List.forall_mem_cons.mpr ⟨lw_p64, List.forall_mem_cons.mpr ⟨lw_p65, List.forall_mem_cons.mpr ⟨lw_p66, List.forall_mem_cons.mpr ⟨lw_p67, List.forall_mem_cons.mpr ⟨lw_p68, List.forall_mem_cons.mpr ⟨lw_p69, List.forall_mem_cons.mpr ⟨lw_p70, List.forall_mem_cons.mpr ⟨lw_p71, List.forall_mem_cons.mpr ⟨lw_p72, List.forall_mem_cons.mpr ⟨lw_p73, List.forall_mem_cons.mpr ⟨lw_p74, List.forall_mem_cons.mpr ⟨lw_p75, List.forall_mem_cons.mpr ⟨lw_p76, List.forall_mem_cons.mpr ⟨lw_p77, List.forall_mem_cons.mpr ⟨lw_p78, List.forall_mem_cons.mpr ⟨lw_p79, fun _ h => absurd h List.not_mem_nil⟩⟩⟩⟩⟩⟩⟩⟩⟩⟩⟩⟩⟩⟩⟩⟩
theorem lw_p80 : lw_okq (⟨"OrielChartModel", "isThrough", "(II)Z"⟩, 32) := ⟨⟨by decide +kernel, by decide +kernel⟩, List.mem_of_getElem? (i := 1115) (by decide +kernel), List.mem_of_getElem? (i := 1413) (by decide +kernel), List.mem_of_getElem? (i := 1414) (by decide +kernel)⟩
theorem lw_p81 : lw_okq (⟨"OrielChartModel", "pointOf", "(II)I"⟩, 32) := ⟨⟨by decide +kernel, by decide +kernel⟩, List.mem_of_getElem? (i := 1115) (by decide +kernel), List.mem_of_getElem? (i := 1417) (by decide +kernel), List.mem_of_getElem? (i := 1418) (by decide +kernel)⟩
theorem lw_p82 : lw_okq (⟨"OrielChartModel", "isBlock", "(I)Z"⟩, 32) := ⟨⟨by decide +kernel, by decide +kernel⟩, List.mem_of_getElem? (i := 1115) (by decide +kernel), List.mem_of_getElem? (i := 1443) (by decide +kernel), List.mem_of_getElem? (i := 1444) (by decide +kernel)⟩
theorem lw_p83 : lw_okq (⟨"OrielChartModel", "isEdge", "(I)Z"⟩, 32) := ⟨⟨by decide +kernel, by decide +kernel⟩, List.mem_of_getElem? (i := 1115) (by decide +kernel), List.mem_of_getElem? (i := 1459) (by decide +kernel), List.mem_of_getElem? (i := 1460) (by decide +kernel)⟩
theorem lw_p84 : lw_okq (⟨"OrielChartModel", "parentNow", "(I)I"⟩, 32) := ⟨⟨by decide +kernel, by decide +kernel⟩, List.mem_of_getElem? (i := 1115) (by decide +kernel), List.mem_of_getElem? (i := 1475) (by decide +kernel), List.mem_of_getElem? (i := 1476) (by decide +kernel)⟩
theorem lw_p85 : lw_okq (⟨"OrielChartModel", "comesToExit", "(IJ)Z"⟩, 32) := ⟨⟨by decide +kernel, by decide +kernel⟩, List.mem_of_getElem? (i := 1115) (by decide +kernel), List.mem_of_getElem? (i := 1483) (by decide +kernel), List.mem_of_getElem? (i := 1484) (by decide +kernel)⟩
theorem lw_p86 : lw_okq (⟨"OrielChartModel", "loopsNow", "()I"⟩, 32) := ⟨⟨by decide +kernel, by decide +kernel⟩, List.mem_of_getElem? (i := 1115) (by decide +kernel), List.mem_of_getElem? (i := 1495) (by decide +kernel), List.mem_of_getElem? (i := 1496) (by decide +kernel)⟩
theorem lw_p87 : lw_okq (⟨"OrielChartModel", "depthNow", "(I)I"⟩, 32) := ⟨⟨by decide +kernel, by decide +kernel⟩, List.mem_of_getElem? (i := 1115) (by decide +kernel), List.mem_of_getElem? (i := 1507) (by decide +kernel), List.mem_of_getElem? (i := 1508) (by decide +kernel)⟩
theorem lw_p88 : lw_okq (⟨"OrielChartModel", "isTameNow", "()Z"⟩, 32) := ⟨⟨by decide +kernel, by decide +kernel⟩, List.mem_of_getElem? (i := 1115) (by decide +kernel), List.mem_of_getElem? (i := 1515) (by decide +kernel), List.mem_of_getElem? (i := 1516) (by decide +kernel)⟩
theorem lw_p89 : lw_okq (⟨"OrielChartModel", "liveNow", "(I)I"⟩, 32) := ⟨⟨by decide +kernel, by decide +kernel⟩, List.mem_of_getElem? (i := 1115) (by decide +kernel), List.mem_of_getElem? (i := 1523) (by decide +kernel), List.mem_of_getElem? (i := 1524) (by decide +kernel)⟩
theorem lw_p90 : lw_okq (⟨"OrielChartModel", "vainNow", "()I"⟩, 32) := ⟨⟨by decide +kernel, by decide +kernel⟩, List.mem_of_getElem? (i := 1115) (by decide +kernel), List.mem_of_getElem? (i := 1531) (by decide +kernel), List.mem_of_getElem? (i := 1532) (by decide +kernel)⟩
theorem lw_p91 : lw_okq (⟨"OrielChartModel", "windingsNow", "()I"⟩, 32) := ⟨⟨by decide +kernel, by decide +kernel⟩, List.mem_of_getElem? (i := 1115) (by decide +kernel), List.mem_of_getElem? (i := 1539) (by decide +kernel), List.mem_of_getElem? (i := 1540) (by decide +kernel)⟩
theorem lw_p92 : lw_okq (⟨"OrielChartModel", "layerNow", "(I)I"⟩, 32) := ⟨⟨by decide +kernel, by decide +kernel⟩, List.mem_of_getElem? (i := 1115) (by decide +kernel), List.mem_of_getElem? (i := 1575) (by decide +kernel), List.mem_of_getElem? (i := 1576) (by decide +kernel)⟩
theorem lw_p93 : lw_okq (⟨"OrielChartModel", "isLayer", "(I)Z"⟩, 32) := ⟨⟨by decide +kernel, by decide +kernel⟩, List.mem_of_getElem? (i := 1115) (by decide +kernel), List.mem_of_getElem? (i := 1587) (by decide +kernel), List.mem_of_getElem? (i := 1588) (by decide +kernel)⟩
theorem lw_p94 : lw_okq (⟨"OrielChartModel", "placeNow", "(I)I"⟩, 32) := ⟨⟨by decide +kernel, by decide +kernel⟩, List.mem_of_getElem? (i := 1115) (by decide +kernel), List.mem_of_getElem? (i := 1599) (by decide +kernel), List.mem_of_getElem? (i := 1600) (by decide +kernel)⟩
theorem lw_p95 : lw_okq (⟨"OrielChartModel", "bendsNow", "(I)I"⟩, 32) := ⟨⟨by decide +kernel, by decide +kernel⟩, List.mem_of_getElem? (i := 1115) (by decide +kernel), List.mem_of_getElem? (i := 1610) (by decide +kernel), List.mem_of_getElem? (i := 1611) (by decide +kernel)⟩
def lw_privs_6 : List (MethodName × Nat) := [(⟨"OrielChartModel", "isThrough", "(II)Z"⟩, 32), (⟨"OrielChartModel", "pointOf", "(II)I"⟩, 32), (⟨"OrielChartModel", "isBlock", "(I)Z"⟩, 32), (⟨"OrielChartModel", "isEdge", "(I)Z"⟩, 32), (⟨"OrielChartModel", "parentNow", "(I)I"⟩, 32), (⟨"OrielChartModel", "comesToExit", "(IJ)Z"⟩, 32), (⟨"OrielChartModel", "loopsNow", "()I"⟩, 32), (⟨"OrielChartModel", "depthNow", "(I)I"⟩, 32), (⟨"OrielChartModel", "isTameNow", "()Z"⟩, 32), (⟨"OrielChartModel", "liveNow", "(I)I"⟩, 32), (⟨"OrielChartModel", "vainNow", "()I"⟩, 32), (⟨"OrielChartModel", "windingsNow", "()I"⟩, 32), (⟨"OrielChartModel", "layerNow", "(I)I"⟩, 32), (⟨"OrielChartModel", "isLayer", "(I)Z"⟩, 32), (⟨"OrielChartModel", "placeNow", "(I)I"⟩, 32), (⟨"OrielChartModel", "bendsNow", "(I)I"⟩, 32)]
theorem lw_r6 : ∀ q ∈ lw_privs_6, lw_okq q := List.forall_mem_cons.mpr ⟨lw_p80, List.forall_mem_cons.mpr ⟨lw_p81, List.forall_mem_cons.mpr ⟨lw_p82, List.forall_mem_cons.mpr ⟨lw_p83, List.forall_mem_cons.mpr ⟨lw_p84, List.forall_mem_cons.mpr ⟨lw_p85, List.forall_mem_cons.mpr ⟨lw_p86, List.forall_mem_cons.mpr ⟨lw_p87, List.forall_mem_cons.mpr ⟨lw_p88, List.forall_mem_cons.mpr ⟨lw_p89, List.forall_mem_cons.mpr ⟨lw_p90, List.forall_mem_cons.mpr ⟨lw_p91, List.forall_mem_cons.mpr ⟨lw_p92, List.forall_mem_cons.mpr ⟨lw_p93, List.forall_mem_cons.mpr ⟨lw_p94, List.forall_mem_cons.mpr ⟨lw_p95, fun _ h => absurd h List.not_mem_nil⟩⟩⟩⟩⟩⟩⟩⟩⟩⟩⟩⟩⟩⟩⟩⟩
theorem lw_p96 : lw_okq (⟨"OrielChartModel", "crossingsIn", "([[I)I"⟩, 32) := ⟨⟨by decide +kernel, by decide +kernel⟩, List.mem_of_getElem? (i := 1115) (by decide +kernel), List.mem_of_getElem? (i := 1622) (by decide +kernel), List.mem_of_getElem? (i := 1623) (by decide +kernel)⟩
theorem lw_p97 : lw_okq (⟨"OrielChartModel", "swept", "([[II)I"⟩, 32) := ⟨⟨by decide +kernel, by decide +kernel⟩, List.mem_of_getElem? (i := 1115) (by decide +kernel), List.mem_of_getElem? (i := 1630) (by decide +kernel), List.mem_of_getElem? (i := 1631) (by decide +kernel)⟩
theorem lw_p98 : lw_okq (⟨"OrielChartModel", "sweepOnce", "([[IZ)V"⟩, 32) := ⟨⟨by decide +kernel, by decide +kernel⟩, List.mem_of_getElem? (i := 1115) (by decide +kernel), List.mem_of_getElem? (i := 1634) (by decide +kernel), List.mem_of_getElem? (i := 1635) (by decide +kernel)⟩
theorem lw_p99 : lw_okq (⟨"OrielChartModel", "orderBy", "([[III)V"⟩, 32) := ⟨⟨by decide +kernel, by decide +kernel⟩, List.mem_of_getElem? (i := 1115) (by decide +kernel), List.mem_of_getElem? (i := 1638) (by decide +kernel), List.mem_of_getElem? (i := 1639) (by decide +kernel)⟩
theorem lw_p100 : lw_okq (⟨"OrielChartModel", "add", "(I)V"⟩, 32) := ⟨⟨by decide +kernel, by decide +kernel⟩, List.mem_of_getElem? (i := 1115) (by decide +kernel), List.mem_of_getElem? (i := 1668) (by decide +kernel), List.mem_of_getElem? (i := 1669) (by decide +kernel)⟩
theorem lw_p101 : lw_okq (⟨"OrielChartModel", "addBlock", "(I)V"⟩, 32) := ⟨⟨by decide +kernel, by decide +kernel⟩, List.mem_of_getElem? (i := 1115) (by decide +kernel), List.mem_of_getElem? (i := 1673) (by decide +kernel), List.mem_of_getElem? (i := 1674) (by decide +kernel)⟩
theorem lw_p102 : lw_okq (⟨"OrielChartModel", "add", "(Z)V"⟩, 32) := ⟨⟨by decide +kernel, by decide +kernel⟩, List.mem_of_getElem? (i := 1115) (by decide +kernel), List.mem_of_getElem? (i := 1677) (by decide +kernel), List.mem_of_getElem? (i := 1678) (by decide +kernel)⟩
def lw_privs_7 : List (MethodName × Nat) := [(⟨"OrielChartModel", "crossingsIn", "([[I)I"⟩, 32), (⟨"OrielChartModel", "swept", "([[II)I"⟩, 32), (⟨"OrielChartModel", "sweepOnce", "([[IZ)V"⟩, 32), (⟨"OrielChartModel", "orderBy", "([[III)V"⟩, 32), (⟨"OrielChartModel", "add", "(I)V"⟩, 32), (⟨"OrielChartModel", "addBlock", "(I)V"⟩, 32), (⟨"OrielChartModel", "add", "(Z)V"⟩, 32)]
theorem lw_r7 : ∀ q ∈ lw_privs_7, lw_okq q := List.forall_mem_cons.mpr ⟨lw_p96, List.forall_mem_cons.mpr ⟨lw_p97, List.forall_mem_cons.mpr ⟨lw_p98, List.forall_mem_cons.mpr ⟨lw_p99, List.forall_mem_cons.mpr ⟨lw_p100, List.forall_mem_cons.mpr ⟨lw_p101, List.forall_mem_cons.mpr ⟨lw_p102, fun _ h => absurd h List.not_mem_nil⟩⟩⟩⟩⟩⟩⟩
def lw_privs : List (MethodName × Nat) := lw_privs_1 ++ (lw_privs_2 ++ (lw_privs_3 ++ (lw_privs_4 ++ (lw_privs_5 ++ (lw_privs_6 ++ (lw_privs_7))))))
def lw_tbl : List Cond := k2_sels lw_privs ++ tables_1
theorem lw_privs_ok : ∀ q ∈ lw_privs, lw_okq q := by
  show ∀ q ∈ lw_privs_1 ++ (lw_privs_2 ++ (lw_privs_3 ++ (lw_privs_4 ++ (lw_privs_5 ++ (lw_privs_6 ++ (lw_privs_7)))))), lw_okq q
  exact List.forall_mem_append.mpr ⟨lw_r1, List.forall_mem_append.mpr ⟨lw_r2, List.forall_mem_append.mpr ⟨lw_r3, List.forall_mem_append.mpr ⟨lw_r4, List.forall_mem_append.mpr ⟨lw_r5, List.forall_mem_append.mpr ⟨lw_r6, lw_r7⟩⟩⟩⟩⟩⟩
/-- the streams that the claim lets the run draw from -/
abbrev lw_cs : List Choice := [Jvm.Choice.named "NaN.bits"]
theorem lw_bits : nanBits ∈ lw_cs := by first | decide | exact List.mem_cons_self | simp [lw_cs, nanBits]
end
section
/-! ===== BEGIN words of one list among another's, by their places ===== -/
theorem goodIn_r {big : List Cond} (ws : List Cond) (ps : List Nat) (hp : ws = ps.filterMap (fun i => big[i]?)) (h : ws.all goodWord = true) : GoodIn big ws := by
  intro w hw
  have h1 := List.all_eq_true.mp h w hw
  rw [hp] at hw
  obtain ⟨i, -, hi⟩ := List.mem_filterMap.mp hw
  have hm : w ∈ big := by first | exact List.mem_of_getElem? hi | exact List.getElem?_mem hi
  exact ⟨hm, good_of_word h1⟩
theorem goodIn_app {big a b : List Cond} (ha : GoodIn big a) (hb : GoodIn big b) : GoodIn big (a ++ b) := fun w h => (List.mem_append.mp h).elim (ha w) (hb w)
theorem goodIn_ca {big a b : List Cond} {c : Cond} (ha : GoodIn big (c :: a)) (hb : GoodIn big b) : GoodIn big (c :: (a ++ b)) := fun w h => (List.mem_cons.mp h).elim (fun e => ha w (List.mem_cons.mpr (Or.inl e))) (fun h => (List.mem_append.mp h).elim (fun h => ha w (List.mem_cons.mpr (Or.inr h))) (hb w))
theorem goodIn_sub {big ws : List Cond} (hm : ∀ w ∈ ws, w ∈ big) (h : ws.all goodWord = true) : GoodIn big ws := fun w hw => ⟨hm w hw, good_of_word (List.all_eq_true.mp h w hw)⟩
/-! ===== END ===== -/

/-! ===== BEGIN exceptions that leave a method, and their catching by the caller (launches without stack traces) ===== -/
section VXA
/-! The laws vx_back, vx_callV, vx_callS, vx_callSW, vx_throw0, vx_throwS follow proofs of the library, with one case more: JvmDerived/Free/Laws.lean (Back.of_free), Shelf42/LK1.lean (callV, callS), Shelf/KitTraced.lean (throwNew0V, throwNewS). -/
/-- where a method has thrown q: the class by its name, the cell, what was written, the world -/
def vx_T (XC : String → State → State → Prop) (st : State) (q : Addr) (t : State) (mc ms : Nat) (free : Addr → Prop) : Prop :=
  ∃ (E : String) (ce : Cell) (L : List Loc), XC E st t ∧ t.heap[q]? = some ce ∧ ce.vm = .none ∧ st.vm.findClass E = some ce.cls ∧ st.WarmedH t.vm ∧ st.sameButNew ({ t with vm := st.vm } : State) L mc ms ∧ ∀ z ∈ L, free z.base
def vx_Q (Qc : Array Value → State → Outcome → State → Prop) (XC : String → State → State → Prop) (mc ms : Nat) (free : Addr → Prop) : Array Value → State → Outcome → State → Prop := fun a st o t =>
  (Qc a st o t ∧ ∃ L, FrameEnd st o t L mc ms ∧ ∀ q ∈ L, free q.base) ∨ ∃ q, o = .threw q ∧ vx_T XC st q t mc ms free
/-- a callee that returns or throws -/
def vx_Met (l : Launch) (y : MethodName) (ws : List Cond) (rm : Room) (Pc : Array Value → State → Prop) (Qc : Array Value → State → Outcome → State → Prop) (XC : String → State → State → Prop) (mc ms : Nat) (free : Addr → Prop) : Prop :=
  MetFree l y (headSpec ws rm) Pc (fun _ _ _ _ _ => True) (vx_Q Qc XC mc ms free)
def vx_Post (XC : String → State → State → Prop) (mc ms : Nat) (free : Addr → Prop) : Pt → Array Value → Addr → Pt → Prop := fun A a q B =>
  ∃ (g : JFrame) (mk : MethodId) (t : State) (L : List Loc) (E : String) (ce : Cell), B.U.heap = t.heap ∧ B.U.vm = t.vm ∧ XC E (A.U.calling g mk a) t ∧ t.heap[q]? = some ce ∧ ce.vm = .none ∧ A.U.vm.findClass E = some ce.cls ∧ B.locs = A.locs ++ L ∧ (∀ z ∈ L, free z.base) ∧ B.cells = A.cells + mc ∧ B.slots = A.slots + ms
def vx_Back (l : Launch) (R : Room) (p : Program) (e : Env) (below : List Frame) (s : State) (sargs : Array Value) (y : MethodName) (len W9 : Nat)
    (Pre : Pt → Array Value → Prop) (Post : Pt → Array Value → Option Value → Pt → Prop) (PostX : Pt → Array Value → Addr → Pt → Prop) : Prop :=
  ∀ (m : MethodId) (meth : Method) (c : Code) (A : Pt) (g : JFrame) (ig : Instr) (mk : MethodId) (a : Array Value),
    Stand p l e R s m sargs below meth c A.U A.locs A.cells A.slots → g.method = m → g.locals.size = c.maxLocals → decode c.code g.pc = .ok (ig, len) →
    2 * g.monitorRoom + (g.stack.map fun v => v.category).sum ≤ W9 → A.U.methodNamed? y = some mk → Pre A a →
    (∃ (v : Option Value) (B : Pt), Stand p l e R s m sargs below meth c B.U B.locs B.cells B.slots ∧ Post A a v B ∧
      Steps p.tables e below (doInvoke e (A.U.setTop g) [] mk a).1 (B.U.setTop { g with pc := g.pc + len, stack := v.toList ++ g.stack })) ∨
    (∃ (q : Addr) (B : Pt), Stand p l e R s m sargs below meth c B.U B.locs B.cells B.slots ∧ PostX A a q B ∧
      Steps p.tables e below (doInvoke e (A.U.setTop g) [] mk a).1 ((B.U.setTop g).pushFrame (.throwing q)))
section Payer
variable {l : Launch} {R : Room} {p : Program} {e : Env} {below : List Frame} {s : State} {sargs : Array Value} {y : MethodName} {len W9 : Nat}
theorem vx_back {ws : List Cond} {rm : Room} {Pc : Array Value → State → Prop} {Qc : Array Value → State → Outcome → State → Prop} {XC : String → State → State → Prop} {mc ms : Nat} {free : Addr → Prop} {bytes : ByteArray} {maxL : Nat} {ret : Option FieldType}
    (hM : vx_Met l y ws rm Pc Qc XC mc ms free) (hblind : FrameBlind Pc) (hrc : rm.cells = mc) (hrs : rm.slots = ms)
    (hframes : rm.frames + 1 ≤ R.frames) (hlocals : W9 + (maxL + 11) + rm.locals ≤ R.locals)
    (hws : ∀ w ∈ ws, ∀ a' U, s.WarmedH U.vm → w.before a' U = true) (hcode : Cond.code y bytes maxL ret ∈ ws) (hinit : ∀ a' U, s.WarmedH U.vm → (Cond.initialized y.cls).before a' U = true) :
    vx_Back l R p e below s sargs y len W9 (PreOf R mc ms Pc) (PostOf Qc mc ms free) (vx_Post XC mc ms free) := by
  intro m meth c A g ig mk a X hg hsize hdg hW hn hp
  have h1 : (headSpec ws rm).pre.before a A.U = true := atoms_intro fun w hw => hws w hw _ _ X.warmed
  have h2 : (Cond.code y bytes maxL ret).before a A.U = true := hws _ hcode _ _ X.warmed
  have h3 : (Cond.initialized y.cls).before a A.U = true := hinit _ _ X.warmed
  have h4 : A.cells + (headSpec ws rm).room.cells ≤ R.cells := by rw [show (headSpec ws rm).room.cells = mc from hrc]; exact hp.1
  have h5 : A.slots + (headSpec ws rm).room.slots ≤ R.slots := by rw [show (headSpec ws rm).room.slots = ms from hrs]; exact hp.2.1
  have hPc : Pc a (A.U.calling g mk a) := hblind _ _ _ _ hp.2.2
  obtain ⟨U, Ls, c0, s0⟩ := A
  dsimp only [Pt.U, Pt.locs, Pt.cells, Pt.slots] at h1 h2 h3 h4 h5 X hn hPc ⊢
  obtain ⟨methY, cY, hmY, hcY, -, hlY, -, -, -, -⟩ := Cond.code_spec hn h2
  obtain ⟨kY, hkY, -⟩ := className_of_methodNamed hn
  have hinitY : kY.init = .initialized := Cond.initialized_spec (findClass_of_methodNamed hn) hkY h3
  have h : At U g.method c below := by rw [hg]; exact X.here
  have hlocals9 : W9 + (maxL + 11) + (headSpec ws rm).room.locals ≤ R.locals := hlocals
  have happ : (headSpec ws rm).appliesLoose y e.platform (U.calling g mk a) = true :=
    Spec.appliesLoose_calling (g := g) h hdg hn hkY hinitY
      (X.room_calling (g := g) (R' := (headSpec ws rm).room) hsize hmY hcY hframes (by rw [hlY]; omega) h4 h5) h1
  obtain ⟨mid, hmid⟩ := h.above
  have hfr : (U.setTop g).frames = (.java g :: mid) ++ below := by rw [State.frames_setTop' g h.top, hmid]; rfl
  obtain ⟨o, s₂, hsteps, -, hend, hq⟩ := Steps.callFree hM p X.admits X.cas X.clock (acts := []) hfr happ hPc trivial
  have hq' : vx_Q Qc XC mc ms free a (U.calling g mk a) o s₂ := hq
  rw [State.frames_setTop' g h.top] at hend
  obtain ⟨g₀, hg0⟩ := Option.isSome_iff_exists.mp h.top
  obtain ⟨r, hr⟩ := State.topJava?_eq_some.mp hg0
  have hr' : (({ U with heap := s₂.heap, slotsUsed := s₂.slotsUsed } : State).setVm s₂.vm).frames = .java g₀ :: r := hr
  rcases hq' with ⟨hqc, L, hfe, hL⟩ | ⟨q, rfl, E, ce, L, hx, hce, hcv, hcl, hW₂, hsm, hL⟩
  · obtain ⟨⟨v, rfl⟩, hW₂, e2, q2, q3, q4, q5, q6⟩ := id hfe
    have e3 : s₂ = ({ (U.calling g mk a).setFrames s₂.frames with heap := s₂.heap, slotsUsed := s₂.slotsUsed } : State).setVm s₂.vm := by
      have : s₂ = ({ s₂ with vm := (U.calling g mk a).vm } : State).setVm s₂.vm := rfl
      rw [e2] at this
      exact this
    obtain ⟨c₂, i₂, len₂, hc₂, hd₂, hf₂⟩ := hend
    have hW' : U.WarmedH s₂.vm := hW₂
    have hcc : c₂ = c := by
      have h1 : s₂.code? g.method = U.code? g.method := by
        rw [State.code?_eq, State.code?_eq, hW'.alike.method?]
      exact Option.some.inj (hc₂.symm.trans (h1.trans h.code))
    subst hcc
    have hlen : len₂ = len := by rw [hdg] at hd₂; cases hd₂; rfl
    subst hlen
    have hs₂ : s₂ = (({ U with heap := s₂.heap, slotsUsed := s₂.slotsUsed } : State).setVm s₂.vm).setTop { g with pc := g.pc + len₂, stack := v.toList ++ g.stack } := by
      refine e3.trans ?_
      rw [hf₂, State.calling_eq h.top, State.setFrames_setFrames, State.setTop_of_frames _ hr', hr]
      rfl
    have hsame : U.sameButNew ({ U with heap := s₂.heap, slotsUsed := s₂.slotsUsed } : State) L mc ms := by
      refine ⟨?_, q2, q3, q4, q5, q6⟩
      obtain ⟨t, ht, -⟩ := State.frames_cons hr
      show ({ U with heap := s₂.heap, slotsUsed := s₂.slotsUsed } : State) = { U.setFrames U.frames with heap := s₂.heap, slotsUsed := s₂.slotsUsed }
      rw [State.setFrames_self ht]
    subst hg
    refine Or.inl ⟨v, ⟨(({ U with heap := s₂.heap, slotsUsed := s₂.slotsUsed } : State).setVm s₂.vm), Ls ++ L, c0 + mc, s0 + ms⟩,
      ⟨X.admits, X.cas, X.clock, X.frames, X.room, X.hears, X.method, X.code, (X.here.setHeapUsed s₂.heap s₂.slotsUsed).setVm hW'.alike, X.tail, State.WarmedH.trans X.warmed hW', X.limits, X.bytes, X.same.trans (hsame.setVm s.vm)⟩,
      ⟨g, mk, s₂, L, rfl, rfl, hqc, rfl, hL, rfl, rfl⟩, ?_⟩
    show Steps p.tables e below _ ((({ U with heap := s₂.heap, slotsUsed := s₂.slotsUsed } : State).setVm s₂.vm).setTop { g with pc := g.pc + len₂, stack := v.toList ++ g.stack })
    rw [← hs₂]
    exact hsteps
  · obtain ⟨e2, q2, q3, q4, q5, q6⟩ := id hsm
    have e3 : s₂ = ({ (U.calling g mk a).setFrames s₂.frames with heap := s₂.heap, slotsUsed := s₂.slotsUsed } : State).setVm s₂.vm := by
      have : s₂ = ({ s₂ with vm := (U.calling g mk a).vm } : State).setVm s₂.vm := rfl
      rw [e2] at this
      exact this
    have hf₂ : s₂.frames = .throwing q :: .java g :: U.frames.tail := hend
    have hW' : U.WarmedH s₂.vm := hW₂
    have hs₂ : s₂ = ((({ U with heap := s₂.heap, slotsUsed := s₂.slotsUsed } : State).setVm s₂.vm).setTop g).pushFrame (.throwing q) := by
      refine e3.trans ?_
      rw [hf₂, State.calling_eq h.top, State.setFrames_setFrames, State.pushFrame, State.frames_setTop _ hr', State.setTop_of_frames _ hr', State.setFrames_setFrames, hr]
      rfl
    have hsame : U.sameButNew ({ U with heap := s₂.heap, slotsUsed := s₂.slotsUsed } : State) L mc ms := by
      refine ⟨?_, q2, q3, q4, q5, q6⟩
      obtain ⟨t, ht, -⟩ := State.frames_cons hr
      show ({ U with heap := s₂.heap, slotsUsed := s₂.slotsUsed } : State) = { U.setFrames U.frames with heap := s₂.heap, slotsUsed := s₂.slotsUsed }
      rw [State.setFrames_self ht]
    subst hg
    refine Or.inr ⟨q, ⟨(({ U with heap := s₂.heap, slotsUsed := s₂.slotsUsed } : State).setVm s₂.vm), Ls ++ L, c0 + mc, s0 + ms⟩,
      ⟨X.admits, X.cas, X.clock, X.frames, X.room, X.hears, X.method, X.code, (X.here.setHeapUsed s₂.heap s₂.slotsUsed).setVm hW'.alike, X.tail, State.WarmedH.trans X.warmed hW', X.limits, X.bytes, X.same.trans (hsame.setVm s.vm)⟩,
      ⟨g, mk, s₂, L, E, ce, rfl, rfl, hx, hce, hcv, hcl, rfl, hL, rfl, rfl⟩, ?_⟩
    show Steps p.tables e below _ (((({ U with heap := s₂.heap, slotsUsed := s₂.slotsUsed } : State).setVm s₂.vm).setTop g).pushFrame (.throwing q))
    rw [← hs₂]
    exact hsteps
end Payer
section Calls
variable {p : Program} {l : Launch} {e : Env} {R : Room} {s : State} {m : MethodId} {args : Array Value} {below : List Frame} {meth : Method} {c : Code} {T : State} {locs : List Loc} {cells slots : Nat}
theorem vx_callV (X : Stand p l e R s m args below meth c T locs cells slots) (hexec : p.tables.exec = Jvm.exec) {own C : String} {index : Nat} {y : MethodName} {bytes : ByteArray} {maxL : Nat} {ret : Option FieldType}
    (hown : s.vm.findClass own = some m.cls) (hlink : (Cond.methodLink own index y).before args s = true) (hinst : (Cond.instanceMethod y).before args s = true) (hsel : (Cond.selects C y y).before args s = true)
    (hcode : (Cond.code y bytes maxL ret).before args s = true) (hy : y.cls ≠ "java/lang/invoke/MethodHandle" ∧ y.cls ≠ "java/lang/invoke/VarHandle")
    {W9 : Nat} {Pre : Pt → Array Value → Prop} {Post : Pt → Array Value → Option Value → Pt → Prop} {PostX : Pt → Array Value → Addr → Pt → Prop} (hK : vx_Back l R p e below s args y 3 W9 Pre Post PostX)
    {b : Addr} {cellB : Cell} (hcell : T.heap[b]? = some cellB) (hobj : cellB.vm.isStatics = false) (hcls : s.vm.findClass C = some cellB.cls)
    {g : JFrame} (hg : g.method = m) (hsize : g.locals.size = c.maxLocals) {argsL rest : List Value} (hlen : ∀ sig, parseMethodDescriptor y.desc = some sig → argsL.length = sig.parameters.length)
    (hstack : g.stack = argsL.reverse ++ .ref b :: rest) (hW : 2 * g.monitorRoom + (rest.map fun v => v.category).sum ≤ W9) (hdg : decode c.code g.pc = .ok (.invokevirtual index, 3))
    (hpre : ∀ vm₁, s.WarmedH vm₁ → Pre ⟨T.setVm vm₁, locs, cells, slots⟩ (Value.ref b :: argsL).toArray) :
    (∃ (v : Option Value) (vm₁ : Vm) (B : Pt), s.WarmedH vm₁ ∧ Stand p l e R s m args below meth c B.U B.locs B.cells B.slots ∧ Post ⟨T.setVm vm₁, locs, cells, slots⟩ (Value.ref b :: argsL).toArray v B ∧
      ∀ target, Steps p.tables e below (B.U.setTop { g with pc := g.pc + 3, stack := v.toList ++ rest }) target → Steps p.tables e below (T.setTop g) target) ∨
    (∃ (q : Addr) (vm₁ : Vm) (B : Pt), s.WarmedH vm₁ ∧ Stand p l e R s m args below meth c B.U B.locs B.cells B.slots ∧ PostX ⟨T.setVm vm₁, locs, cells, slots⟩ (Value.ref b :: argsL).toArray q B ∧
      Steps p.tables e below (T.setTop g) ((B.U.setTop { g with stack := rest }).pushFrame (.throwing q))) := by
  obtain ⟨mk, methM, hnamed, hmethM, hstM, habM⟩ := Cond.instanceMethod_spec hinst
  obtain ⟨methM', cM, hmethM', -, -, -, -, -, -, hsigM⟩ := Cond.code_spec hnamed hcode
  cases hmethM.symm.trans hmethM'
  obtain ⟨c2, r2, m2, q1, q2, q3, q4, kP, hkP, hkPi⟩ := Cond.selects_spec hsel
  cases hcls.symm.trans q1
  cases (State.methodFound?_of_named hnamed hy).symm.trans q2
  cases hnamed.symm.trans q3
  have hselP : selectMethod e.platform s.vm cellB.cls mk = .method mk := by rw [Launch.admits_selectMethod X.admits]; exact q4
  obtain ⟨vm₁, X₁, hstep₁⟩ := X.invokevirtual hexec hown hlink hnamed hmethM hstM hkP hkPi hy (a := b) (cell := cellB) hcell
    (fun z h => by rw [h] at hobj; cases hobj) hselP hmethM habM hkP hkPi (g := g) hg (argsL := argsL) (rest := rest) (hlen _ hsigM) hstack hdg
  rcases hK m meth c ⟨T.setVm vm₁, locs, cells, slots⟩ { g with stack := rest } (.invokevirtual index) mk (Value.ref b :: argsL).toArray X₁ hg hsize hdg hW (X₁.named hnamed) (hpre vm₁ X₁.warmed) with ⟨v, B, X', hpost, hsteps⟩ | ⟨q, B, X', hpost, hsteps⟩
  · exact Or.inl ⟨v, vm₁, B, X₁.warmed, X', hpost, fun target h => hstep₁ _ fun acts => by rw [doInvoke_state]; exact hsteps.trans h⟩
  · exact Or.inr ⟨q, vm₁, B, X₁.warmed, X', hpost, hstep₁ _ fun acts => by rw [doInvoke_state]; exact hsteps⟩
theorem vx_callS (X : Stand p l e R s m args below meth c T locs cells slots) (hexec : p.tables.exec = Jvm.exec) {own : String} {index : Nat} {y : MethodName} {bytes : ByteArray} {maxL : Nat} {ret : Option FieldType}
    (hown : s.vm.findClass own = some m.cls) (hlink : (Cond.methodLink own index y).before args s = true) (hstat : (Cond.static y).before args s = true) (hinit : (Cond.initialized y.cls).before args s = true)
    (hcode : (Cond.code y bytes maxL ret).before args s = true) (hy : y.cls ≠ "java/lang/invoke/MethodHandle" ∧ y.cls ≠ "java/lang/invoke/VarHandle")
    {W9 : Nat} {Pre : Pt → Array Value → Prop} {Post : Pt → Array Value → Option Value → Pt → Prop} {PostX : Pt → Array Value → Addr → Pt → Prop} (hK : vx_Back l R p e below s args y 3 W9 Pre Post PostX)
    {g : JFrame} (hg : g.method = m) (hsize : g.locals.size = c.maxLocals) {argsL rest : List Value} (hlen : ∀ sig, parseMethodDescriptor y.desc = some sig → argsL.length = sig.parameters.length)
    (hstack : g.stack = argsL.reverse ++ rest) (hW : 2 * g.monitorRoom + (rest.map fun v => v.category).sum ≤ W9) (hdg : decode c.code g.pc = .ok (.invokestatic index, 3))
    (hpre : ∀ vm₁, s.WarmedH vm₁ → Pre ⟨T.setVm vm₁, locs, cells, slots⟩ argsL.toArray) :
    (∃ (v : Option Value) (vm₁ : Vm) (B : Pt), s.WarmedH vm₁ ∧ Stand p l e R s m args below meth c B.U B.locs B.cells B.slots ∧ Post ⟨T.setVm vm₁, locs, cells, slots⟩ argsL.toArray v B ∧
      ∀ target, Steps p.tables e below (B.U.setTop { g with pc := g.pc + 3, stack := v.toList ++ rest }) target → Steps p.tables e below (T.setTop g) target) ∨
    (∃ (q : Addr) (vm₁ : Vm) (B : Pt), s.WarmedH vm₁ ∧ Stand p l e R s m args below meth c B.U B.locs B.cells B.slots ∧ PostX ⟨T.setVm vm₁, locs, cells, slots⟩ argsL.toArray q B ∧
      Steps p.tables e below (T.setTop g) ((B.U.setTop { g with stack := rest }).pushFrame (.throwing q))) := by
  obtain ⟨mk, hnamed⟩ := Cond.code_named hcode
  obtain ⟨methM, cM, hmethM, -, -, -, -, -, -, hsigM⟩ := Cond.code_spec hnamed hcode
  have hstatic : methM.isStatic = true := Cond.static_spec hnamed hmethM hstat
  obtain ⟨kP, hkP, -⟩ := className_of_methodNamed hnamed
  have hinitP : kP.init = .initialized := Cond.initialized_spec (findClass_of_methodNamed hnamed) hkP hinit
  obtain ⟨vm₁, X₁, hstep₁⟩ := X.invokestatic hexec hown hlink hnamed hmethM hstatic hkP hinitP hy (g := g) hg (argsL := argsL) (rest := rest) (hlen _ hsigM) hstack hdg
  rcases hK m meth c ⟨T.setVm vm₁, locs, cells, slots⟩ { g with stack := rest } (.invokestatic index) mk argsL.toArray X₁ hg hsize hdg hW (X₁.named hnamed) (hpre vm₁ X₁.warmed) with ⟨v, B, X', hpost, hsteps⟩ | ⟨q, B, X', hpost, hsteps⟩
  · exact Or.inl ⟨v, vm₁, B, X₁.warmed, X', hpost, fun target h => hstep₁ _ fun acts => by rw [doInvoke_state]; exact hsteps.trans h⟩
  · exact Or.inr ⟨q, vm₁, B, X₁.warmed, X', hpost, hstep₁ _ fun acts => by rw [doInvoke_state]; exact hsteps⟩
end Calls
theorem vx_cls {s : State} {T : State} {vm₁ : Vm} {E : String} {k : ClassId} (hW : s.WarmedH vm₁) (h : (T.setVm vm₁).vm.findClass E = some k) : s.vm.findClass E = some k := by
  have h1 : vm₁.findClass E = some k := h
  rw [hW.alike.findClass] at h1
  exact h1
/-- the method's frame g, with q thrown over it -/
def vx_W (p : Program) (l : Launch) (e : Env) (R : Room) (s : State) (m : MethodId) (args : Array Value) (below : List Frame) (meth : Method) (c : Code) (H : Heap) (locs : List Loc) (cells slots : Nat) (Q : State → Prop) (g : JFrame) (q : Addr) : Prop :=
  ∀ T : State, T.heap = H → Stand p l e R s m args below meth c T locs cells slots → ∃ t, Steps p.tables e below ((T.setTop g).pushFrame (.throwing q)) t ∧ Q t
def vx_Run (p : Program) (l : Launch) (e : Env) (R : Room) (s : State) (m : MethodId) (args : Array Value) (below : List Frame) (meth : Method) (c : Code) (H : Heap) (locs : List Loc) (cells slots mc ms : Nat) (g : JFrame) (rest : List Value) (Qa : State → Outcome → State → Prop) (XC : String → State → State → Prop) (free : Addr → Prop) : Prop :=
  ∀ T : State, T.heap = H → Stand p l e R s m args below meth c T locs cells slots →
    (∃ (v : Option Value) (st₀ t T' : State) (L : List Loc), st₀.heap = H ∧ Stand p l e R s m args below meth c T' (locs ++ L) (cells + mc) (slots + ms) ∧ (∀ q ∈ L, free q.base) ∧ T'.heap = t.heap ∧ T'.vm = t.vm ∧ Qa st₀ (.returned v) t ∧
      Goes p e below T g T' { g with pc := g.pc + 3, stack := v.toList ++ rest }) ∨
    (∃ (q : Addr) (st₀ t T' : State) (L : List Loc) (E : String) (ce : Cell), st₀.heap = H ∧ Stand p l e R s m args below meth c T' (locs ++ L) (cells + mc) (slots + ms) ∧ (∀ z ∈ L, free z.base) ∧ T'.heap = t.heap ∧ T'.vm = t.vm ∧ XC E st₀ t ∧ t.heap[q]? = some ce ∧ ce.vm = .none ∧ s.vm.findClass E = some ce.cls ∧
      Steps p.tables e below (T.setTop g) ((T'.setTop { g with stack := rest }).pushFrame (.throwing q)))
def vx_X {S : Type} (px : S → Prop) (B : String → S → State → Prop) (A : Nat → Prop) : String → State → State → Prop := fun E st t => ∃ u : S, px u ∧ B E u t ∧ va_F A st t
section Runs
variable {p : Program} {l : Launch} {e : Env} {R : Room} {s : State} {m : MethodId} {args : Array Value} {below : List Frame} {meth : Method} {c : Code} {H : Heap} {locs : List Loc} {cells slots : Nat}
variable {y : MethodName} {bytes cc : ByteArray} {maxL nL mc ms n index : Nat} {ret : Option FieldType} {ws : List Cond} {rm : Room} {Pc : Array Value → State → Prop} {Qc : Array Value → State → Outcome → State → Prop} {XC : String → State → State → Prop} {free : Addr → Prop} {Ts : List Cond} {own C : String} {b : Addr} {As rest : List Value} {g : JFrame}
theorem vx_callBack (cb : CallB R s args own index y bytes maxL ret ws rm mc ms n) (hM : vx_Met l y ws rm Pc Qc XC mc ms free) (hbl : FrameBlind Pc) : vx_Back l R p e below s args y 3 8 (PreOf R mc ms Pc) (PostOf Qc mc ms free) (vx_Post XC mc ms free) := by
  obtain ⟨hrc, hrs, hfr, hlo, hws, hcw, -, hini, -⟩ := cb
  exact vx_back (bytes := bytes) (maxL := maxL) (ret := ret) hM hbl hrc hrs hfr hlo hws hcw (fun a' U hW => word_at hW (Or.inl (by first | rfl | simp [Cond.onTables, Cond.keeps, Cond.steady])) hini)
theorem vx_runV (S : CallFix p m c cc nL s args Ts own) (hM : vx_Met l y ws rm Pc Qc XC mc ms free) (cw : CallW R s args own C index y bytes maxL ret ws rm mc ms n) (hp : PreV s H C b Pc As)
    (hg : g.method = m) (hn : As.length = n) (hsize : g.locals.size = nL) (hstack : g.stack = As.reverse ++ .ref b :: rest) (hW : 2 * g.monitorRoom + (rest.map fun v => v.category).sum ≤ 8) (hdg : decode cc g.pc = .ok (.invokevirtual index, 3)) (hf : cells + mc ≤ R.cells ∧ slots + ms ≤ R.slots) :
    vx_Run p l e R s m args below meth c H locs cells slots mc ms g rest (Qc (Value.ref b :: As).toArray) XC free := by
  have hK : vx_Back l R p e below s args y 3 8 (PreOf R mc ms Pc) (PostOf Qc mc ms free) (vx_Post XC mc ms free) := vx_callBack cw.1 hM hp.1
  obtain ⟨⟨-, -, -, -, -, -, hcode, -, hy, hlen, hl⟩, hin, hse⟩ := cw
  obtain ⟨hx, hb, hml, ho, -⟩ := S
  obtain ⟨-, ⟨cellB, hcB, hoB, hclB⟩, hPc⟩ := hp
  intro T hT X
  rcases vx_callV X hx (C := C) (bytes := bytes) (maxL := maxL) (ret := ret) ho hl hin hse hcode hy hK (by rw [hT]; exact hcB) hoB hclB hg (hsize.trans hml.symm) (argsL := As) (rest := rest) (fun sig h => hn.trans (hlen sig h)) hstack hW (by rw [hb]; exact hdg)
    (fun vm₁ hW₁ => ⟨hf.1, hf.2, hPc (T.setVm vm₁) hT hW₁⟩) with ⟨v, vm₁, ⟨U', l2, c2, s2⟩, hW₁, X', ⟨g', mk, t, L, e1, e2, hq, h1, hL, h2, h3⟩, st⟩ | ⟨q, vm₁, ⟨U', l2, c2, s2⟩, hW₁, X', ⟨g', mk, t, L, E, ce, e1, e2, hq, hce, hcv, hcl, h1, hL, h2, h3⟩, st⟩
  · dsimp only [Pt.U, Pt.locs, Pt.cells, Pt.slots] at X' e1 e2 h1 h2 h3 st
    subst h1; subst h2; subst h3
    exact Or.inl ⟨v, (T.setVm vm₁).calling g' mk (Value.ref b :: As).toArray, t, U', L, hT, X', hL, e1, e2, hq, st⟩
  · dsimp only [Pt.U, Pt.locs, Pt.cells, Pt.slots] at X' e1 e2 h1 h2 h3 st hcl
    subst h1; subst h2; subst h3
    exact Or.inr ⟨q, (T.setVm vm₁).calling g' mk (Value.ref b :: As).toArray, t, U', L, E, ce, hT, X', hL, e1, e2, hq, hce, hcv, vx_cls hW₁ hcl, st⟩
theorem vx_runS (S : CallFix p m c cc nL s args Ts own) (hM : vx_Met l y ws rm Pc Qc XC mc ms free) (cw : CallB R s args own index y bytes maxL ret ws rm mc ms n ∧ (Cond.static y).before args s = true) (hp : PreS s H Pc As)
    (hg : g.method = m) (hn : As.length = n) (hsize : g.locals.size = nL) (hstack : g.stack = As.reverse ++ rest) (hW : 2 * g.monitorRoom + (rest.map fun v => v.category).sum ≤ 8) (hdg : decode cc g.pc = .ok (.invokestatic index, 3)) (hf : cells + mc ≤ R.cells ∧ slots + ms ≤ R.slots) :
    vx_Run p l e R s m args below meth c H locs cells slots mc ms g rest (Qc As.toArray) XC free := by
  have hK : vx_Back l R p e below s args y 3 8 (PreOf R mc ms Pc) (PostOf Qc mc ms free) (vx_Post XC mc ms free) := vx_callBack cw.1 hM hp.1
  obtain ⟨⟨-, -, -, -, -, -, hcode, hini, hy, hlen, hl⟩, hstt⟩ := cw
  obtain ⟨hx, hb, hml, ho, -⟩ := S
  intro T hT X
  rcases vx_callS X hx (bytes := bytes) (maxL := maxL) (ret := ret) ho hl hstt hini hcode hy hK hg (hsize.trans hml.symm) (argsL := As) (rest := rest) (fun sig h => hn.trans (hlen sig h)) hstack hW (by rw [hb]; exact hdg)
    (fun vm₁ hW₁ => ⟨hf.1, hf.2, hp.2 (T.setVm vm₁) hT hW₁⟩) with ⟨v, vm₁, ⟨U', l2, c2, s2⟩, hW₁, X', ⟨g', mk, t, L, e1, e2, hq, h1, hL, h2, h3⟩, st⟩ | ⟨q, vm₁, ⟨U', l2, c2, s2⟩, hW₁, X', ⟨g', mk, t, L, E, ce, e1, e2, hq, hce, hcv, hcl, h1, hL, h2, h3⟩, st⟩
  · dsimp only [Pt.U, Pt.locs, Pt.cells, Pt.slots] at X' e1 e2 h1 h2 h3 st
    subst h1; subst h2; subst h3
    exact Or.inl ⟨v, (T.setVm vm₁).calling g' mk As.toArray, t, U', L, hT, X', hL, e1, e2, hq, st⟩
  · dsimp only [Pt.U, Pt.locs, Pt.cells, Pt.slots] at X' e1 e2 h1 h2 h3 st hcl
    subst h1; subst h2; subst h3
    exact Or.inr ⟨q, (T.setVm vm₁).calling g' mk As.toArray, t, U', L, E, ce, hT, X', hL, e1, e2, hq, hce, hcv, vx_cls hW₁ hcl, st⟩
end Runs
section Rows
variable {p : Program} {l : Launch} {e : Env} {R : Room} {s : State} {m : MethodId} {args : Array Value} {below : List Frame} {meth : Method} {c : Code} {H : Heap} {locs : List Loc} {cells slots : Nat} {Q : State → Prop}
variable {mc ms : Nat} {free : Addr → Prop} {A0 A1 : Nat → Prop} {H0 : Heap} {a : Array Value} {pc : Nat} {ls : Array Slot} {st0 rest : List Value}
theorem vx_keep {st₀ t T' : State} {L : List Loc} (h0 : st₀.heap = H) (e1 : T'.heap = t.heap) (hS : va_S A0 H0 H locs) (hA : ∀ q, q < H.size → A1 q → A0 q) (hf : ∀ q, free q → A0 q) (hL : ∀ q ∈ L, free q.base) (hF : va_F A1 st₀ t) :
    H.size ≤ T'.heap.size ∧ (∀ q : Nat, q < H.size → ¬ A1 q → T'.heap[q]? = H[q]?) ∧ va_S A0 H0 T'.heap (locs ++ L) := by
  obtain ⟨hz, hk⟩ := hF
  rw [h0] at hz hk
  exact ⟨by rw [e1]; exact hz, fun q h1 h2 => by rw [e1]; exact hk q h1 h2,
    ⟨Nat.le_trans hS.1 (by rw [e1]; exact hz), fun q h1 h2 => by rw [e1, hk q (Nat.lt_of_lt_of_le h1 hS.1) (fun z => h2 (hA q (Nat.lt_of_lt_of_le h1 hS.1) z))]; exact hS.2.1 q h1 h2, fun q hq => by
      rcases List.mem_append.mp hq with h | h
      · exact hS.2.2 q h
      · exact hf _ (hL q h)⟩⟩
theorem vx_calli {S SX : Type} {post : Int32 → S → Prop} {px : SX → Prop} {B : S → State → Prop} {BX : String → SX → State → Prop} {AX : Nat → Prop} (hr : vx_Run p l e R s m args below meth c H locs cells slots mc ms (F0 m pc ls st0) rest (va_Qi post B A1 a) (vx_X px BX AX) free) (hS : va_S A0 H0 H locs) (hA : ∀ q, q < H.size → A1 q → A0 q) (hf : ∀ q, free q → A0 q) (hAX : ∀ q, q < H.size → AX q → A0 q)
    (kx : ∀ (E : String) (ce : Cell) (q9 : Addr) (u : SX) (t : State) (H1 : Heap) (locs1 : List Loc), t.heap = H1 → s.vm.Alike t.vm → px u → BX E u t → H.size ≤ H1.size → (∀ q : Nat, q < H.size → ¬ AX q → H1[q]? = H[q]?) → va_S A0 H0 H1 locs1 → H1[q9]? = some ce → ce.vm = .none → s.vm.findClass E = some ce.cls → vx_W p l e R s m args below meth c H1 locs1 (cells + mc) (slots + ms) Q (F0 m pc ls rest) q9)
    (kk : ∀ (r : Int32) (u : S) (t : State) (H1 : Heap) (locs1 : List Loc), t.heap = H1 → s.vm.Alike t.vm → post r u → B u t → H.size ≤ H1.size → (∀ q : Nat, q < H.size → ¬ A1 q → H1[q]? = H[q]?) → va_S A0 H0 H1 locs1 → W p l e R s m args below meth c H1 locs1 (cells + mc) (slots + ms) Q (F0 m (pc + 3) ls (.int r :: rest))) : W p l e R s m args below meth c H locs cells slots Q (F0 m pc ls st0) := by
  intro T hT X
  rcases hr T hT X with ⟨v, st₀, t, T', L, h0, X', hL, e1, e2, ⟨⟨r, u, hv, hp, hb⟩, hF⟩, st⟩ | ⟨q, st₀, t, T', L, E, ce, h0, X', hL, e1, e2, ⟨u, hp, hb, hF⟩, hce, hcv, hcl, st⟩
  · cases hv
    obtain ⟨k1, k2, k3⟩ := vx_keep h0 e1 hS hA hf hL hF
    obtain ⟨t2, a1, b1⟩ := kk r u t T'.heap (locs ++ L) e1.symm (by rw [← e2]; exact X'.warmed.alike) hp hb k1 k2 k3 T' rfl X'
    exact ⟨t2, st t2 a1, b1⟩
  · obtain ⟨k1, k2, k3⟩ := vx_keep h0 e1 hS hAX hf hL hF
    obtain ⟨t2, a1, b1⟩ := kx E ce q u t T'.heap (locs ++ L) e1.symm (by rw [← e2]; exact X'.warmed.alike) hp hb k1 k2 k3 (by rw [e1]; exact hce) hcv hcl T' rfl X'
    exact ⟨t2, st.trans a1, b1⟩
theorem vx_calll {S SX : Type} {post : Int64 → S → Prop} {px : SX → Prop} {B : S → State → Prop} {BX : String → SX → State → Prop} {AX : Nat → Prop} (hr : vx_Run p l e R s m args below meth c H locs cells slots mc ms (F0 m pc ls st0) rest (va_Ql post B A1 a) (vx_X px BX AX) free) (hS : va_S A0 H0 H locs) (hA : ∀ q, q < H.size → A1 q → A0 q) (hf : ∀ q, free q → A0 q) (hAX : ∀ q, q < H.size → AX q → A0 q)
    (kx : ∀ (E : String) (ce : Cell) (q9 : Addr) (u : SX) (t : State) (H1 : Heap) (locs1 : List Loc), t.heap = H1 → s.vm.Alike t.vm → px u → BX E u t → H.size ≤ H1.size → (∀ q : Nat, q < H.size → ¬ AX q → H1[q]? = H[q]?) → va_S A0 H0 H1 locs1 → H1[q9]? = some ce → ce.vm = .none → s.vm.findClass E = some ce.cls → vx_W p l e R s m args below meth c H1 locs1 (cells + mc) (slots + ms) Q (F0 m pc ls rest) q9)
    (kk : ∀ (r : Int64) (u : S) (t : State) (H1 : Heap) (locs1 : List Loc), t.heap = H1 → s.vm.Alike t.vm → post r u → B u t → H.size ≤ H1.size → (∀ q : Nat, q < H.size → ¬ A1 q → H1[q]? = H[q]?) → va_S A0 H0 H1 locs1 → W p l e R s m args below meth c H1 locs1 (cells + mc) (slots + ms) Q (F0 m (pc + 3) ls (.long r :: rest))) : W p l e R s m args below meth c H locs cells slots Q (F0 m pc ls st0) := by
  intro T hT X
  rcases hr T hT X with ⟨v, st₀, t, T', L, h0, X', hL, e1, e2, ⟨⟨r, u, hv, hp, hb⟩, hF⟩, st⟩ | ⟨q, st₀, t, T', L, E, ce, h0, X', hL, e1, e2, ⟨u, hp, hb, hF⟩, hce, hcv, hcl, st⟩
  · cases hv
    obtain ⟨k1, k2, k3⟩ := vx_keep h0 e1 hS hA hf hL hF
    obtain ⟨t2, a1, b1⟩ := kk r u t T'.heap (locs ++ L) e1.symm (by rw [← e2]; exact X'.warmed.alike) hp hb k1 k2 k3 T' rfl X'
    exact ⟨t2, st t2 a1, b1⟩
  · obtain ⟨k1, k2, k3⟩ := vx_keep h0 e1 hS hAX hf hL hF
    obtain ⟨t2, a1, b1⟩ := kx E ce q u t T'.heap (locs ++ L) e1.symm (by rw [← e2]; exact X'.warmed.alike) hp hb k1 k2 k3 (by rw [e1]; exact hce) hcv hcl T' rfl X'
    exact ⟨t2, st.trans a1, b1⟩
theorem vx_callf {S SX : Type} {post : UInt32 → S → Prop} {px : SX → Prop} {B : S → State → Prop} {BX : String → SX → State → Prop} {AX : Nat → Prop} (hr : vx_Run p l e R s m args below meth c H locs cells slots mc ms (F0 m pc ls st0) rest (va_Qf post B A1 a) (vx_X px BX AX) free) (hS : va_S A0 H0 H locs) (hA : ∀ q, q < H.size → A1 q → A0 q) (hf : ∀ q, free q → A0 q) (hAX : ∀ q, q < H.size → AX q → A0 q)
    (kx : ∀ (E : String) (ce : Cell) (q9 : Addr) (u : SX) (t : State) (H1 : Heap) (locs1 : List Loc), t.heap = H1 → s.vm.Alike t.vm → px u → BX E u t → H.size ≤ H1.size → (∀ q : Nat, q < H.size → ¬ AX q → H1[q]? = H[q]?) → va_S A0 H0 H1 locs1 → H1[q9]? = some ce → ce.vm = .none → s.vm.findClass E = some ce.cls → vx_W p l e R s m args below meth c H1 locs1 (cells + mc) (slots + ms) Q (F0 m pc ls rest) q9)
    (kk : ∀ (r : UInt32) (u : S) (t : State) (H1 : Heap) (locs1 : List Loc), t.heap = H1 → s.vm.Alike t.vm → post r u → B u t → H.size ≤ H1.size → (∀ q : Nat, q < H.size → ¬ A1 q → H1[q]? = H[q]?) → va_S A0 H0 H1 locs1 → W p l e R s m args below meth c H1 locs1 (cells + mc) (slots + ms) Q (F0 m (pc + 3) ls (.float r :: rest))) : W p l e R s m args below meth c H locs cells slots Q (F0 m pc ls st0) := by
  intro T hT X
  rcases hr T hT X with ⟨v, st₀, t, T', L, h0, X', hL, e1, e2, ⟨⟨r, u, hv, hp, hb⟩, hF⟩, st⟩ | ⟨q, st₀, t, T', L, E, ce, h0, X', hL, e1, e2, ⟨u, hp, hb, hF⟩, hce, hcv, hcl, st⟩
  · cases hv
    obtain ⟨k1, k2, k3⟩ := vx_keep h0 e1 hS hA hf hL hF
    obtain ⟨t2, a1, b1⟩ := kk r u t T'.heap (locs ++ L) e1.symm (by rw [← e2]; exact X'.warmed.alike) hp hb k1 k2 k3 T' rfl X'
    exact ⟨t2, st t2 a1, b1⟩
  · obtain ⟨k1, k2, k3⟩ := vx_keep h0 e1 hS hAX hf hL hF
    obtain ⟨t2, a1, b1⟩ := kx E ce q u t T'.heap (locs ++ L) e1.symm (by rw [← e2]; exact X'.warmed.alike) hp hb k1 k2 k3 (by rw [e1]; exact hce) hcv hcl T' rfl X'
    exact ⟨t2, st.trans a1, b1⟩
theorem vx_calld {S SX : Type} {post : UInt64 → S → Prop} {px : SX → Prop} {B : S → State → Prop} {BX : String → SX → State → Prop} {AX : Nat → Prop} (hr : vx_Run p l e R s m args below meth c H locs cells slots mc ms (F0 m pc ls st0) rest (va_Qd post B A1 a) (vx_X px BX AX) free) (hS : va_S A0 H0 H locs) (hA : ∀ q, q < H.size → A1 q → A0 q) (hf : ∀ q, free q → A0 q) (hAX : ∀ q, q < H.size → AX q → A0 q)
    (kx : ∀ (E : String) (ce : Cell) (q9 : Addr) (u : SX) (t : State) (H1 : Heap) (locs1 : List Loc), t.heap = H1 → s.vm.Alike t.vm → px u → BX E u t → H.size ≤ H1.size → (∀ q : Nat, q < H.size → ¬ AX q → H1[q]? = H[q]?) → va_S A0 H0 H1 locs1 → H1[q9]? = some ce → ce.vm = .none → s.vm.findClass E = some ce.cls → vx_W p l e R s m args below meth c H1 locs1 (cells + mc) (slots + ms) Q (F0 m pc ls rest) q9)
    (kk : ∀ (r : UInt64) (u : S) (t : State) (H1 : Heap) (locs1 : List Loc), t.heap = H1 → s.vm.Alike t.vm → post r u → B u t → H.size ≤ H1.size → (∀ q : Nat, q < H.size → ¬ A1 q → H1[q]? = H[q]?) → va_S A0 H0 H1 locs1 → W p l e R s m args below meth c H1 locs1 (cells + mc) (slots + ms) Q (F0 m (pc + 3) ls (.double r :: rest))) : W p l e R s m args below meth c H locs cells slots Q (F0 m pc ls st0) := by
  intro T hT X
  rcases hr T hT X with ⟨v, st₀, t, T', L, h0, X', hL, e1, e2, ⟨⟨r, u, hv, hp, hb⟩, hF⟩, st⟩ | ⟨q, st₀, t, T', L, E, ce, h0, X', hL, e1, e2, ⟨u, hp, hb, hF⟩, hce, hcv, hcl, st⟩
  · cases hv
    obtain ⟨k1, k2, k3⟩ := vx_keep h0 e1 hS hA hf hL hF
    obtain ⟨t2, a1, b1⟩ := kk r u t T'.heap (locs ++ L) e1.symm (by rw [← e2]; exact X'.warmed.alike) hp hb k1 k2 k3 T' rfl X'
    exact ⟨t2, st t2 a1, b1⟩
  · obtain ⟨k1, k2, k3⟩ := vx_keep h0 e1 hS hAX hf hL hF
    obtain ⟨t2, a1, b1⟩ := kx E ce q u t T'.heap (locs ++ L) e1.symm (by rw [← e2]; exact X'.warmed.alike) hp hb k1 k2 k3 (by rw [e1]; exact hce) hcv hcl T' rfl X'
    exact ⟨t2, st.trans a1, b1⟩
theorem vx_callv {S SX : Type} {post : S → Prop} {px : SX → Prop} {B : S → State → Prop} {BX : String → SX → State → Prop} {AX : Nat → Prop} (hr : vx_Run p l e R s m args below meth c H locs cells slots mc ms (F0 m pc ls st0) rest (va_Qv post B A1 a) (vx_X px BX AX) free) (hS : va_S A0 H0 H locs) (hA : ∀ q, q < H.size → A1 q → A0 q) (hf : ∀ q, free q → A0 q) (hAX : ∀ q, q < H.size → AX q → A0 q)
    (kx : ∀ (E : String) (ce : Cell) (q9 : Addr) (u : SX) (t : State) (H1 : Heap) (locs1 : List Loc), t.heap = H1 → s.vm.Alike t.vm → px u → BX E u t → H.size ≤ H1.size → (∀ q : Nat, q < H.size → ¬ AX q → H1[q]? = H[q]?) → va_S A0 H0 H1 locs1 → H1[q9]? = some ce → ce.vm = .none → s.vm.findClass E = some ce.cls → vx_W p l e R s m args below meth c H1 locs1 (cells + mc) (slots + ms) Q (F0 m pc ls rest) q9)
    (kk : ∀ (u : S) (t : State) (H1 : Heap) (locs1 : List Loc), t.heap = H1 → s.vm.Alike t.vm → post u → B u t → H.size ≤ H1.size → (∀ q : Nat, q < H.size → ¬ A1 q → H1[q]? = H[q]?) → va_S A0 H0 H1 locs1 → W p l e R s m args below meth c H1 locs1 (cells + mc) (slots + ms) Q (F0 m (pc + 3) ls (rest))) : W p l e R s m args below meth c H locs cells slots Q (F0 m pc ls st0) := by
  intro T hT X
  rcases hr T hT X with ⟨v, st₀, t, T', L, h0, X', hL, e1, e2, ⟨⟨u, hv, hp, hb⟩, hF⟩, st⟩ | ⟨q, st₀, t, T', L, E, ce, h0, X', hL, e1, e2, ⟨u, hp, hb, hF⟩, hce, hcv, hcl, st⟩
  · cases hv
    obtain ⟨k1, k2, k3⟩ := vx_keep h0 e1 hS hA hf hL hF
    obtain ⟨t2, a1, b1⟩ := kk u t T'.heap (locs ++ L) e1.symm (by rw [← e2]; exact X'.warmed.alike) hp hb k1 k2 k3 T' rfl X'
    exact ⟨t2, st t2 a1, b1⟩
  · obtain ⟨k1, k2, k3⟩ := vx_keep h0 e1 hS hAX hf hL hF
    obtain ⟨t2, a1, b1⟩ := kx E ce q u t T'.heap (locs ++ L) e1.symm (by rw [← e2]; exact X'.warmed.alike) hp hb k1 k2 k3 (by rw [e1]; exact hce) hcv hcl T' rfl X'
    exact ⟨t2, st.trans a1, b1⟩
/-- caught by the row x of this method's table; the rows ahead don't take it -/
theorem vx_catch {own name : String} {E : String} {ce : Cell} {q : Addr} (hown : s.vm.findClass own = some m.cls) (pre : List ExceptionTableEntry) (x : ExceptionTableEntry) (suf : List ExceptionTableEntry) (hsplit : c.exceptionTable.toList = pre ++ x :: suf)
    (hpass : ∀ z ∈ pre, covers z pc = false ∨ (z.catchType ≠ 0 ∧ ∃ nm : String, (Cond.classLink own z.catchType nm).before args s = true ∧ va_Nc E nm s)) (hx : covers x pc = true) (h0 : x.catchType ≠ 0)
    (hlink : (Cond.classLink own x.catchType name).before args s = true) (hcast : (Cond.castable E name).before args s = true) (hcell : H[q]? = some ce) (hv : ce.vm = .none) (hcl : s.vm.findClass E = some ce.cls)
    (kk : W p l e R s m args below meth c H locs cells slots Q (F0 m x.handlerPc ls [.ref q])) : vx_W p l e R s m args below meth c H locs cells slots Q (F0 m pc ls rest) q := by
  intro T hT X
  have hpl : e.platform.magicAccessors = ({} : Platform).magicAccessors := by rw [X.admits.platform]
  obtain ⟨c3, c4, hc3, hc4, hasg⟩ := Cond.castable_spec hcast
  cases Option.some.inj (hc3.symm.trans hcl)
  obtain ⟨c5, hc5, hcl5⟩ := Cond.classLink_spec hown hlink e.platform hpl
  cases Option.some.inj (hc4.symm.trans hc5)
  obtain ⟨vm', X', st⟩ := X.thenCaughtThrough q (g := F0 m pc ls rest) rfl (Steps.refl _) (by rw [hT]; exact hcell) (by rw [hv]; rfl) (by obtain ⟨k9, h9, -⟩ := Vm.findClass_spec hcl; exact ⟨k9, h9⟩) pre x suf hsplit
    (fun z hz => by
      rcases hpass z hz with h | ⟨hz0, nm, hl1, hn1⟩
      · exact Or.inl h
      · obtain ⟨c6, hc6, hcl6⟩ := Cond.classLink_spec hown hl1 e.platform hpl
        obtain ⟨a8, b8, h1, h2, h3⟩ := hn1
        cases Option.some.inj (h1.symm.trans hcl)
        cases Option.some.inj (h2.symm.trans hc6)
        exact Or.inr ⟨hz0, _, hcl6, h3⟩) hx (Or.inr ⟨h0, c4, hcl5, hasg⟩)
  obtain ⟨t, a1, b1⟩ := kk (T.setVm vm') hT X'
  exact ⟨t, st.trans a1, b1⟩
end Rows
section Ends
variable {p : Program} {l : Launch} {e : Env} {R : Room} {s : State} {m : MethodId} {args : Array Value} {below : List Frame} {meth : Method} {c : Code} {H : Heap} {locs : List Loc} {cells slots : Nat} {Q : State → Prop}
variable {mc ms : Nat} {free : Addr → Prop} {A0 A1 : Nat → Prop} {H0 : Heap} {a : Array Value} {ls : Array Slot} {st0 rest : List Value}
variable {Qc : Array Value → State → Outcome → State → Prop} {XC : String → State → State → Prop}
/-- what a body that may throw owes at its end -/
def vx_MQ (below : List Frame) (Qc : Array Value → State → Outcome → State → Prop) (XC : String → State → State → Prop) (a : Array Value) (s : State) (mc ms : Nat) (free : Addr → Prop) : State → Prop := fun t =>
  ∃ o, t.status = .running ∧ Ended t below o ∧ vx_Q Qc XC mc ms free a s o t
theorem vx_ret {g : JFrame} {mc ms : Nat} (k : W p l e R s m args below meth c H locs cells slots (MQ below Qc args s mc ms free) g) : W p l e R s m args below meth c H locs cells slots (vx_MQ below Qc XC args s mc ms free) g := by
  intro T hT X
  obtain ⟨t, a1, o, b1, b2, b3, b4⟩ := k T hT X
  exact ⟨t, a1, o, b1, b2, Or.inl ⟨b3, b4⟩⟩
/-- not caught here: it goes on to the caller -/
theorem vx_widen {g : JFrame} {q : Addr} {k n : Nat} (h1 : cells ≤ k) (h2 : slots ≤ n) (kk : vx_W p l e R s m args below meth c H locs k n Q g q) : vx_W p l e R s m args below meth c H locs cells slots Q g q := fun T hT X => kk T hT (stand_widen X h1 h2)
theorem vx_out {pc : Nat} {E : String} {ce : Cell} {q : Addr} {mc ms : Nat} (hout : ∀ x ∈ c.exceptionTable.toList, covers x pc = false) (hlocks : meth.locks = false) (hcell : H[q]? = some ce) (hv : ce.vm = .none) (hcl : s.vm.findClass E = some ce.cls)
    (hx : ∀ t : State, t.heap = H → s.vm.Alike t.vm → XC E s t) (hf : ∀ z ∈ locs, free z.base) (hc : cells ≤ mc) (hs : slots ≤ ms) :
    vx_W p l e R s m args below meth c H locs cells slots (vx_MQ below Qc XC args s mc ms free) (F0 m pc ls rest) q := by
  intro T hT X
  obtain ⟨st1, hrun, hend, hW, hsm⟩ := X.leaveThrown q (g := F0 m pc ls rest) rfl rfl rfl hout hlocks
  have hcell9 : (T.setFrames (.throwing q :: below)).heap[q]? = some ce := by
    show T.heap[q]? = some ce
    rw [hT]; exact hcell
  exact ⟨_, st1, .threw q, hrun, hend, Or.inr ⟨q, rfl, E, ce, locs, hx _ hT hW.alike, hcell9, hv, hcl, hW, hsm.mono hc hs, hf⟩⟩
theorem vx_frame {U : State} {k n : Nat} (h : s.sameButNew ({ U with vm := s.vm } : State) locs k n) : s.heap.size ≤ U.heap.size ∧ ∀ q : Nat, q < s.heap.size → (∀ z ∈ locs, z.base ≠ q) → U.heap[q]? = s.heap[q]? := by
  obtain ⟨-, h2, -, -, -, h6⟩ := h
  refine ⟨h2, fun q hq hz => ?_⟩
  obtain ⟨c9, e1, e2, e3, e4⟩ := h6 q _ (Array.getElem?_eq_getElem hq)
  have hs : c9.slots = (s.heap[q]).slots := Array.ext_getElem? fun i => e4 i fun hm => hz _ hm rfl
  have h9 : c9 = s.heap[q] := by
    rw [hs] at e2
    exact e2
  have e5 : U.heap[q]? = some c9 := e1
  rw [e5, h9, Array.getElem?_eq_getElem hq]
/-- the words of a throw but the four that speak of the heap -/
def vx_no (w : Cond) : Bool := decide (w ≠ .isRef (.static Bundle.tN "UNASSIGNED_STACK" Bundle.steD)) && decide (w ≠ .isRef (.static Bundle.tN "SUPPRESSED_SENTINEL" Bundle.listD)) && decide (w ≠ .laysStatic Bundle.tN "UNASSIGNED_STACK" Bundle.steD) && decide (w ≠ .laysStatic Bundle.tN "SUPPRESSED_SENTINEL" Bundle.listD)
def vx_at0 (own : String) (ic : Nat) (X : String) (names : List String) : List Cond := (Bundle.ownAtoms0 own ic X names).filter vx_no
def vx_atS (own : String) (ic : Nat) (X : String) (names : List String) : List Cond := (Bundle.ownAtoms own ic X names).filter vx_no
/-- a word that the tables alone decide, or a good one -/
def vx_ot (w : Cond) : Bool := w.onTables || goodWord w
theorem vx_ot_at {args a' : Array Value} {s U : State} {w : Cond} (hW : s.WarmedH U.vm) (hvm : s.vm = U.vm) (hg : vx_ot w = true) (h : w.before args s = true) : w.before a' U = true := by
  simp only [vx_ot, Bool.or_eq_true] at hg
  rcases hg with hg | hg
  · exact va_tabs hg hvm h
  · exact word_at hW (good_of_word hg) h
/-- a list's words: the good ones out of the method's own list, the others by premises of their own -/
theorem vx_hat {args : Array Value} {s : State} {L B : List Cond} (h1 : ∀ w ∈ L.filter goodWord, w.before args s = true) (h2 : ∀ w ∈ L.filter (fun w => !goodWord w), w ∈ B) (h3 : ∀ w ∈ B, w.before args s = true) : ∀ w ∈ L, w.before args s = true := by
  intro w hw
  by_cases g : goodWord w = true
  · exact h1 w (List.mem_filter.mpr ⟨hw, g⟩)
  · refine h3 w (h2 w (List.mem_filter.mpr ⟨hw, ?_⟩))
    show (!goodWord w) = true
    cases hgw : goodWord w
    · rfl
    · exact absurd hgw g
theorem vx_c {args : Array Value} {s : State} {w : Cond} {B : List Cond} (h : w.before args s = true) (t : ∀ w ∈ B, w.before args s = true) : ∀ w' ∈ w :: B, w'.before args s = true := fun w' h' => (List.mem_cons.mp h').elim (fun e => by rw [e]; exact h) (t w')
theorem vx_n {args : Array Value} {s : State} : ∀ w ∈ ([] : List Cond), w.before args s = true := fun _ h => nomatch h
theorem vx_own {args : Array Value} {s : State} {L : List Cond} (h1 : ∀ w ∈ L.filter vx_no, w.before args s = true)
    (hU : (Cond.isRef (.static Bundle.tN "UNASSIGNED_STACK" Bundle.steD)).before args s = true) (hN : (Cond.isRef (.static Bundle.tN "SUPPRESSED_SENTINEL" Bundle.listD)).before args s = true)
    (lU : (Cond.laysStatic Bundle.tN "UNASSIGNED_STACK" Bundle.steD).before args s = true) (lN : (Cond.laysStatic Bundle.tN "SUPPRESSED_SENTINEL" Bundle.listD).before args s = true) : ∀ w ∈ L, w.before args s = true := by
  intro w hw
  by_cases e1 : w = .isRef (.static Bundle.tN "UNASSIGNED_STACK" Bundle.steD)
  · rw [e1]; exact hU
  · by_cases e2 : w = .isRef (.static Bundle.tN "SUPPRESSED_SENTINEL" Bundle.listD)
    · rw [e2]; exact hN
    · by_cases e3 : w = .laysStatic Bundle.tN "UNASSIGNED_STACK" Bundle.steD
      · rw [e3]; exact lU
      · by_cases e4 : w = .laysStatic Bundle.tN "SUPPRESSED_SENTINEL" Bundle.listD
        · rw [e4]; exact lN
        · exact h1 w (List.mem_filter.mpr ⟨hw, by unfold vx_no; rw [decide_eq_true e1, decide_eq_true e2, decide_eq_true e3, decide_eq_true e4]; rfl⟩)
/-- where a static field lies, its class's statics cell in H -/
def vx_L (C n d : String) (A : Nat → Prop) (U : State) (H : Heap) : Prop := ∃ (c : ClassId) (k : Class) (i : Nat) (f : Field) (a : Nat) (cell : Cell), U.vm.findClass C = some c ∧ U.fieldFound? C n d = some (c, k, i, f) ∧ f.isStatic = true ∧ k.statics = some a ∧ H[a]? = some cell ∧ cell.vm.isStatics = true ∧ cell.cls = c ∧ f.slot < cell.slots.size ∧ k.staticTypes[f.slot]? = some f.type ∧ ¬ A a
theorem vx_L.moved {C n d : String} {A : Nat → Prop} {u U : State} {H : Heap} (hvm : u.vm.Alike U.vm) (h : vx_L C n d A u H) : vx_L C n d A U H := by
  obtain ⟨c, k, i, f, a, cell, h1, h2, h3, h4, h5, h6, h7, h8, h9, h10⟩ := h
  obtain ⟨k', hi', he⟩ := State.fieldFound?_setVm hvm h2
  exact ⟨c, k', i, f, a, cell, by rw [hvm.findClass]; exact h1, hi', h3, by rw [he]; exact h4, h5, h6, h7, h8, by rw [he]; exact h9, h10⟩
theorem vx_L.kept {C n d : String} {A : Nat → Prop} {U : State} {H H1 : Heap} (h : vx_L C n d A U H) (hq : ∀ a : Nat, a < H.size → ¬ A a → H1[a]? = H[a]?) : vx_L C n d A U H1 := by
  obtain ⟨c, k, i, f, a, cell, h1, h2, h3, h4, h5, h6, h7, h8, h9, h10⟩ := h
  exact ⟨c, k, i, f, a, cell, h1, h2, h3, h4, by rw [hq a (Array.getElem?_eq_some_iff.mp h5).1 h10]; exact h5, h6, h7, h8, h9, h10⟩
theorem vx_L.narrow {C n d : String} {A B : Nat → Prop} {U : State} {H : Heap} (h : vx_L C n d A U H) (hAB : ∀ q, B q → A q) : vx_L C n d B U H := by
  obtain ⟨c, k, i, f, a, cell, h1, h2, h3, h4, h5, h6, h7, h8, h9, h10⟩ := h
  exact ⟨c, k, i, f, a, cell, h1, h2, h3, h4, h5, h6, h7, h8, h9, fun z => h10 (hAB _ z)⟩
theorem vx_L.word {C n d : String} {A : Nat → Prop} {s : State} {args : Array Value} (h : vx_L C n d A s s.heap) : (Cond.laysStatic C n d).before args s = true := by
  obtain ⟨c, k, i, f, a, cell, h1, h2, h3, h4, h5, h6, h7, h8, h9, -⟩ := h
  show (Cond.laysStatic C n d).holds args s none s [] = true
  exact Cond.laysStatic_of h1 h2 h3 h4 h5 h6 h7 h8 h9
/-- .. and what it holds: null or some reference -/
def vx_Zq (C n d : String) (A : Nat → Prop) (U : State) (H : Heap) : Prop := va_Zq C n d A U H ∧ vx_L C n d A U H
theorem vx_Zq.moved {C n d : String} {A : Nat → Prop} {u U : State} {H : Heap} (hvm : u.vm.Alike U.vm) (h : vx_Zq C n d A u H) : vx_Zq C n d A U H := ⟨va_Zq.moved hvm h.1, vx_L.moved hvm h.2⟩
theorem vx_Zq.kept {C n d : String} {A : Nat → Prop} {U : State} {H H1 : Heap} (h : vx_Zq C n d A U H) (hq : ∀ a : Nat, a < H.size → ¬ A a → H1[a]? = H[a]?) : vx_Zq C n d A U H1 := ⟨va_Zq.kept h.1 hq, vx_L.kept h.2 hq⟩
theorem vx_Zq.narrow {C n d : String} {A B : Nat → Prop} {U : State} {H : Heap} (h : vx_Zq C n d A U H) (hAB : ∀ q, B q → A q) : vx_Zq C n d B U H := ⟨va_Zq.narrow h.1 hAB, vx_L.narrow h.2 hAB⟩
theorem vx_Zqof {args : Array Value} {s : State} {C n d : String} {A : Nat → Prop} (hl : (Cond.laysStatic C n d).before args s = true) (hini : (Cond.initialized C).before args s = true) (h : (Cond.isRef (.static C n d)).before args s = true) (hA : ∀ a : Nat, a < s.heap.size → ¬ A a) : vx_Zq C n d A s s.heap := by
  refine ⟨va_Zqof hl hini h hA, ?_⟩
  obtain ⟨c, k, i, f, a, cell, h1, h2, h3, h4, h5, h6, h7, h8, h9⟩ := Cond.laysStatic_spec hl
  exact ⟨c, k, i, f, a, cell, h1, h2, h3, h4, h5, h6, h7, h8, h9, hA a (Array.getElem?_eq_some_iff.mp h5).1⟩
theorem vx_isRef {C n d : String} {v : Value} {A : Nat → Prop} {s : State} {args : Array Value} (h : va_Z C n d v A s s.heap) (hv : v.isRef = true) : (Cond.isRef (.static C n d)).before args s = true := by
  obtain ⟨cf, kf, fi, f, a, cell, h1, h2, h3, h4, h5, h6, h7, -⟩ := h
  have he : (Term.static C n d).eval args s none [] s = some v := by
    simp [Term.eval, State.fieldNamed?, h1, h2, h4, h5, h6, h7]
  simp only [Cond.before, Cond.holds, Cond.value, he]
  cases v <;> simp_all [Value.isRef]
theorem vx_isRefq {C n d : String} {A : Nat → Prop} {s : State} {args : Array Value} (h : va_Zq C n d A s s.heap) : (Cond.isRef (.static C n d)).before args s = true := by
  rcases h with h | ⟨t, h⟩
  · exact vx_isRef h rfl
  · exact vx_isRef h rfl
/-- the same frame, seen from here: as if the method were called anew in this heap -/
theorem vx_rebase {T : State} (X : Stand p l e R s m args below meth c T locs cells slots) {R' : Room} (hf : R'.frames ≤ R.frames) (hl : R'.locals ≤ R.locals) (hc : cells + R'.cells ≤ R.cells) (hs : slots + R'.slots ≤ R.slots) :
    Stand p l e R' ((T.setVm s.vm).setFrames (.invoking m args :: below)) m args below meth c T [] 0 0 := by
  have htop : (T.setVm s.vm).topJava?.isSome := X.here.top
  have hF : ((T.setVm s.vm).setFrames (.invoking m args :: below)).frames = .invoking m args :: below := State.frames_setFrames _ (State.cur_lt_of_top htop)
  obtain ⟨g₀, hg0⟩ := Option.isSome_iff_exists.mp htop
  obtain ⟨r, hr⟩ := State.topJava?_eq_some.mp hg0
  have hl9 : e.platform.stackLimits (T.setVm s.vm).me = e.platform.stackLimits s.me := X.limits
  have hb9 : (T.setVm s.vm).me.stackBytes = s.me.stackBytes := X.bytes
  refine ⟨X.admits, X.cas, X.clock, hF, ?_, X.hears, X.method, X.code, X.here, X.tail, X.warmed, ?_, ?_, ?_⟩
  · have h := X.room
    have hU : ((T.setVm s.vm).setFrames (.invoking m args :: below)).localsInUse = s.localsInUse := by
      rw [State.localsInUse_invoking hF (meth := meth) (c := c) X.method X.code, State.localsInUse_invoking X.frames X.method X.code]
    simp only [State.hasRoom, Bool.and_eq_true, decide_eq_true_eq] at h ⊢
    obtain ⟨⟨⟨⟨h1, h2, h3, h4, h5, h6⟩, h7⟩, h8⟩, h9⟩ := h
    rw [X.frames, List.length_cons] at h2 h3
    have q1 := X.heapSize
    have q2 := X.used
    simp only [hF, hU, List.length_cons, State.stackLimits_setFrames, State.stackBytes_setFrames, hl9, hb9]
    refine ⟨⟨⟨⟨by omega, by omega, by omega, by omega, by omega, h6⟩, ?_⟩, ?_⟩, X.book⟩
    · show T.heap.size + R'.cells ≤ e.platform.maxCells
      omega
    · show T.slotsUsed + R'.slots ≤ e.platform.maxSlots
      omega
  · rw [State.stackLimits_setFrames]; rfl
  · rw [State.stackBytes_setFrames]; rfl
  · refine ⟨?_, Nat.le_refl _, Nat.le_refl _, ?_, ?_, fun a c9 h9 => ⟨c9, h9, rfl, rfl, fun _ _ => rfl⟩⟩
    · obtain ⟨t, ht, -⟩ := State.frames_cons hr
      show T.setVm s.vm = { ((T.setVm s.vm).setFrames (.invoking m args :: below)).setFrames (T.setVm s.vm).frames with heap := T.heap, slotsUsed := T.slotsUsed }
      rw [State.setFrames_setFrames, State.setFrames_self ht]
      rfl
    · show T.slotsUsed = T.slotsUsed + ((T.heap.toList.drop T.heap.size).map (·.slots.size)).sum
      rw [List.drop_eq_nil_of_le (Nat.le_of_eq Array.length_toList)]
      rfl
    · show ((T.heap.toList.drop T.heap.size).map (·.slots.size)).sum ≤ 0
      rw [List.drop_eq_nil_of_le (Nat.le_of_eq Array.length_toList)]
      exact Nat.le_refl _
/-- 'throw new E()': new; dup; invokespecial; athrow -/
theorem vx_throw0 {cc : ByteArray} {pc : Nat} (hexec : p.tables.exec = Jvm.exec) (hb : c.code = cc) (hl : l.stackTraces = false) {own cls : String} {names : List String} {ik ic mc ms : Nat} {A : Nat → Prop}
    (hown : s.vm.findClass own = some m.cls) (hcls : Bundle.fit cls = true) (hnames : ∀ n ∈ names, Bundle.fit n = true)
    (hk : (Cond.classLink own ik cls).before args s = true) (hini : (Cond.initialized cls).before args s = true) (hat : ∀ w ∈ vx_at0 own ic cls names, w.before args s = true)
    (hgood : ∀ w ∈ Cond.classLink own ik cls :: Cond.initialized cls :: vx_at0 own ic cls names, vx_ot w = true)
    (hU : vx_Zq Bundle.tN "UNASSIGNED_STACK" Bundle.steD A s s.heap) (hN : vx_Zq Bundle.tN "SUPPRESSED_SENTINEL" Bundle.listD A s s.heap) (hS : va_S A s.heap H locs) (hsize : ls.size = c.maxLocals)
    (d0 : decode cc pc = .ok (.new ik, 3)) (d3 : decode cc (pc + 3) = .ok (.dup, 1)) (d4 : decode cc (pc + 4) = .ok (.invokespecial ic, 3)) (d7 : decode cc (pc + 7) = .ok (.athrow, 1))
    (hout : ∀ x ∈ c.exceptionTable.toList, covers x (pc + 7) = false)
    (hRframes : names.length + 3 < R.frames) (hRlocals : (rest.map fun v => v.category).sum + (13 * (names.length + 1) + 42) ≤ R.locals) (hRcells : cells + 1 ≤ R.cells) (hRslots : slots + 6 ≤ R.slots) (hlocks : meth.locks = false)
    (hx : ∀ t : State, s.vm.Alike t.vm → H.size ≤ t.heap.size → (∀ q : Nat, q < H.size → t.heap[q]? = H[q]?) → XC cls s t)
    (hf : ∀ z ∈ locs, free z.base) (hc : cells + 1 ≤ mc) (hs : slots + 6 ≤ ms) :
    W p l e R s m args below meth c H locs cells slots (vx_MQ below Qc XC args s mc ms free) (F0 m pc ls rest) := by
  intro T hT X
  have htr : e.platform.stackTraces = false := (show e.platform.stackTraces = l.stackTraces by rw [X.admits.platform]).trans hl
  have Y := vx_rebase X (R' := { frames := R.frames, locals := R.locals, cells := 1, slots := 6 }) (Nat.le_refl _) (Nat.le_refl _) hRcells hRslots
  obtain ⟨s', hA⟩ : ∃ z, z = (T.setVm s.vm).setFrames (.invoking m args :: below) := ⟨_, rfl⟩
  rw [← hA] at Y
  have hvm : s'.vm = s.vm := by rw [hA]; rfl
  have hhp : s'.heap = H := by rw [hA]; exact hT
  have hW0 : s.WarmedH s'.vm := by rw [hvm]; exact State.WarmedH.refl s
  have hat' : ∀ w ∈ vx_at0 own ic cls names, w.before args s' = true := fun w hw => vx_ot_at hW0 hvm.symm (hgood w (List.mem_cons_of_mem _ (List.mem_cons_of_mem _ hw))) (hat w hw)
  have hk' : (Cond.classLink own ik cls).before args s' = true := vx_ot_at hW0 hvm.symm (hgood _ List.mem_cons_self) hk
  have hini' : (Cond.initialized cls).before args s' = true := vx_ot_at hW0 hvm.symm (hgood _ (List.mem_cons_of_mem _ List.mem_cons_self)) hini
  have hU' : vx_Zq Bundle.tN "UNASSIGNED_STACK" Bundle.steD A s' s'.heap := by rw [hhp]; exact vx_Zq.moved hW0.alike (hU.kept hS.2.1)
  have hN' : vx_Zq Bundle.tN "SUPPRESSED_SENTINEL" Bundle.listD A s' s'.heap := by rw [hhp]; exact vx_Zq.moved hW0.alike (hN.kept hS.2.1)
  have h : ∀ w ∈ Bundle.ownAtoms0 own ic cls names, w.before args s' = true := vx_own hat' (vx_isRefq hU'.1) (vx_isRefq hN'.1) hU'.2.word hN'.2.word
  have hown' : s'.vm.findClass own = some m.cls := by rw [hvm]; exact hown
  have hins : (Cond.instantiable cls 6).before args s' = true := h _ (by simp [Bundle.ownAtoms0])
  obtain ⟨vm₁, cX, kX, hfX, hkX, -, -, X₁, st1⟩ := Y.newCold hexec (own := own) (C := cls) (index := ik) (n := 6) hown' hk' hins hini'
    (g := F0 m pc ls rest) rfl (by rw [hb]; exact d0) (Nat.le_refl _) (Nat.le_refl _)
  generalize hT1 : (T.setVm vm₁).pushCell { cls := cX, slots := kX.instanceTypes.map defaultValue, vm := .none } = T1 at X₁ st1
  have hcat : (Value.ref T.heap.size).category = 1 := rfl
  have hcellA : T1.heap[T.heap.size]? = some (freshCell cX kX) := by rw [← hT1]; exact State.heap_pushCell_size _ _
  have d3' : decode c.code (pc + 3) = .ok (.dup, 1) := by rw [hb]; exact d3
  obtain ⟨U, hsteps, hrun, hend, hW, hsame, ce, hce, hO⟩ := X₁.ctorThrow0 hexec htr (own := own) (cls := cls) (names := names) (ic := ic) hown' hcls hnames h (fun x hx => nomatch hx) hfX hkX hcellA (by rw [hhp, hT]; exact Nat.le_refl _)
    (g := { method := m, pc := pc + 4, locals := ls, stack := .ref T.heap.size :: .ref T.heap.size :: rest, locked := none }) rfl hsize rfl rfl (rest := rest) rfl
    (by rw [hb]; exact d4) (by rw [hb]; exact d7) hout hRframes (by simp only [List.map_cons, List.sum_cons, hcat]; omega) hlocks
  obtain ⟨f1, f2⟩ := vx_frame hsame
  rw [hhp] at f1 f2
  have hWs : s.WarmedH U.vm := State.WarmedH.trans hW0 hW
  have hcl : s.vm.findClass cls = some ce.cls := by
    have h9 := hO.cls
    rw [hvm] at h9
    exact h9
  have hall : s.sameButNew ({ U with vm := s.vm } : State) locs mc ms := by
    subst hA
    obtain ⟨e1, e2⟩ := hsame
    rw [State.setFrames_setFrames] at e1
    have h2 : (T.setVm s.vm).sameButNew ({ U with vm := s.vm } : State) [] (0 + 1) (0 + 6) := ⟨e1, e2⟩
    have h3 := X.same.trans h2
    rw [List.append_nil] at h3
    exact h3.mono hc hs
  refine ⟨U, ?_, .threw T.heap.size, hrun, hend, Or.inr ⟨T.heap.size, rfl, cls, ce, locs, hx U hWs.alike f1 (fun q hq => f2 q hq (fun z hz => nomatch hz)), hce, hO.vm, hcl, hWs, hall, hf⟩⟩
  refine st1 _ ?_
  show Steps p.tables e below (T1.setTop { method := m, pc := pc + 3, locals := ls, stack := .ref T.heap.size :: rest, locked := none }) _
  jvm_step X₁.here [X₁.here.top, hexec, d3', Value.category]
  exact hsteps
/-- 'throw new E("text")': new; dup; ldc; invokespecial; athrow -/
theorem vx_throwS {cc : ByteArray} {pc : Nat} (hexec : p.tables.exec = Jvm.exec) (hb : c.code = cc) (hl : l.stackTraces = false) {own cls text : String} {names : List String} {ik is ic mc ms sa : Nat} {A : Nat → Prop}
    (hown : s.vm.findClass own = some m.cls) (hcls : Bundle.fit cls = true) (hnames : ∀ n ∈ names, Bundle.fit n = true)
    (hk : (Cond.classLink own ik cls).before args s = true) (hini : (Cond.initialized cls).before args s = true) (hstr : vk_R own is text sa s) (hat : ∀ w ∈ vx_atS own ic cls names, w.before args s = true)
    (hgood : ∀ w ∈ Cond.classLink own ik cls :: Cond.initialized cls :: vx_atS own ic cls names, vx_ot w = true)
    (hU : vx_Zq Bundle.tN "UNASSIGNED_STACK" Bundle.steD A s s.heap) (hN : vx_Zq Bundle.tN "SUPPRESSED_SENTINEL" Bundle.listD A s s.heap) (hS : va_S A s.heap H locs) (hsize : ls.size = c.maxLocals)
    (d0 : decode cc pc = .ok (.new ik, 3)) (d3 : decode cc (pc + 3) = .ok (.dup, 1)) (d4 : decode cc (pc + 4) = .ok (.ldc is, 2)) (d6 : decode cc (pc + 6) = .ok (.invokespecial ic, 3)) (d9 : decode cc (pc + 9) = .ok (.athrow, 1))
    (hout : ∀ x ∈ c.exceptionTable.toList, covers x (pc + 9) = false)
    (hRframes : names.length + 3 < R.frames) (hRlocals : (rest.map fun v => v.category).sum + (13 * (names.length + 1) + 43) ≤ R.locals) (hRcells : cells + 1 ≤ R.cells) (hRslots : slots + 6 ≤ R.slots) (hlocks : meth.locks = false)
    (hx : ∀ t : State, s.vm.Alike t.vm → H.size ≤ t.heap.size → (∀ q : Nat, q < H.size → t.heap[q]? = H[q]?) → XC cls s t)
    (hf : ∀ z ∈ locs, free z.base) (hc : cells + 1 ≤ mc) (hs : slots + 6 ≤ ms) :
    W p l e R s m args below meth c H locs cells slots (vx_MQ below Qc XC args s mc ms free) (F0 m pc ls rest) := by
  intro T hT X
  have htr : e.platform.stackTraces = false := (show e.platform.stackTraces = l.stackTraces by rw [X.admits.platform]).trans hl
  have Y := vx_rebase X (R' := { frames := R.frames, locals := R.locals, cells := 1, slots := 6 }) (Nat.le_refl _) (Nat.le_refl _) hRcells hRslots
  obtain ⟨s', hA⟩ : ∃ z, z = (T.setVm s.vm).setFrames (.invoking m args :: below) := ⟨_, rfl⟩
  rw [← hA] at Y
  have hvm : s'.vm = s.vm := by rw [hA]; rfl
  have hhp : s'.heap = H := by rw [hA]; exact hT
  have hW0 : s.WarmedH s'.vm := by rw [hvm]; exact State.WarmedH.refl s
  have hat' : ∀ w ∈ vx_atS own ic cls names, w.before args s' = true := fun w hw => vx_ot_at hW0 hvm.symm (hgood w (List.mem_cons_of_mem _ (List.mem_cons_of_mem _ hw))) (hat w hw)
  have hk' : (Cond.classLink own ik cls).before args s' = true := vx_ot_at hW0 hvm.symm (hgood _ List.mem_cons_self) hk
  have hini' : (Cond.initialized cls).before args s' = true := vx_ot_at hW0 hvm.symm (hgood _ (List.mem_cons_of_mem _ List.mem_cons_self)) hini
  have hU' : vx_Zq Bundle.tN "UNASSIGNED_STACK" Bundle.steD A s' s'.heap := by rw [hhp]; exact vx_Zq.moved hW0.alike (hU.kept hS.2.1)
  have hN' : vx_Zq Bundle.tN "SUPPRESSED_SENTINEL" Bundle.listD A s' s'.heap := by rw [hhp]; exact vx_Zq.moved hW0.alike (hN.kept hS.2.1)
  have h : ∀ w ∈ Bundle.ownAtoms own ic cls names, w.before args s' = true := vx_own hat' (vx_isRefq hU'.1) (vx_isRefq hN'.1) hU'.2.word hN'.2.word
  have hown' : s'.vm.findClass own = some m.cls := by rw [hvm]; exact hown
  have hins : (Cond.instantiable cls 6).before args s' = true := h _ (by simp [Bundle.ownAtoms])
  obtain ⟨vm₁, cX, kX, hfX, hkX, -, -, X₁, st1⟩ := Y.newCold hexec (own := own) (C := cls) (index := ik) (n := 6) hown' hk' hins hini'
    (g := F0 m pc ls rest) rfl (by rw [hb]; exact d0) (Nat.le_refl _) (Nat.le_refl _)
  generalize hT1 : (T.setVm vm₁).pushCell { cls := cX, slots := kX.instanceTypes.map defaultValue, vm := .none } = T1 at X₁ st1
  have hcat : (Value.ref T.heap.size).category = 1 := rfl
  have hcellA : T1.heap[T.heap.size]? = some (freshCell cX kX) := by rw [← hT1]; exact State.heap_pushCell_size _ _
  have d3' : decode c.code (pc + 3) = .ok (.dup, 1) := by rw [hb]; exact d3
  have d4' : decode c.code (pc + 4) = .ok (.ldc is, 2) := by rw [hb]; exact d4
  have hstr' : vk_R own is text sa s' := vk_R.warm hW0 hstr
  obtain ⟨U, hsteps, hrun, hend, hW, hsame, ce, hce, hO⟩ := X₁.ctorThrowS hexec htr (own := own) (cls := cls) (names := names) (ic := ic) hown' hcls hnames h (fun x hx => nomatch hx) hfX hkX hcellA (by rw [hhp, hT]; exact Nat.le_refl _) (msg := .ref sa) rfl
    (g := { method := m, pc := pc + 6, locals := ls, stack := .ref sa :: .ref T.heap.size :: .ref T.heap.size :: rest, locked := none }) rfl hsize rfl rfl (rest := rest) rfl
    (by rw [hb]; exact d6) (by rw [hb]; exact d9) hout hRframes (by simp only [List.map_cons, List.sum_cons, hcat]; omega) hlocks
  obtain ⟨f1, f2⟩ := vx_frame hsame
  rw [hhp] at f1 f2
  have hWs : s.WarmedH U.vm := State.WarmedH.trans hW0 hW
  have hcl : s.vm.findClass cls = some ce.cls := by
    have h9 := hO.cls
    rw [hvm] at h9
    exact h9
  have hall : s.sameButNew ({ U with vm := s.vm } : State) locs mc ms := by
    subst hA
    obtain ⟨e1, e2⟩ := hsame
    rw [State.setFrames_setFrames] at e1
    have h2 : (T.setVm s.vm).sameButNew ({ U with vm := s.vm } : State) [] (0 + 1) (0 + 6) := ⟨e1, e2⟩
    have h3 := X.same.trans h2
    rw [List.append_nil] at h3
    exact h3.mono hc hs
  refine ⟨U, ?_, .threw T.heap.size, hrun, hend, Or.inr ⟨T.heap.size, rfl, cls, ce, locs, hx U hWs.alike f1 (fun q hq => f2 q hq (fun z hz => nomatch hz)), hce, hO.vm, hcl, hWs, hall, hf⟩⟩
  refine st1 _ ?_
  show Steps p.tables e below (T1.setTop { method := m, pc := pc + 3, locals := ls, stack := .ref T.heap.size :: rest, locked := none }) _
  jvm_step X₁.here [X₁.here.top, hexec, d3', Value.category]
  exact X₁.ldcString hexec (own := own) (text := text) (index := is) (a := sa) hown' hstr'.1 hstr'.2
    (g := { method := m, pc := pc + 4, locals := ls, stack := .ref T.heap.size :: .ref T.heap.size :: rest, locked := none }) rfl d4' _ hsteps
/-- 'throw new E("text")', the text by a wide index -/
theorem vx_throwSW {cc : ByteArray} {pc : Nat} (hexec : p.tables.exec = Jvm.exec) (hb : c.code = cc) (hl : l.stackTraces = false) {own cls text : String} {names : List String} {ik is ic mc ms sa : Nat} {A : Nat → Prop}
    (hown : s.vm.findClass own = some m.cls) (hcls : Bundle.fit cls = true) (hnames : ∀ n ∈ names, Bundle.fit n = true)
    (hk : (Cond.classLink own ik cls).before args s = true) (hini : (Cond.initialized cls).before args s = true) (hstr : vk_R own is text sa s) (hat : ∀ w ∈ vx_atS own ic cls names, w.before args s = true)
    (hgood : ∀ w ∈ Cond.classLink own ik cls :: Cond.initialized cls :: vx_atS own ic cls names, vx_ot w = true)
    (hU : vx_Zq Bundle.tN "UNASSIGNED_STACK" Bundle.steD A s s.heap) (hN : vx_Zq Bundle.tN "SUPPRESSED_SENTINEL" Bundle.listD A s s.heap) (hS : va_S A s.heap H locs) (hsize : ls.size = c.maxLocals)
    (d0 : decode cc pc = .ok (.new ik, 3)) (d3 : decode cc (pc + 3) = .ok (.dup, 1)) (d4 : decode cc (pc + 4) = .ok (.ldc_w is, 3)) (d7 : decode cc (pc + 7) = .ok (.invokespecial ic, 3)) (d10 : decode cc (pc + 10) = .ok (.athrow, 1))
    (hout : ∀ x ∈ c.exceptionTable.toList, covers x (pc + 10) = false)
    (hRframes : names.length + 3 < R.frames) (hRlocals : (rest.map fun v => v.category).sum + (13 * (names.length + 1) + 43) ≤ R.locals) (hRcells : cells + 1 ≤ R.cells) (hRslots : slots + 6 ≤ R.slots) (hlocks : meth.locks = false)
    (hx : ∀ t : State, s.vm.Alike t.vm → H.size ≤ t.heap.size → (∀ q : Nat, q < H.size → t.heap[q]? = H[q]?) → XC cls s t)
    (hf : ∀ z ∈ locs, free z.base) (hc : cells + 1 ≤ mc) (hs : slots + 6 ≤ ms) :
    W p l e R s m args below meth c H locs cells slots (vx_MQ below Qc XC args s mc ms free) (F0 m pc ls rest) := by
  intro T hT X
  have htr : e.platform.stackTraces = false := (show e.platform.stackTraces = l.stackTraces by rw [X.admits.platform]).trans hl
  have Y := vx_rebase X (R' := { frames := R.frames, locals := R.locals, cells := 1, slots := 6 }) (Nat.le_refl _) (Nat.le_refl _) hRcells hRslots
  obtain ⟨s', hA⟩ : ∃ z, z = (T.setVm s.vm).setFrames (.invoking m args :: below) := ⟨_, rfl⟩
  rw [← hA] at Y
  have hvm : s'.vm = s.vm := by rw [hA]; rfl
  have hhp : s'.heap = H := by rw [hA]; exact hT
  have hW0 : s.WarmedH s'.vm := by rw [hvm]; exact State.WarmedH.refl s
  have hat' : ∀ w ∈ vx_atS own ic cls names, w.before args s' = true := fun w hw => vx_ot_at hW0 hvm.symm (hgood w (List.mem_cons_of_mem _ (List.mem_cons_of_mem _ hw))) (hat w hw)
  have hk' : (Cond.classLink own ik cls).before args s' = true := vx_ot_at hW0 hvm.symm (hgood _ List.mem_cons_self) hk
  have hini' : (Cond.initialized cls).before args s' = true := vx_ot_at hW0 hvm.symm (hgood _ (List.mem_cons_of_mem _ List.mem_cons_self)) hini
  have hU' : vx_Zq Bundle.tN "UNASSIGNED_STACK" Bundle.steD A s' s'.heap := by rw [hhp]; exact vx_Zq.moved hW0.alike (hU.kept hS.2.1)
  have hN' : vx_Zq Bundle.tN "SUPPRESSED_SENTINEL" Bundle.listD A s' s'.heap := by rw [hhp]; exact vx_Zq.moved hW0.alike (hN.kept hS.2.1)
  have h : ∀ w ∈ Bundle.ownAtoms own ic cls names, w.before args s' = true := vx_own hat' (vx_isRefq hU'.1) (vx_isRefq hN'.1) hU'.2.word hN'.2.word
  have hown' : s'.vm.findClass own = some m.cls := by rw [hvm]; exact hown
  have hins : (Cond.instantiable cls 6).before args s' = true := h _ (by simp [Bundle.ownAtoms])
  obtain ⟨vm₁, cX, kX, hfX, hkX, -, -, X₁, st1⟩ := Y.newCold hexec (own := own) (C := cls) (index := ik) (n := 6) hown' hk' hins hini'
    (g := F0 m pc ls rest) rfl (by rw [hb]; exact d0) (Nat.le_refl _) (Nat.le_refl _)
  generalize hT1 : (T.setVm vm₁).pushCell { cls := cX, slots := kX.instanceTypes.map defaultValue, vm := .none } = T1 at X₁ st1
  have hcat : (Value.ref T.heap.size).category = 1 := rfl
  have hcellA : T1.heap[T.heap.size]? = some (freshCell cX kX) := by rw [← hT1]; exact State.heap_pushCell_size _ _
  have d3' : decode c.code (pc + 3) = .ok (.dup, 1) := by rw [hb]; exact d3
  have d4' : decode c.code (pc + 4) = .ok (.ldc_w is, 3) := by rw [hb]; exact d4
  have hstr' : vk_R own is text sa s' := vk_R.warm hW0 hstr
  obtain ⟨U, hsteps, hrun, hend, hW, hsame, ce, hce, hO⟩ := X₁.ctorThrowS hexec htr (own := own) (cls := cls) (names := names) (ic := ic) hown' hcls hnames h (fun x hx => nomatch hx) hfX hkX hcellA (by rw [hhp, hT]; exact Nat.le_refl _) (msg := .ref sa) rfl
    (g := { method := m, pc := pc + 7, locals := ls, stack := .ref sa :: .ref T.heap.size :: .ref T.heap.size :: rest, locked := none }) rfl hsize rfl rfl (rest := rest) rfl
    (by rw [hb]; exact d7) (by rw [hb]; exact d10) hout hRframes (by simp only [List.map_cons, List.sum_cons, hcat]; omega) hlocks
  obtain ⟨f1, f2⟩ := vx_frame hsame
  rw [hhp] at f1 f2
  have hWs : s.WarmedH U.vm := State.WarmedH.trans hW0 hW
  have hcl : s.vm.findClass cls = some ce.cls := by
    have h9 := hO.cls
    rw [hvm] at h9
    exact h9
  have hall : s.sameButNew ({ U with vm := s.vm } : State) locs mc ms := by
    subst hA
    obtain ⟨e1, e2⟩ := hsame
    rw [State.setFrames_setFrames] at e1
    have h2 : (T.setVm s.vm).sameButNew ({ U with vm := s.vm } : State) [] (0 + 1) (0 + 6) := ⟨e1, e2⟩
    have h3 := X.same.trans h2
    rw [List.append_nil] at h3
    exact h3.mono hc hs
  refine ⟨U, ?_, .threw T.heap.size, hrun, hend, Or.inr ⟨T.heap.size, rfl, cls, ce, locs, hx U hWs.alike f1 (fun q hq => f2 q hq (fun z hz => nomatch hz)), hce, hO.vm, hcl, hWs, hall, hf⟩⟩
  refine st1 _ ?_
  show Steps p.tables e below (T1.setTop { method := m, pc := pc + 3, locals := ls, stack := .ref T.heap.size :: rest, locked := none }) _
  jvm_step X₁.here [X₁.here.top, hexec, d3', Value.category]
  exact X₁.ldcStringW hexec (own := own) (text := text) (index := is) (a := sa) hown' hstr'.1 hstr'.2
    (g := { method := m, pc := pc + 4, locals := ls, stack := .ref T.heap.size :: .ref T.heap.size :: rest, locked := none }) rfl d4' _ hsteps
end Ends
section Bodies
variable {l : Launch}
theorem vx_ofW {y : MethodName} {ws ws' : List Cond} {rm : Room} {Pc : Array Value → State → Prop} {Qc : Array Value → State → Outcome → State → Prop} {XC : String → State → State → Prop} {mc ms : Nat} {free : Addr → Prop} {cc : ByteArray} {maxL : Nat} {ret : Option FieldType}
    (hy : plainName y.cls = true) (hw : ws = Cond.code y cc maxL ret :: ws')
    (body : ∀ p e s m args below meth c s₁, BodyLoose p l y (headSpec ws rm) cc maxL ret e s m args below meth c s₁ → c.maxLocals = maxL → (∀ x ∈ c.exceptionTable.toList, False) → Pc args s →
      W p l e (headSpec ws rm).room s m args below meth c s.heap [] 0 0 (vx_MQ below Qc XC args s mc ms free) (entryFrame m args maxL)) : vx_Met l y ws rm Pc Qc XC mc ms free := by
  refine MetFree.of_bodyS (code := cc) (maxLocals := maxL) (ret := ret) hy ?_ ?_
  · intro args s m h hn
    obtain ⟨meth, c, h1, h2, h3, h4, h5, h6, -, -⟩ := Cond.code_spec hn (atoms_spec (ws := ws) h _ (by rw [hw]; exact List.mem_cons_self))
    exact ⟨meth, c, h1, h2, h3, h4, h5, h6⟩
  · intro p e s m args below meth c s₁ B hml hP _
    have hh0 : s₁.heap = s.heap := by rw [B.state]; rfl
    have ht : ∀ x ∈ c.exceptionTable.toList, False := by
      obtain ⟨meth9, c9, h1, h2, -, -, -, -, h7, -⟩ := Cond.code_spec B.named (atoms_spec (ws := ws) B.pre _ (by rw [hw]; exact List.mem_cons_self))
      cases Option.some.inj (h1.symm.trans B.method)
      cases Option.some.inj (h2.symm.trans (Stand.of_body B).code)
      intro x hx
      rw [Array.isEmpty_iff.mp h7] at hx
      cases hx
    obtain ⟨t, a1, o, b1, b2, b3⟩ := body p e s m args below meth c s₁ B hml ht hP s₁ hh0 (Stand.of_body B)
    exact ⟨t, o, a1, b1, b2, b3⟩
/-- the table of a body with handlers -/
theorem vx_table {p : Program} {x y : MethodName} {S : Spec} {cc bytes : ByteArray} {maxL maxL' : Nat} {ret ret' : Option FieldType} {e : Env} {s s₁ : State} {m : MethodId} {args : Array Value} {below : List Frame} {meth : Method} {c : Code} {hh : List (Nat × Nat × Nat × Nat)}
    (B : BodyLoose p l y S cc maxL ret e s m args below meth c s₁) (h : (Cond.codeWith y bytes maxL' ret' hh).before args s = true) : c.exceptionTable.toList = tableOf hh := by
  obtain ⟨m9, meth9, c9, hn9, h1, h2, -, -, h6, -⟩ := Cond.codeWith_spec h
  cases Option.some.inj (hn9.symm.trans B.named)
  cases Option.some.inj (h1.symm.trans B.method)
  cases Option.some.inj (h2.symm.trans (Stand.of_body B).code)
  rw [← h6, table_eq]
end Bodies
end VXA
/-! ===== END ===== -/
/-! ===== BEGIN a static call of a method with an exception table ===== -/
section VXS
variable {p : Program} {l : Launch} {e : Env} {R : Room} {s : State} {m : MethodId} {args : Array Value} {below : List Frame} {meth : Method} {c : Code} {T : State} {H : Heap} {locs : List Loc} {cells slots : Nat}
abbrev vx_CSW (R : Room) (s : State) (args : Array Value) (own : String) (index : Nat) (y : MethodName) (bytes : ByteArray) (maxL : Nat) (ret : Option FieldType) (hh : List (Nat × Nat × Nat × Nat)) (ws : List Cond) (rm : Room) (mc ms n : Nat) : Prop :=
  (rm.cells = mc ∧ rm.slots = ms ∧ rm.frames + 1 ≤ R.frames ∧ 8 + (maxL + 11) + rm.locals ≤ R.locals ∧ (∀ w ∈ ws, ∀ (a' : Array Value) (U : State), s.WarmedH U.vm → w.before a' U = true) ∧ Cond.codeWith y bytes maxL ret hh ∈ ws) ∧
  (Cond.codeWith y bytes maxL ret hh).before args s = true ∧ (Cond.initialized y.cls).before args s = true ∧ (y.cls ≠ "java/lang/invoke/MethodHandle" ∧ y.cls ≠ "java/lang/invoke/VarHandle") ∧
  (∀ sig, parseMethodDescriptor y.desc = some sig → n = sig.parameters.length) ∧ (Cond.methodLink own index y).before args s = true ∧ (Cond.static y).before args s = true
theorem vx_cwSW {own : String} {index maxL mc ms : Nat} {y : MethodName} {bytes : ByteArray} {ret : Option FieldType} {hh : List (Nat × Nat × Nat × Nat)} {Ts ws ws' : List Cond} {rm : Room} (n : Nat) (ht : ∀ w ∈ Ts, w.before args s = true) (hT : GoodIn Ts (va_wsS own index y ws)) (hw : ws = Cond.codeWith y bytes maxL ret hh :: ws') (hrc : rm.cells = mc) (hrs : rm.slots = ms)
    (hd : y.cls ≠ "java/lang/invoke/MethodHandle" ∧ y.cls ≠ "java/lang/invoke/VarHandle" ∧ (parseMethodDescriptor y.desc).map (fun d => d.parameters.length) = some n) (hR : rm.frames + 1 ≤ R.frames ∧ 8 + (maxL + 11) + rm.locals ≤ R.locals) :
    vx_CSW R s args own index y bytes maxL ret hh ws rm mc ms n := by
  have ok : ∀ w ∈ va_wsS own index y ws, w.before args s = true := fun w h => ht w (hT w h).1
  have hG : GoodIn Ts ws := fun w h => hT w (by unfold va_wsS; exact List.mem_append_right _ h)
  have hc : Cond.codeWith y bytes maxL ret hh ∈ ws := by rw [hw]; exact List.mem_cons_self
  refine ⟨⟨hrc, hrs, hR.1, hR.2, pay_in ht hG, hc⟩, ht _ (hG _ hc).1, ok _ (by simp [va_wsS]), ⟨hd.1, hd.2.1⟩, fun sig h => ?_, ok _ (by simp [va_wsS]), ok _ (by simp [va_wsS])⟩
  have h2 := hd.2.2
  rw [h] at h2
  exact (Option.some.inj h2).symm
theorem vx_callSW (X : Stand p l e R s m args below meth c T locs cells slots) (hexec : p.tables.exec = Jvm.exec) {own : String} {index : Nat} {y : MethodName} {bytes : ByteArray} {maxL : Nat} {ret : Option FieldType} {hh : List (Nat × Nat × Nat × Nat)}
    (hown : s.vm.findClass own = some m.cls) (hlink : (Cond.methodLink own index y).before args s = true) (hstat : (Cond.static y).before args s = true) (hinit : (Cond.initialized y.cls).before args s = true)
    (hcode : (Cond.codeWith y bytes maxL ret hh).before args s = true) (hy : y.cls ≠ "java/lang/invoke/MethodHandle" ∧ y.cls ≠ "java/lang/invoke/VarHandle")
    {W9 : Nat} {Pre : Pt → Array Value → Prop} {Post : Pt → Array Value → Option Value → Pt → Prop} (hK : Back l R p e below s args y 3 W9 Pre Post)
    {g : JFrame} (hg : g.method = m) (hsize : g.locals.size = c.maxLocals) {argsL rest : List Value} (hlen : ∀ sig, parseMethodDescriptor y.desc = some sig → argsL.length = sig.parameters.length)
    (hstack : g.stack = argsL.reverse ++ rest) (hW : 2 * g.monitorRoom + (rest.map fun v => v.category).sum ≤ W9) (hdg : decode c.code g.pc = .ok (.invokestatic index, 3))
    (hpre : ∀ vm₁, s.WarmedH vm₁ → Pre ⟨T.setVm vm₁, locs, cells, slots⟩ argsL.toArray) :
    ∃ (v : Option Value) (vm₁ : Vm) (B : Pt), s.WarmedH vm₁ ∧ Stand p l e R s m args below meth c B.U B.locs B.cells B.slots ∧ Post ⟨T.setVm vm₁, locs, cells, slots⟩ argsL.toArray v B ∧
      ∀ target, Steps p.tables e below (B.U.setTop { g with pc := g.pc + 3, stack := v.toList ++ rest }) target → Steps p.tables e below (T.setTop g) target := by
  obtain ⟨mk, methM, cM, hnamed, hmethM, -, -, -, -, -, -, hsigM⟩ := Cond.codeWith_spec hcode
  have hstatic : methM.isStatic = true := Cond.static_spec hnamed hmethM hstat
  obtain ⟨kP, hkP, -⟩ := className_of_methodNamed hnamed
  have hinitP : kP.init = .initialized := Cond.initialized_spec (findClass_of_methodNamed hnamed) hkP hinit
  obtain ⟨vm₁, X₁, hstep₁⟩ := X.invokestatic hexec hown hlink hnamed hmethM hstatic hkP hinitP hy (g := g) hg (argsL := argsL) (rest := rest) (hlen _ hsigM) hstack hdg
  obtain ⟨v, B, X', hpost, hsteps⟩ := hK m meth c ⟨T.setVm vm₁, locs, cells, slots⟩ { g with stack := rest } (.invokestatic index) mk argsL.toArray X₁ hg hsize hdg hW (X₁.named hnamed) (hpre vm₁ X₁.warmed)
  exact ⟨v, vm₁, B, X₁.warmed, X', hpost, fun target h => hstep₁ _ fun acts => by rw [doInvoke_state]; exact hsteps.trans h⟩
theorem vx_runSW {y : MethodName} {bytes cc : ByteArray} {maxL nL mc ms n index : Nat} {ret : Option FieldType} {hh : List (Nat × Nat × Nat × Nat)} {ws : List Cond} {rm : Room} {Pc : Array Value → State → Prop} {Qc : Array Value → State → Outcome → State → Prop} {free : Addr → Prop} {Ts : List Cond} {own : String} {As rest : List Value} {g : JFrame}
    (S : CallFix p m c cc nL s args Ts own) (hM : Met l y ws rm Pc Qc mc ms free) (cw : vx_CSW R s args own index y bytes maxL ret hh ws rm mc ms n) (hp : PreS s H Pc As)
    (hg : g.method = m) (hn : As.length = n) (hsize : g.locals.size = nL) (hstack : g.stack = As.reverse ++ rest) (hW : 2 * g.monitorRoom + (rest.map fun v => v.category).sum ≤ 8) (hdg : decode cc g.pc = .ok (.invokestatic index, 3)) (hf : cells + mc ≤ R.cells ∧ slots + ms ≤ R.slots) :
    va_Run p l e R s m args below meth c H locs cells slots mc ms g rest (Qc As.toArray) (free) := by
  obtain ⟨⟨hrc, hrs, hfr, hlo, hws, hcw⟩, hcode, hini, hy, hlen, hl, hstt⟩ := cw
  have hK : Back l R p e below s args y 3 8 (PreOf R mc ms Pc) (PostOf Qc mc ms free) := va_backW (hh := hh) (bytes := bytes) (maxL := maxL) (ret := ret) hM hp.1 hrc hrs hfr hlo hws hcw (fun a' U hW => word_at hW (Or.inl (by first | rfl | simp [Cond.onTables, Cond.keeps, Cond.steady])) hini)
  obtain ⟨hx, hb, hml, ho, -⟩ := S
  intro T hT X
  obtain ⟨v, vm₁, ⟨U', l2, c2, s2⟩, hW₁, X', ⟨g', mk, t, L, e1, e2, hq, h1, hL, h2, h3⟩, st⟩ := vx_callSW X hx (hh := hh) (bytes := bytes) (maxL := maxL) (ret := ret) ho hl hstt hini hcode hy hK hg (hsize.trans hml.symm) (argsL := As) (rest := rest) (fun sig h => hn.trans (hlen sig h)) hstack hW (by rw [hb]; exact hdg)
    (fun vm₁ hW₁ => ⟨hf.1, hf.2, hp.2 (T.setVm vm₁) hT hW₁⟩)
  dsimp only [Pt.U, Pt.locs, Pt.cells, Pt.slots] at X' e1 e2 h1 h2 h3 st
  subst h1; subst h2; subst h3
  exact ⟨v, (T.setVm vm₁).calling g' mk As.toArray, t, U', L, hT, X', hL, e1, e2, hq, st⟩
/-- not caught here, past rows that name other classes: it goes on to the caller -/
theorem vx_outP {p : Program} {l : Launch} {e : Env} {R : Room} {s : State} {m : MethodId} {args : Array Value} {below : List Frame} {meth : Method} {c : Code} {H : Heap} {locs : List Loc} {cells slots : Nat} {free : Addr → Prop} {ls : Array Slot} {rest : List Value} {Qc : Array Value → State → Outcome → State → Prop} {XC : String → State → State → Prop}
    {pc : Nat} {own E : String} {ce : Cell} {q : Addr} {mc ms : Nat} (hown : s.vm.findClass own = some m.cls) (hlocks : meth.locks = false)
    (hpass : ∀ z ∈ c.exceptionTable.toList, covers z pc = false ∨ (z.catchType ≠ 0 ∧ ∃ nm : String, (Cond.classLink own z.catchType nm).before args s = true ∧ va_Nc E nm s)) (hcell : H[q]? = some ce) (hv : ce.vm = .none) (hcl : s.vm.findClass E = some ce.cls)
    (hx : ∀ t : State, t.heap = H → s.vm.Alike t.vm → XC E s t) (hf : ∀ z ∈ locs, free z.base) (hc : cells ≤ mc) (hs : slots ≤ ms) :
    vx_W p l e R s m args below meth c H locs cells slots (vx_MQ below Qc XC args s mc ms free) (F0 m pc ls rest) q := by
  intro T hT X
  have hpl : e.platform.magicAccessors = ({} : Platform).magicAccessors := by rw [X.admits.platform]
  obtain ⟨vm', hW', X', st⟩ := X.outThrough hlocks q (g := F0 m pc ls rest) rfl rfl rfl (cell := ce) (by rw [hT]; exact hcell) (by rw [hv]; rfl)
    (by obtain ⟨k9, h9, -⟩ := Vm.findClass_spec hcl; exact ⟨k9, h9⟩) (fun z hz => by
      rcases hpass z hz with h | ⟨hz0, nm, hl1, hn1⟩
      · exact Or.inl h
      · obtain ⟨c6, hc6, hcl6⟩ := Cond.classLink_spec hown hl1 e.platform hpl
        obtain ⟨a8, b8, h1, h2, h3⟩ := hn1
        cases Option.some.inj (h1.symm.trans hcl)
        cases Option.some.inj (h2.symm.trans hc6)
        exact Or.inr ⟨hz0, _, hcl6, h3⟩)
  obtain ⟨g₀, hfr⟩ := X'.frames_eq
  have hcell9 : ((T.setVm vm').setFrames (.throwing q :: below)).heap[q]? = some ce := by
    show T.heap[q]? = some ce
    rw [hT]; exact hcell
  have hend : Ended ((T.setVm vm').setFrames (.throwing q :: below)) below (.threw q) := State.frames_setFrames _ (State.cur_lt_of_frames hfr)
  refine ⟨(T.setVm vm').setFrames (.throwing q :: below), ?_, .threw q, X'.here.running, hend, Or.inr ⟨q, rfl, E, ce, locs, hx _ hT (X'.ends _).1.alike, hcell9, hv, hcl, (X'.ends _).1, (X'.ends _).2.mono hc hs, hf⟩⟩
  rw [X.pushThrowing_eq]
  exact st
/-- a thing of a world lies in the heap -/
theorem vx_lt {D : va_G} {cl : List vw_C} {ws : va_W} {H1 : Heap} (h : va_P D cl ws H1) {k : Nat} {q : Nat × va_E} (hk : ws[k]? = some q) : q.1 < H1.size := (h k q hk).lt
end VXS
/-! ===== END ===== -/
/-! ===== BEGIN methods with a table of their own: called by a name, returning or throwing ===== -/
section VXH
/-! vx_backW, vx_callVX, vx_callSX, vx_callVW, vx_runVW, vx_runVX, vx_runSX, vx_ofWH follow the same proofs as their sisters above (Free/Laws.lean, Shelf42/LK1.lean); vx_outP calls Shelf42/NT130.lean (outThrough). -/
section
variable {l : Launch} {R : Room} {p : Program} {e : Env} {below : List Frame} {s : State} {sargs : Array Value} {y : MethodName} {len W9 : Nat}
theorem vx_backW {ws : List Cond} {rm : Room} {Pc : Array Value → State → Prop} {Qc : Array Value → State → Outcome → State → Prop} {XC : String → State → State → Prop} {mc ms : Nat} {free : Addr → Prop} {bytes : ByteArray} {maxL : Nat} {ret : Option FieldType} {hh : List (Nat × Nat × Nat × Nat)}
    (hM : vx_Met l y ws rm Pc Qc XC mc ms free) (hblind : FrameBlind Pc) (hrc : rm.cells = mc) (hrs : rm.slots = ms)
    (hframes : rm.frames + 1 ≤ R.frames) (hlocals : W9 + (maxL + 11) + rm.locals ≤ R.locals)
    (hws : ∀ w ∈ ws, ∀ a' U, s.WarmedH U.vm → w.before a' U = true) (hcode : Cond.codeWith y bytes maxL ret hh ∈ ws) (hinit : ∀ a' U, s.WarmedH U.vm → (Cond.initialized y.cls).before a' U = true) :
    vx_Back l R p e below s sargs y len W9 (PreOf R mc ms Pc) (PostOf Qc mc ms free) (vx_Post XC mc ms free) := by
  intro m meth c A g ig mk a X hg hsize hdg hW hn hp
  have h1 : (headSpec ws rm).pre.before a A.U = true := atoms_intro fun w hw => hws w hw _ _ X.warmed
  have h2 : (Cond.codeWith y bytes maxL ret hh).before a A.U = true := hws _ hcode _ _ X.warmed
  have h3 : (Cond.initialized y.cls).before a A.U = true := hinit _ _ X.warmed
  have h4 : A.cells + (headSpec ws rm).room.cells ≤ R.cells := by rw [show (headSpec ws rm).room.cells = mc from hrc]; exact hp.1
  have h5 : A.slots + (headSpec ws rm).room.slots ≤ R.slots := by rw [show (headSpec ws rm).room.slots = ms from hrs]; exact hp.2.1
  have hPc : Pc a (A.U.calling g mk a) := hblind _ _ _ _ hp.2.2
  obtain ⟨U, Ls, c0, s0⟩ := A
  dsimp only [Pt.U, Pt.locs, Pt.cells, Pt.slots] at h1 h2 h3 h4 h5 X hn hPc ⊢
  obtain ⟨m9, methY, cY, hn9, hmY, hcY, -, hlY, -⟩ := Cond.codeWith_spec h2
  cases Option.some.inj (hn9.symm.trans hn)
  obtain ⟨kY, hkY, -⟩ := className_of_methodNamed hn
  have hinitY : kY.init = .initialized := Cond.initialized_spec (findClass_of_methodNamed hn) hkY h3
  have h : At U g.method c below := by rw [hg]; exact X.here
  have hlocals9 : W9 + (maxL + 11) + (headSpec ws rm).room.locals ≤ R.locals := hlocals
  have happ : (headSpec ws rm).appliesLoose y e.platform (U.calling g mk a) = true :=
    Spec.appliesLoose_calling (g := g) h hdg hn hkY hinitY
      (X.room_calling (g := g) (R' := (headSpec ws rm).room) hsize hmY hcY hframes (by rw [hlY]; omega) h4 h5) h1
  obtain ⟨mid, hmid⟩ := h.above
  have hfr : (U.setTop g).frames = (.java g :: mid) ++ below := by rw [State.frames_setTop' g h.top, hmid]; rfl
  obtain ⟨o, s₂, hsteps, -, hend, hq⟩ := Steps.callFree hM p X.admits X.cas X.clock (acts := []) hfr happ hPc trivial
  have hq' : vx_Q Qc XC mc ms free a (U.calling g mk a) o s₂ := hq
  rw [State.frames_setTop' g h.top] at hend
  obtain ⟨g₀, hg0⟩ := Option.isSome_iff_exists.mp h.top
  obtain ⟨r, hr⟩ := State.topJava?_eq_some.mp hg0
  have hr' : (({ U with heap := s₂.heap, slotsUsed := s₂.slotsUsed } : State).setVm s₂.vm).frames = .java g₀ :: r := hr
  rcases hq' with ⟨hqc, L, hfe, hL⟩ | ⟨q, rfl, E, ce, L, hx, hce, hcv, hcl, hW₂, hsm, hL⟩
  · obtain ⟨⟨v, rfl⟩, hW₂, e2, q2, q3, q4, q5, q6⟩ := id hfe
    have e3 : s₂ = ({ (U.calling g mk a).setFrames s₂.frames with heap := s₂.heap, slotsUsed := s₂.slotsUsed } : State).setVm s₂.vm := by
      have : s₂ = ({ s₂ with vm := (U.calling g mk a).vm } : State).setVm s₂.vm := rfl
      rw [e2] at this
      exact this
    obtain ⟨c₂, i₂, len₂, hc₂, hd₂, hf₂⟩ := hend
    have hW' : U.WarmedH s₂.vm := hW₂
    have hcc : c₂ = c := by
      have h1 : s₂.code? g.method = U.code? g.method := by
        rw [State.code?_eq, State.code?_eq, hW'.alike.method?]
      exact Option.some.inj (hc₂.symm.trans (h1.trans h.code))
    subst hcc
    have hlen : len₂ = len := by rw [hdg] at hd₂; cases hd₂; rfl
    subst hlen
    have hs₂ : s₂ = (({ U with heap := s₂.heap, slotsUsed := s₂.slotsUsed } : State).setVm s₂.vm).setTop { g with pc := g.pc + len₂, stack := v.toList ++ g.stack } := by
      refine e3.trans ?_
      rw [hf₂, State.calling_eq h.top, State.setFrames_setFrames, State.setTop_of_frames _ hr', hr]
      rfl
    have hsame : U.sameButNew ({ U with heap := s₂.heap, slotsUsed := s₂.slotsUsed } : State) L mc ms := by
      refine ⟨?_, q2, q3, q4, q5, q6⟩
      obtain ⟨t, ht, -⟩ := State.frames_cons hr
      show ({ U with heap := s₂.heap, slotsUsed := s₂.slotsUsed } : State) = { U.setFrames U.frames with heap := s₂.heap, slotsUsed := s₂.slotsUsed }
      rw [State.setFrames_self ht]
    subst hg
    refine Or.inl ⟨v, ⟨(({ U with heap := s₂.heap, slotsUsed := s₂.slotsUsed } : State).setVm s₂.vm), Ls ++ L, c0 + mc, s0 + ms⟩,
      ⟨X.admits, X.cas, X.clock, X.frames, X.room, X.hears, X.method, X.code, (X.here.setHeapUsed s₂.heap s₂.slotsUsed).setVm hW'.alike, X.tail, State.WarmedH.trans X.warmed hW', X.limits, X.bytes, X.same.trans (hsame.setVm s.vm)⟩,
      ⟨g, mk, s₂, L, rfl, rfl, hqc, rfl, hL, rfl, rfl⟩, ?_⟩
    show Steps p.tables e below _ ((({ U with heap := s₂.heap, slotsUsed := s₂.slotsUsed } : State).setVm s₂.vm).setTop { g with pc := g.pc + len₂, stack := v.toList ++ g.stack })
    rw [← hs₂]
    exact hsteps
  · obtain ⟨e2, q2, q3, q4, q5, q6⟩ := id hsm
    have e3 : s₂ = ({ (U.calling g mk a).setFrames s₂.frames with heap := s₂.heap, slotsUsed := s₂.slotsUsed } : State).setVm s₂.vm := by
      have : s₂ = ({ s₂ with vm := (U.calling g mk a).vm } : State).setVm s₂.vm := rfl
      rw [e2] at this
      exact this
    have hf₂ : s₂.frames = .throwing q :: .java g :: U.frames.tail := hend
    have hW' : U.WarmedH s₂.vm := hW₂
    have hs₂ : s₂ = ((({ U with heap := s₂.heap, slotsUsed := s₂.slotsUsed } : State).setVm s₂.vm).setTop g).pushFrame (.throwing q) := by
      refine e3.trans ?_
      rw [hf₂, State.calling_eq h.top, State.setFrames_setFrames, State.pushFrame, State.frames_setTop _ hr', State.setTop_of_frames _ hr', State.setFrames_setFrames, hr]
      rfl
    have hsame : U.sameButNew ({ U with heap := s₂.heap, slotsUsed := s₂.slotsUsed } : State) L mc ms := by
      refine ⟨?_, q2, q3, q4, q5, q6⟩
      obtain ⟨t, ht, -⟩ := State.frames_cons hr
      show ({ U with heap := s₂.heap, slotsUsed := s₂.slotsUsed } : State) = { U.setFrames U.frames with heap := s₂.heap, slotsUsed := s₂.slotsUsed }
      rw [State.setFrames_self ht]
    subst hg
    refine Or.inr ⟨q, ⟨(({ U with heap := s₂.heap, slotsUsed := s₂.slotsUsed } : State).setVm s₂.vm), Ls ++ L, c0 + mc, s0 + ms⟩,
      ⟨X.admits, X.cas, X.clock, X.frames, X.room, X.hears, X.method, X.code, (X.here.setHeapUsed s₂.heap s₂.slotsUsed).setVm hW'.alike, X.tail, State.WarmedH.trans X.warmed hW', X.limits, X.bytes, X.same.trans (hsame.setVm s.vm)⟩,
      ⟨g, mk, s₂, L, E, ce, rfl, rfl, hx, hce, hcv, hcl, rfl, hL, rfl, rfl⟩, ?_⟩
    show Steps p.tables e below _ (((({ U with heap := s₂.heap, slotsUsed := s₂.slotsUsed } : State).setVm s₂.vm).setTop g).pushFrame (.throwing q))
    rw [← hs₂]
    exact hsteps
end
variable {p : Program} {l : Launch} {e : Env} {R : Room} {s : State} {m : MethodId} {args : Array Value} {below : List Frame} {meth : Method} {c : Code} {T : State} {H : Heap} {locs : List Loc} {cells slots : Nat}
theorem vx_callVX (X : Stand p l e R s m args below meth c T locs cells slots) (hexec : p.tables.exec = Jvm.exec) {own C : String} {index : Nat} {y : MethodName} {bytes : ByteArray} {maxL : Nat} {ret : Option FieldType} {hh : List (Nat × Nat × Nat × Nat)}
    (hown : s.vm.findClass own = some m.cls) (hlink : (Cond.methodLink own index y).before args s = true) (hinst : (Cond.instanceMethod y).before args s = true) (hsel : (Cond.selects C y y).before args s = true)
    (hcode : (Cond.codeWith y bytes maxL ret hh).before args s = true) (hy : y.cls ≠ "java/lang/invoke/MethodHandle" ∧ y.cls ≠ "java/lang/invoke/VarHandle")
    {W9 : Nat} {Pre : Pt → Array Value → Prop} {Post : Pt → Array Value → Option Value → Pt → Prop} {PostX : Pt → Array Value → Addr → Pt → Prop} (hK : vx_Back l R p e below s args y 3 W9 Pre Post PostX)
    {b : Addr} {cellB : Cell} (hcell : T.heap[b]? = some cellB) (hobj : cellB.vm.isStatics = false) (hcls : s.vm.findClass C = some cellB.cls)
    {g : JFrame} (hg : g.method = m) (hsize : g.locals.size = c.maxLocals) {argsL rest : List Value} (hlen : ∀ sig, parseMethodDescriptor y.desc = some sig → argsL.length = sig.parameters.length)
    (hstack : g.stack = argsL.reverse ++ .ref b :: rest) (hW : 2 * g.monitorRoom + (rest.map fun v => v.category).sum ≤ W9) (hdg : decode c.code g.pc = .ok (.invokevirtual index, 3))
    (hpre : ∀ vm₁, s.WarmedH vm₁ → Pre ⟨T.setVm vm₁, locs, cells, slots⟩ (Value.ref b :: argsL).toArray) :
    (∃ (v : Option Value) (vm₁ : Vm) (B : Pt), s.WarmedH vm₁ ∧ Stand p l e R s m args below meth c B.U B.locs B.cells B.slots ∧ Post ⟨T.setVm vm₁, locs, cells, slots⟩ (Value.ref b :: argsL).toArray v B ∧
      ∀ target, Steps p.tables e below (B.U.setTop { g with pc := g.pc + 3, stack := v.toList ++ rest }) target → Steps p.tables e below (T.setTop g) target) ∨
    (∃ (q : Addr) (vm₁ : Vm) (B : Pt), s.WarmedH vm₁ ∧ Stand p l e R s m args below meth c B.U B.locs B.cells B.slots ∧ PostX ⟨T.setVm vm₁, locs, cells, slots⟩ (Value.ref b :: argsL).toArray q B ∧
      Steps p.tables e below (T.setTop g) ((B.U.setTop { g with stack := rest }).pushFrame (.throwing q))) := by
  obtain ⟨mk, methM, hnamed, hmethM, hstM, habM⟩ := Cond.instanceMethod_spec hinst
  obtain ⟨m8, methM', cM, hn8, hmethM', -, -, -, -, -, -, hsigM⟩ := Cond.codeWith_spec hcode
  cases Option.some.inj (hn8.symm.trans hnamed)
  cases hmethM.symm.trans hmethM'
  obtain ⟨c2, r2, m2, q1, q2, q3, q4, kP, hkP, hkPi⟩ := Cond.selects_spec hsel
  cases hcls.symm.trans q1
  cases (State.methodFound?_of_named hnamed hy).symm.trans q2
  cases hnamed.symm.trans q3
  have hselP : selectMethod e.platform s.vm cellB.cls mk = .method mk := by rw [Launch.admits_selectMethod X.admits]; exact q4
  obtain ⟨vm₁, X₁, hstep₁⟩ := X.invokevirtual hexec hown hlink hnamed hmethM hstM hkP hkPi hy (a := b) (cell := cellB) hcell
    (fun z h => by rw [h] at hobj; cases hobj) hselP hmethM habM hkP hkPi (g := g) hg (argsL := argsL) (rest := rest) (hlen _ hsigM) hstack hdg
  rcases hK m meth c ⟨T.setVm vm₁, locs, cells, slots⟩ { g with stack := rest } (.invokevirtual index) mk (Value.ref b :: argsL).toArray X₁ hg hsize hdg hW (X₁.named hnamed) (hpre vm₁ X₁.warmed) with ⟨v, B, X', hpost, hsteps⟩ | ⟨q, B, X', hpost, hsteps⟩
  · exact Or.inl ⟨v, vm₁, B, X₁.warmed, X', hpost, fun target h => hstep₁ _ fun acts => by rw [doInvoke_state]; exact hsteps.trans h⟩
  · exact Or.inr ⟨q, vm₁, B, X₁.warmed, X', hpost, hstep₁ _ fun acts => by rw [doInvoke_state]; exact hsteps⟩
theorem vx_callSX (X : Stand p l e R s m args below meth c T locs cells slots) (hexec : p.tables.exec = Jvm.exec) {own : String} {index : Nat} {y : MethodName} {bytes : ByteArray} {maxL : Nat} {ret : Option FieldType} {hh : List (Nat × Nat × Nat × Nat)}
    (hown : s.vm.findClass own = some m.cls) (hlink : (Cond.methodLink own index y).before args s = true) (hstat : (Cond.static y).before args s = true) (hinit : (Cond.initialized y.cls).before args s = true)
    (hcode : (Cond.codeWith y bytes maxL ret hh).before args s = true) (hy : y.cls ≠ "java/lang/invoke/MethodHandle" ∧ y.cls ≠ "java/lang/invoke/VarHandle")
    {W9 : Nat} {Pre : Pt → Array Value → Prop} {Post : Pt → Array Value → Option Value → Pt → Prop} {PostX : Pt → Array Value → Addr → Pt → Prop} (hK : vx_Back l R p e below s args y 3 W9 Pre Post PostX)
    {g : JFrame} (hg : g.method = m) (hsize : g.locals.size = c.maxLocals) {argsL rest : List Value} (hlen : ∀ sig, parseMethodDescriptor y.desc = some sig → argsL.length = sig.parameters.length)
    (hstack : g.stack = argsL.reverse ++ rest) (hW : 2 * g.monitorRoom + (rest.map fun v => v.category).sum ≤ W9) (hdg : decode c.code g.pc = .ok (.invokestatic index, 3))
    (hpre : ∀ vm₁, s.WarmedH vm₁ → Pre ⟨T.setVm vm₁, locs, cells, slots⟩ argsL.toArray) :
    (∃ (v : Option Value) (vm₁ : Vm) (B : Pt), s.WarmedH vm₁ ∧ Stand p l e R s m args below meth c B.U B.locs B.cells B.slots ∧ Post ⟨T.setVm vm₁, locs, cells, slots⟩ argsL.toArray v B ∧
      ∀ target, Steps p.tables e below (B.U.setTop { g with pc := g.pc + 3, stack := v.toList ++ rest }) target → Steps p.tables e below (T.setTop g) target) ∨
    (∃ (q : Addr) (vm₁ : Vm) (B : Pt), s.WarmedH vm₁ ∧ Stand p l e R s m args below meth c B.U B.locs B.cells B.slots ∧ PostX ⟨T.setVm vm₁, locs, cells, slots⟩ argsL.toArray q B ∧
      Steps p.tables e below (T.setTop g) ((B.U.setTop { g with stack := rest }).pushFrame (.throwing q))) := by
  obtain ⟨mk, methM, cM, hnamed, hmethM, -, -, -, -, -, -, hsigM⟩ := Cond.codeWith_spec hcode
  have hstatic : methM.isStatic = true := Cond.static_spec hnamed hmethM hstat
  obtain ⟨kP, hkP, -⟩ := className_of_methodNamed hnamed
  have hinitP : kP.init = .initialized := Cond.initialized_spec (findClass_of_methodNamed hnamed) hkP hinit
  obtain ⟨vm₁, X₁, hstep₁⟩ := X.invokestatic hexec hown hlink hnamed hmethM hstatic hkP hinitP hy (g := g) hg (argsL := argsL) (rest := rest) (hlen _ hsigM) hstack hdg
  rcases hK m meth c ⟨T.setVm vm₁, locs, cells, slots⟩ { g with stack := rest } (.invokestatic index) mk argsL.toArray X₁ hg hsize hdg hW (X₁.named hnamed) (hpre vm₁ X₁.warmed) with ⟨v, B, X', hpost, hsteps⟩ | ⟨q, B, X', hpost, hsteps⟩
  · exact Or.inl ⟨v, vm₁, B, X₁.warmed, X', hpost, fun target h => hstep₁ _ fun acts => by rw [doInvoke_state]; exact hsteps.trans h⟩
  · exact Or.inr ⟨q, vm₁, B, X₁.warmed, X', hpost, hstep₁ _ fun acts => by rw [doInvoke_state]; exact hsteps⟩
theorem vx_callVW (X : Stand p l e R s m args below meth c T locs cells slots) (hexec : p.tables.exec = Jvm.exec) {own C : String} {index : Nat} {y : MethodName} {bytes : ByteArray} {maxL : Nat} {ret : Option FieldType} {hh : List (Nat × Nat × Nat × Nat)}
    (hown : s.vm.findClass own = some m.cls) (hlink : (Cond.methodLink own index y).before args s = true) (hinst : (Cond.instanceMethod y).before args s = true) (hsel : (Cond.selects C y y).before args s = true)
    (hcode : (Cond.codeWith y bytes maxL ret hh).before args s = true) (hy : y.cls ≠ "java/lang/invoke/MethodHandle" ∧ y.cls ≠ "java/lang/invoke/VarHandle")
    {W9 : Nat} {Pre : Pt → Array Value → Prop} {Post : Pt → Array Value → Option Value → Pt → Prop} (hK : Back l R p e below s args y 3 W9 Pre Post)
    {b : Addr} {cellB : Cell} (hcell : T.heap[b]? = some cellB) (hobj : cellB.vm.isStatics = false) (hcls : s.vm.findClass C = some cellB.cls)
    {g : JFrame} (hg : g.method = m) (hsize : g.locals.size = c.maxLocals) {argsL rest : List Value} (hlen : ∀ sig, parseMethodDescriptor y.desc = some sig → argsL.length = sig.parameters.length)
    (hstack : g.stack = argsL.reverse ++ .ref b :: rest) (hW : 2 * g.monitorRoom + (rest.map fun v => v.category).sum ≤ W9) (hdg : decode c.code g.pc = .ok (.invokevirtual index, 3))
    (hpre : ∀ vm₁, s.WarmedH vm₁ → Pre ⟨T.setVm vm₁, locs, cells, slots⟩ (Value.ref b :: argsL).toArray) :
    ∃ (v : Option Value) (vm₁ : Vm) (B : Pt), s.WarmedH vm₁ ∧ Stand p l e R s m args below meth c B.U B.locs B.cells B.slots ∧ Post ⟨T.setVm vm₁, locs, cells, slots⟩ (Value.ref b :: argsL).toArray v B ∧
      ∀ target, Steps p.tables e below (B.U.setTop { g with pc := g.pc + 3, stack := v.toList ++ rest }) target → Steps p.tables e below (T.setTop g) target := by
  obtain ⟨mk, methM, hnamed, hmethM, hstM, habM⟩ := Cond.instanceMethod_spec hinst
  obtain ⟨m8, methM', cM, hn8, hmethM', -, -, -, -, -, -, hsigM⟩ := Cond.codeWith_spec hcode
  cases Option.some.inj (hn8.symm.trans hnamed)
  cases hmethM.symm.trans hmethM'
  obtain ⟨c2, r2, m2, q1, q2, q3, q4, kP, hkP, hkPi⟩ := Cond.selects_spec hsel
  cases hcls.symm.trans q1
  cases (State.methodFound?_of_named hnamed hy).symm.trans q2
  cases hnamed.symm.trans q3
  have hselP : selectMethod e.platform s.vm cellB.cls mk = .method mk := by rw [Launch.admits_selectMethod X.admits]; exact q4
  obtain ⟨vm₁, X₁, hstep₁⟩ := X.invokevirtual hexec hown hlink hnamed hmethM hstM hkP hkPi hy (a := b) (cell := cellB) hcell
    (fun z h => by rw [h] at hobj; cases hobj) hselP hmethM habM hkP hkPi (g := g) hg (argsL := argsL) (rest := rest) (hlen _ hsigM) hstack hdg
  obtain ⟨v, B, X', hpost, hsteps⟩ := hK m meth c ⟨T.setVm vm₁, locs, cells, slots⟩ { g with stack := rest } (.invokevirtual index) mk (Value.ref b :: argsL).toArray X₁ hg hsize hdg hW (X₁.named hnamed) (hpre vm₁ X₁.warmed)
  exact ⟨v, vm₁, B, X₁.warmed, X', hpost, fun target h => hstep₁ _ fun acts => by rw [doInvoke_state]; exact hsteps.trans h⟩
abbrev vx_CVW (R : Room) (s : State) (args : Array Value) (own C : String) (index : Nat) (y : MethodName) (bytes : ByteArray) (maxL : Nat) (ret : Option FieldType) (hh : List (Nat × Nat × Nat × Nat)) (ws : List Cond) (rm : Room) (mc ms n : Nat) : Prop :=
  (rm.cells = mc ∧ rm.slots = ms ∧ rm.frames + 1 ≤ R.frames ∧ 8 + (maxL + 11) + rm.locals ≤ R.locals ∧ (∀ w ∈ ws, ∀ (a' : Array Value) (U : State), s.WarmedH U.vm → w.before a' U = true) ∧ Cond.codeWith y bytes maxL ret hh ∈ ws) ∧
  (Cond.codeWith y bytes maxL ret hh).before args s = true ∧ (Cond.initialized y.cls).before args s = true ∧ (y.cls ≠ "java/lang/invoke/MethodHandle" ∧ y.cls ≠ "java/lang/invoke/VarHandle") ∧
  (∀ sig, parseMethodDescriptor y.desc = some sig → n = sig.parameters.length) ∧ (Cond.methodLink own index y).before args s = true ∧ (Cond.instanceMethod y).before args s = true ∧ (Cond.selects C y y).before args s = true
theorem vx_cwVW {own C : String} {index maxL mc ms : Nat} {y : MethodName} {bytes : ByteArray} {ret : Option FieldType} {hh : List (Nat × Nat × Nat × Nat)} {Ts ws ws' : List Cond} {rm : Room} (n : Nat) (ht : ∀ w ∈ Ts, w.before args s = true) (hT : GoodIn Ts (wsV own index C y ws)) (hw : ws = Cond.codeWith y bytes maxL ret hh :: ws') (hrc : rm.cells = mc) (hrs : rm.slots = ms)
    (hd : y.cls = C ∧ y.cls ≠ "java/lang/invoke/MethodHandle" ∧ y.cls ≠ "java/lang/invoke/VarHandle" ∧ (parseMethodDescriptor y.desc).map (fun d => d.parameters.length) = some n) (hR : rm.frames + 1 ≤ R.frames ∧ 8 + (maxL + 11) + rm.locals ≤ R.locals) :
    vx_CVW R s args own C index y bytes maxL ret hh ws rm mc ms n := by
  obtain ⟨hC, hd⟩ := hd
  subst hC
  have ok : ∀ w ∈ wsV own index y.cls y ws, w.before args s = true := fun w h => ht w (hT w h).1
  have hG : GoodIn Ts ws := fun w h => hT w (by unfold wsV; exact List.mem_append_right _ h)
  have hc : Cond.codeWith y bytes maxL ret hh ∈ ws := by rw [hw]; exact List.mem_cons_self
  refine ⟨⟨hrc, hrs, hR.1, hR.2, pay_in ht hG, hc⟩, ht _ (hG _ hc).1, ok _ (by simp [wsV]), ⟨hd.1, hd.2.1⟩, fun sig h => ?_, ok _ (by simp [wsV]), ok _ (by simp [wsV]), ok _ (by simp [wsV])⟩
  have h2 := hd.2.2
  rw [h] at h2
  exact (Option.some.inj h2).symm
theorem vx_runVW {y : MethodName} {bytes cc : ByteArray} {maxL nL mc ms n index : Nat} {ret : Option FieldType} {hh : List (Nat × Nat × Nat × Nat)} {ws : List Cond} {rm : Room} {Pc : Array Value → State → Prop} {Qc : Array Value → State → Outcome → State → Prop} {free : Addr → Prop} {Ts : List Cond} {own C : String} {b : Addr} {As rest : List Value} {g : JFrame}
    (S : CallFix p m c cc nL s args Ts own) (hM : Met l y ws rm Pc Qc mc ms free) (cw : vx_CVW R s args own C index y bytes maxL ret hh ws rm mc ms n) (hp : PreV s H C b Pc As)
    (hg : g.method = m) (hn : As.length = n) (hsize : g.locals.size = nL) (hstack : g.stack = As.reverse ++ .ref b :: rest) (hW : 2 * g.monitorRoom + (rest.map fun v => v.category).sum ≤ 8) (hdg : decode cc g.pc = .ok (.invokevirtual index, 3)) (hf : cells + mc ≤ R.cells ∧ slots + ms ≤ R.slots) :
    va_Run p l e R s m args below meth c H locs cells slots mc ms g rest (Qc (Value.ref b :: As).toArray) free := by
  obtain ⟨⟨hrc, hrs, hfr, hlo, hws, hcw⟩, hcode, hini, hy, hlen, hl, hin, hse⟩ := cw
  have hK : Back l R p e below s args y 3 8 (PreOf R mc ms Pc) (PostOf Qc mc ms free) := va_backW (hh := hh) (bytes := bytes) (maxL := maxL) (ret := ret) hM hp.1 hrc hrs hfr hlo hws hcw (fun a' U hW => word_at hW (Or.inl (by first | rfl | simp [Cond.onTables, Cond.keeps, Cond.steady])) hini)
  obtain ⟨hx, hb, hml, ho, -⟩ := S
  obtain ⟨-, ⟨cellB, hcB, hoB, hclB⟩, hPc⟩ := hp
  intro T hT X
  obtain ⟨v, vm₁, ⟨U', l2, c2, s2⟩, hW₁, X', ⟨g', mk, t, L, e1, e2, hq, h1, hL, h2, h3⟩, st⟩ := vx_callVW X hx (C := C) (hh := hh) (bytes := bytes) (maxL := maxL) (ret := ret) ho hl hin hse hcode hy hK (by rw [hT]; exact hcB) hoB hclB hg (hsize.trans hml.symm) (argsL := As) (rest := rest) (fun sig h => hn.trans (hlen sig h)) hstack hW (by rw [hb]; exact hdg)
    (fun vm₁ hW₁ => ⟨hf.1, hf.2, hPc (T.setVm vm₁) hT hW₁⟩)
  dsimp only [Pt.U, Pt.locs, Pt.cells, Pt.slots] at X' e1 e2 h1 h2 h3 st
  subst h1; subst h2; subst h3
  exact ⟨v, (T.setVm vm₁).calling g' mk (Value.ref b :: As).toArray, t, U', L, hT, X', hL, e1, e2, hq, st⟩
section
variable {y : MethodName} {bytes cc : ByteArray} {maxL nL mc ms n index : Nat} {ret : Option FieldType} {ws : List Cond} {rm : Room} {Pc : Array Value → State → Prop} {Qc : Array Value → State → Outcome → State → Prop} {XC : String → State → State → Prop} {free : Addr → Prop} {Ts : List Cond} {own C : String} {b : Addr} {As rest : List Value} {g : JFrame}
theorem vx_runVX {hh : List (Nat × Nat × Nat × Nat)} (S : CallFix p m c cc nL s args Ts own) (hM : vx_Met l y ws rm Pc Qc XC mc ms free) (cw : vx_CVW R s args own C index y bytes maxL ret hh ws rm mc ms n) (hp : PreV s H C b Pc As)
    (hg : g.method = m) (hn : As.length = n) (hsize : g.locals.size = nL) (hstack : g.stack = As.reverse ++ .ref b :: rest) (hW : 2 * g.monitorRoom + (rest.map fun v => v.category).sum ≤ 8) (hdg : decode cc g.pc = .ok (.invokevirtual index, 3)) (hf : cells + mc ≤ R.cells ∧ slots + ms ≤ R.slots) :
    vx_Run p l e R s m args below meth c H locs cells slots mc ms g rest (Qc (Value.ref b :: As).toArray) XC free := by
  obtain ⟨⟨hrc, hrs, hfr, hlo, hws, hcw⟩, hcode, hini, hy, hlen, hl, hin, hse⟩ := cw
  have hK : vx_Back l R p e below s args y 3 8 (PreOf R mc ms Pc) (PostOf Qc mc ms free) (vx_Post XC mc ms free) := vx_backW (hh := hh) (bytes := bytes) (maxL := maxL) (ret := ret) hM hp.1 hrc hrs hfr hlo hws hcw (fun a' U hW => word_at hW (Or.inl (by first | rfl | simp [Cond.onTables, Cond.keeps, Cond.steady])) hini)
  obtain ⟨hx, hb, hml, ho, -⟩ := S
  obtain ⟨-, ⟨cellB, hcB, hoB, hclB⟩, hPc⟩ := hp
  intro T hT X
  rcases vx_callVX X hx (C := C) (hh := hh) (bytes := bytes) (maxL := maxL) (ret := ret) ho hl hin hse hcode hy hK (by rw [hT]; exact hcB) hoB hclB hg (hsize.trans hml.symm) (argsL := As) (rest := rest) (fun sig h => hn.trans (hlen sig h)) hstack hW (by rw [hb]; exact hdg)
    (fun vm₁ hW₁ => ⟨hf.1, hf.2, hPc (T.setVm vm₁) hT hW₁⟩) with ⟨v, vm₁, ⟨U', l2, c2, s2⟩, hW₁, X', ⟨g', mk, t, L, e1, e2, hq, h1, hL, h2, h3⟩, st⟩ | ⟨q, vm₁, ⟨U', l2, c2, s2⟩, hW₁, X', ⟨g', mk, t, L, E, ce, e1, e2, hq, hce, hcv, hcl, h1, hL, h2, h3⟩, st⟩
  · dsimp only [Pt.U, Pt.locs, Pt.cells, Pt.slots] at X' e1 e2 h1 h2 h3 st
    subst h1; subst h2; subst h3
    exact Or.inl ⟨v, (T.setVm vm₁).calling g' mk (Value.ref b :: As).toArray, t, U', L, hT, X', hL, e1, e2, hq, st⟩
  · dsimp only [Pt.U, Pt.locs, Pt.cells, Pt.slots] at X' e1 e2 h1 h2 h3 st hcl
    subst h1; subst h2; subst h3
    exact Or.inr ⟨q, (T.setVm vm₁).calling g' mk (Value.ref b :: As).toArray, t, U', L, E, ce, hT, X', hL, e1, e2, hq, hce, hcv, vx_cls hW₁ hcl, st⟩
theorem vx_runSX {hh : List (Nat × Nat × Nat × Nat)} (S : CallFix p m c cc nL s args Ts own) (hM : vx_Met l y ws rm Pc Qc XC mc ms free) (cw : vx_CSW R s args own index y bytes maxL ret hh ws rm mc ms n) (hp : PreS s H Pc As)
    (hg : g.method = m) (hn : As.length = n) (hsize : g.locals.size = nL) (hstack : g.stack = As.reverse ++ rest) (hW : 2 * g.monitorRoom + (rest.map fun v => v.category).sum ≤ 8) (hdg : decode cc g.pc = .ok (.invokestatic index, 3)) (hf : cells + mc ≤ R.cells ∧ slots + ms ≤ R.slots) :
    vx_Run p l e R s m args below meth c H locs cells slots mc ms g rest (Qc As.toArray) XC free := by
  obtain ⟨⟨hrc, hrs, hfr, hlo, hws, hcw⟩, hcode, hini, hy, hlen, hl, hstt⟩ := cw
  have hK : vx_Back l R p e below s args y 3 8 (PreOf R mc ms Pc) (PostOf Qc mc ms free) (vx_Post XC mc ms free) := vx_backW (hh := hh) (bytes := bytes) (maxL := maxL) (ret := ret) hM hp.1 hrc hrs hfr hlo hws hcw (fun a' U hW => word_at hW (Or.inl (by first | rfl | simp [Cond.onTables, Cond.keeps, Cond.steady])) hini)
  obtain ⟨hx, hb, hml, ho, -⟩ := S
  intro T hT X
  rcases vx_callSX X hx (hh := hh) (bytes := bytes) (maxL := maxL) (ret := ret) ho hl hstt hini hcode hy hK hg (hsize.trans hml.symm) (argsL := As) (rest := rest) (fun sig h => hn.trans (hlen sig h)) hstack hW (by rw [hb]; exact hdg)
    (fun vm₁ hW₁ => ⟨hf.1, hf.2, hp.2 (T.setVm vm₁) hT hW₁⟩) with ⟨v, vm₁, ⟨U', l2, c2, s2⟩, hW₁, X', ⟨g', mk, t, L, e1, e2, hq, h1, hL, h2, h3⟩, st⟩ | ⟨q, vm₁, ⟨U', l2, c2, s2⟩, hW₁, X', ⟨g', mk, t, L, E, ce, e1, e2, hq, hce, hcv, hcl, h1, hL, h2, h3⟩, st⟩
  · dsimp only [Pt.U, Pt.locs, Pt.cells, Pt.slots] at X' e1 e2 h1 h2 h3 st
    subst h1; subst h2; subst h3
    exact Or.inl ⟨v, (T.setVm vm₁).calling g' mk As.toArray, t, U', L, hT, X', hL, e1, e2, hq, st⟩
  · dsimp only [Pt.U, Pt.locs, Pt.cells, Pt.slots] at X' e1 e2 h1 h2 h3 st hcl
    subst h1; subst h2; subst h3
    exact Or.inr ⟨q, (T.setVm vm₁).calling g' mk As.toArray, t, U', L, E, ce, hT, X', hL, e1, e2, hq, hce, hcv, vx_cls hW₁ hcl, st⟩
end
end VXH
theorem vx_ofWH {l : Launch} {y : MethodName} {ws ws' : List Cond} {rm : Room} {Pc : Array Value → State → Prop} {Qc : Array Value → State → Outcome → State → Prop} {XC : String → State → State → Prop} {mc ms : Nat} {free : Addr → Prop} {cc : ByteArray} {maxL : Nat} {ret : Option FieldType} {hh : List (Nat × Nat × Nat × Nat)}
    (hy : plainName y.cls = true) (hw : ws = Cond.codeWith y cc maxL ret hh :: ws')
    (body : ∀ p e s m args below meth c s₁, BodyLoose p l y (headSpec ws rm) cc maxL ret e s m args below meth c s₁ → c.maxLocals = maxL → Pc args s →
      W p l e (headSpec ws rm).room s m args below meth c s.heap [] 0 0 (vx_MQ below Qc XC args s mc ms free) (entryFrame m args maxL)) : vx_Met l y ws rm Pc Qc XC mc ms free := by
  refine MetFree.of_bodyS (code := cc) (maxLocals := maxL) (ret := ret) hy ?_ ?_
  · intro args s m h hn
    obtain ⟨m9, meth, c, hn9, h1, h2, h3, h4, -, h5, h6, -⟩ := Cond.codeWith_spec (atoms_spec (ws := ws) h _ (by rw [hw]; exact List.mem_cons_self))
    cases hn.symm.trans hn9
    exact ⟨meth, c, h1, h2, h3, h4, h5, h6⟩
  · intro p e s m args below meth c s₁ B hml hP _
    have hh0 : s₁.heap = s.heap := by rw [B.state]; rfl
    obtain ⟨t, a1, o, b1, b2, b3⟩ := body p e s m args below meth c s₁ B hml hP s₁ hh0 (Stand.of_body B)
    exact ⟨t, o, a1, b1, b2, b3⟩
/-! ===== END ===== -/
end
section
/-! ===== BEGIN printed: names, fields, word lists, decode rows ===== -/
def RX0 : String := "OrielChart$Code"
def TX0 : u_T := fun k => match k with
  | 0 => ("OrielChart$Code", "kind", "[I", true)
  | 1 => ("OrielChart$Code", "target", "[I", true)
  | 2 => ("OrielChart$Code", "sets", "[I", true)
  | 3 => ("OrielChart$Code", "uses", "[I", true)
  | _ => ("OrielChart$Code", "count", "I", false)
def tyX0 : Nat → FieldType := fun k => match k with
  | 0 => .array .int
  | 1 => .array .int
  | 2 => .array .int
  | 3 => .array .int
  | _ => .int
abbrev wsX00 : List Cond := u_ws RX0 TX0 5
theorem nmX0 : ∀ a, a < 5 → ∀ b, b < 5 → a ≠ b → (TX0 a).2.1 ≠ (TX0 b).2.1 := by decide +kernel
theorem tyX0_ok : ∀ k, k < 5 → parseFieldDescriptor (TX0 k).2.2.1 = some (tyX0 k) := by decide +kernel
abbrev cX0_init : ByteArray := prog_2_method_1_code
def yX0_init : MethodName := ⟨RX0, "<init>", "()V"⟩
abbrev cX0_add : ByteArray := prog_2_method_2_code
def yX0_add : MethodName := ⟨RX0, "add", "(III)V"⟩
abbrev cX0_drop : ByteArray := prog_2_method_3_code
def yX0_drop : MethodName := ⟨RX0, "drop", "(I)V"⟩
abbrev cX0_shiftTargets : ByteArray := prog_2_method_4_code
def yX0_shiftTargets : MethodName := ⟨RX0, "shiftTargets", "(II)V"⟩
abbrev cX0_copy : ByteArray := prog_2_method_5_code
def yX0_copy : MethodName := ⟨RX0, "copy", "(II)V"⟩
def RX1 : String := "OrielChart$Flow"
def TX1 : u_T := fun k => match k with
  | 0 => ("OrielChart$Flow", "home", "[I", true)
  | 1 => ("OrielChart$Flow", "first", "[I", true)
  | 2 => ("OrielChart$Flow", "last", "[I", true)
  | 3 => ("OrielChart$Flow", "from", "[I", true)
  | 4 => ("OrielChart$Flow", "to", "[I", true)
  | 5 => ("OrielChart$Flow", "firstEdge", "[I", true)
  | 6 => ("OrielChart$Flow", "next", "[J", true)
  | 7 => ("OrielChart$Flow", "blockCount", "I", false)
  | 8 => ("OrielChart$Flow", "edgeCount", "I", false)
  | 9 => ("OrielChart$Flow", "reached", "J", false)
  | _ => ("OrielChart$Flow", "fresh", "Z", false)
def tyX1 : Nat → FieldType := fun k => match k with
  | 0 => .array .int
  | 1 => .array .int
  | 2 => .array .int
  | 3 => .array .int
  | 4 => .array .int
  | 5 => .array .int
  | 6 => .array .long
  | 7 => .int
  | 8 => .int
  | 9 => .long
  | _ => .boolean
abbrev wsX10 : List Cond := u_ws RX1 TX1 11
theorem nmX1 : ∀ a, a < 11 → ∀ b, b < 11 → a ≠ b → (TX1 a).2.1 ≠ (TX1 b).2.1 := by decide +kernel
theorem tyX1_ok : ∀ k, k < 11 → parseFieldDescriptor (TX1 k).2.2.1 = some (tyX1 k) := by decide +kernel
abbrev cX1_init : ByteArray := prog_3_method_1_code
def yX1_init : MethodName := ⟨RX1, "<init>", "()V"⟩
abbrev cX1_part : ByteArray := prog_3_method_2_code
def yX1_part : MethodName := ⟨RX1, "part", "(LOrielChart$Code;)V"⟩
abbrev cX1_leadersOf : ByteArray := prog_3_method_3_code
def yX1_leadersOf : MethodName := ⟨RX1, "leadersOf", "(LOrielChart$Code;)J"⟩
abbrev cX1_cut : ByteArray := prog_3_method_4_code
def yX1_cut : MethodName := ⟨RX1, "cut", "(IJ)V"⟩
abbrev cX1_leave : ByteArray := prog_3_method_5_code
def yX1_leave : MethodName := ⟨RX1, "leave", "(LOrielChart$Code;I)V"⟩
abbrev cX1_join : ByteArray := prog_3_method_6_code
def yX1_join : MethodName := ⟨RX1, "join", "(III)V"⟩
abbrev cX1_mustPass : ByteArray := prog_3_method_7_code
def yX1_mustPass : MethodName := ⟨RX1, "mustPass", "(II)Z"⟩
abbrev cX1_countWindings : ByteArray := prog_3_method_8_code
def yX1_countWindings : MethodName := ⟨RX1, "countWindings", "()I"⟩
def RX2 : String := "OrielChart$Lives"
def TX2 : u_T := fun k => match k with
  | 0 => ("OrielChart$Lives", "live", "[I", true)
  | 1 => ("OrielChart$Lives", "vainCount", "I", false)
  | _ => ("OrielChart$Lives", "fresh", "Z", false)
def tyX2 : Nat → FieldType := fun k => match k with
  | 0 => .array .int
  | 1 => .int
  | _ => .boolean
abbrev wsX20 : List Cond := u_ws RX2 TX2 3
theorem nmX2 : ∀ a, a < 3 → ∀ b, b < 3 → a ≠ b → (TX2 a).2.1 ≠ (TX2 b).2.1 := by decide +kernel
theorem tyX2_ok : ∀ k, k < 3 → parseFieldDescriptor (TX2 k).2.2.1 = some (tyX2 k) := by decide +kernel
abbrev cX2_init : ByteArray := prog_4_method_1_code
def yX2_init : MethodName := ⟨RX2, "<init>", "()V"⟩
abbrev cX2_follow : ByteArray := prog_4_method_2_code
def yX2_follow : MethodName := ⟨RX2, "follow", "(LOrielChart$Code;LOrielChart$Flow;)V"⟩
abbrev cX2_passUp : ByteArray := prog_4_method_3_code
def yX2_passUp : MethodName := ⟨RX2, "passUp", "(LOrielChart$Code;LOrielChart$Flow;)Z"⟩
abbrev cX2_vainIn : ByteArray := prog_4_method_4_code
def yX2_vainIn : MethodName := ⟨RX2, "vainIn", "(LOrielChart$Code;LOrielChart$Flow;I)I"⟩
abbrev cX2_behind : ByteArray := prog_4_method_5_code
def yX2_behind : MethodName := ⟨RX2, "behind", "(LOrielChart$Flow;I)I"⟩
abbrev cX2_ahead : ByteArray := prog_4_method_6_code
def yX2_ahead : MethodName := ⟨RX2, "ahead", "(LOrielChart$Code;II)I"⟩
def RX3 : String := "OrielChart$Picture"
def TX3 : u_T := fun k => match k with
  | 0 => ("OrielChart$Picture", "walk", "LOrielChart$Walk;", true)
  | 1 => ("OrielChart$Picture", "layer", "[I", true)
  | 2 => ("OrielChart$Picture", "start", "[I", true)
  | 3 => ("OrielChart$Picture", "firstBend", "[I", true)
  | 4 => ("OrielChart$Picture", "edgeOf", "[I", true)
  | 5 => ("OrielChart$Picture", "order", "[I", true)
  | 6 => ("OrielChart$Picture", "place", "[I", true)
  | 7 => ("OrielChart$Picture", "kept", "[I", true)
  | 8 => ("OrielChart$Picture", "sum", "[I", true)
  | 9 => ("OrielChart$Picture", "lines", "[I", true)
  | 10 => ("OrielChart$Picture", "above", "[I", true)
  | 11 => ("OrielChart$Picture", "below", "[I", true)
  | 12 => ("OrielChart$Picture", "edgeCount", "I", false)
  | 13 => ("OrielChart$Picture", "layerCount", "I", false)
  | 14 => ("OrielChart$Picture", "sweeps", "I", false)
  | _ => ("OrielChart$Picture", "fresh", "Z", false)
def tyX3 : Nat → FieldType := fun k => match k with
  | 0 => .object "OrielChart$Walk"
  | 1 => .array .int
  | 2 => .array .int
  | 3 => .array .int
  | 4 => .array .int
  | 5 => .array .int
  | 6 => .array .int
  | 7 => .array .int
  | 8 => .array .int
  | 9 => .array .int
  | 10 => .array .int
  | 11 => .array .int
  | 12 => .int
  | 13 => .int
  | 14 => .int
  | _ => .boolean
abbrev wsX30 : List Cond := u_ws RX3 TX3 16
theorem nmX3 : ∀ a, a < 16 → ∀ b, b < 16 → a ≠ b → (TX3 a).2.1 ≠ (TX3 b).2.1 := by decide +kernel
theorem tyX3_ok : ∀ k, k < 16 → parseFieldDescriptor (TX3 k).2.2.1 = some (tyX3 k) := by decide +kernel
abbrev cX3_init : ByteArray := prog_5_method_1_code
def yX3_init : MethodName := ⟨RX3, "<init>", "()V"⟩
abbrev cX3_draw : ByteArray := prog_5_method_2_code
def yX3_draw : MethodName := ⟨RX3, "draw", "(LOrielChart$Flow;)V"⟩
abbrev cX3_setLayers : ByteArray := prog_5_method_3_code
def yX3_setLayers : MethodName := ⟨RX3, "setLayers", "()V"⟩
abbrev cX3_pushDown : ByteArray := prog_5_method_4_code
def yX3_pushDown : MethodName := ⟨RX3, "pushDown", "()Z"⟩
abbrev cX3_top : ByteArray := prog_5_method_5_code
def yX3_top : MethodName := ⟨RX3, "top", "(I)I"⟩
abbrev cX3_bottom : ByteArray := prog_5_method_6_code
def yX3_bottom : MethodName := ⟨RX3, "bottom", "(I)I"⟩
abbrev cX3_numberBends : ByteArray := prog_5_method_7_code
def yX3_numberBends : MethodName := ⟨RX3, "numberBends", "()V"⟩
abbrev cX3_fill : ByteArray := prog_5_method_8_code
def yX3_fill : MethodName := ⟨RX3, "fill", "(II)I"⟩
abbrev cX3_putPoint : ByteArray := prog_5_method_9_code
def yX3_putPoint : MethodName := ⟨RX3, "putPoint", "(III)V"⟩
abbrev cX3_sizeOf : ByteArray := prog_5_method_10_code
def yX3_sizeOf : MethodName := ⟨RX3, "sizeOf", "(I)I"⟩
abbrev cX3_shownAt : ByteArray := prog_5_method_11_code
def yX3_shownAt : MethodName := ⟨RX3, "shownAt", "(II)I"⟩
abbrev cX3_placeOfBlock : ByteArray := prog_5_method_12_code
def yX3_placeOfBlock : MethodName := ⟨RX3, "placeOfBlock", "(I)I"⟩
abbrev cX3_bendCount : ByteArray := prog_5_method_13_code
def yX3_bendCount : MethodName := ⟨RX3, "bendCount", "(I)I"⟩
abbrev cX3_placeOfBend : ByteArray := prog_5_method_14_code
def yX3_placeOfBend : MethodName := ⟨RX3, "placeOfBend", "(II)I"⟩
abbrev cX3_meanSpan : ByteArray := prog_5_method_15_code
def yX3_meanSpan : MethodName := ⟨RX3, "meanSpan", "()D"⟩
abbrev cX3_pointOn : ByteArray := prog_5_method_16_code
def yX3_pointOn : MethodName := ⟨RX3, "pointOn", "(II)I"⟩
abbrev cX3_leaves : ByteArray := prog_5_method_17_code
def yX3_leaves : MethodName := ⟨RX3, "leaves", "(II)Z"⟩
abbrev cX3_countCrossings : ByteArray := prog_5_method_18_code
def yX3_countCrossings : MethodName := ⟨RX3, "countCrossings", "()I"⟩
abbrev cX3_crossingsUnder : ByteArray := prog_5_method_19_code
def yX3_crossingsUnder : MethodName := ⟨RX3, "crossingsUnder", "(I)I"⟩
abbrev cX3_sweepOften : ByteArray := prog_5_method_20_code
def yX3_sweepOften : MethodName := ⟨RX3, "sweepOften", "(I)V"⟩
abbrev cX3_tryOut : ByteArray := prog_5_method_21_code
def yX3_tryOut : MethodName := ⟨RX3, "tryOut", "(I)I"⟩
abbrev cX3_arrange : ByteArray := prog_5_method_22_code
def yX3_arrange : MethodName := ⟨RX3, "arrange", "(II)V"⟩
abbrev cX3_weigh : ByteArray := prog_5_method_23_code
def yX3_weigh : MethodName := ⟨RX3, "weigh", "(III)V"⟩
abbrev cX3_isAhead : ByteArray := prog_5_method_24_code
def yX3_isAhead : MethodName := ⟨RX3, "isAhead", "(II)Z"⟩
def RX4 : String := "OrielChart$Ranks"
def TX4 : u_T := fun k => match k with
  | 0 => ("OrielChart$Ranks", "ruled", "[J", true)
  | 1 => ("OrielChart$Ranks", "loop", "[J", true)
  | 2 => ("OrielChart$Ranks", "previous", "[J", true)
  | 3 => ("OrielChart$Ranks", "onward", "[J", true)
  | 4 => ("OrielChart$Ranks", "loopCount", "I", false)
  | 5 => ("OrielChart$Ranks", "tame", "Z", false)
  | _ => ("OrielChart$Ranks", "fresh", "Z", false)
def tyX4 : Nat → FieldType := fun k => match k with
  | 0 => .array .long
  | 1 => .array .long
  | 2 => .array .long
  | 3 => .array .long
  | 4 => .int
  | 5 => .boolean
  | _ => .boolean
abbrev wsX40 : List Cond := u_ws RX4 TX4 7
theorem nmX4 : ∀ a, a < 7 → ∀ b, b < 7 → a ≠ b → (TX4 a).2.1 ≠ (TX4 b).2.1 := by decide +kernel
theorem tyX4_ok : ∀ k, k < 7 → parseFieldDescriptor (TX4 k).2.2.1 = some (tyX4 k) := by decide +kernel
abbrev cX4_init : ByteArray := prog_6_method_1_code
def yX4_init : MethodName := ⟨RX4, "<init>", "()V"⟩
abbrev cX4_rank : ByteArray := prog_6_method_2_code
def yX4_rank : MethodName := ⟨RX4, "rank", "(LOrielChart$Flow;)V"⟩
abbrev cX4_ruledBy : ByteArray := prog_6_method_3_code
def yX4_ruledBy : MethodName := ⟨RX4, "ruledBy", "(LOrielChart$Flow;I)J"⟩
abbrev cX4_sortEdges : ByteArray := prog_6_method_4_code
def yX4_sortEdges : MethodName := ⟨RX4, "sortEdges", "(LOrielChart$Flow;)V"⟩
abbrev cX4_closeLoop : ByteArray := prog_6_method_5_code
def yX4_closeLoop : MethodName := ⟨RX4, "closeLoop", "(I)V"⟩
abbrev cX4_rules : ByteArray := prog_6_method_6_code
def yX4_rules : MethodName := ⟨RX4, "rules", "(II)Z"⟩
abbrev cX4_nearestAbove : ByteArray := prog_6_method_7_code
def yX4_nearestAbove : MethodName := ⟨RX4, "nearestAbove", "(I)I"⟩
abbrev cX4_goesBack : ByteArray := prog_6_method_8_code
def yX4_goesBack : MethodName := ⟨RX4, "goesBack", "(LOrielChart$Flow;I)Z"⟩
abbrev cX4_loopsAround : ByteArray := prog_6_method_9_code
def yX4_loopsAround : MethodName := ⟨RX4, "loopsAround", "(I)I"⟩
def RX5 : String := "OrielChart$Reduction"
def TX5 : u_T := fun k => match k with
  | 0 => ("OrielChart$Reduction", "next", "[J", true)
  | 1 => ("OrielChart$Reduction", "home", "[I", true)
  | 2 => ("OrielChart$Reduction", "rule", "[I", true)
  | 3 => ("OrielChart$Reduction", "node", "[I", true)
  | 4 => ("OrielChart$Reduction", "entry", "[I", true)
  | 5 => ("OrielChart$Reduction", "nodes", "J", false)
  | 6 => ("OrielChart$Reduction", "stepCount", "I", false)
  | _ => ("OrielChart$Reduction", "fresh", "Z", false)
def tyX5 : Nat → FieldType := fun k => match k with
  | 0 => .array .long
  | 1 => .array .int
  | 2 => .array .int
  | 3 => .array .int
  | 4 => .array .int
  | 5 => .long
  | 6 => .int
  | _ => .boolean
abbrev wsX50 : List Cond := u_ws RX5 TX5 8
theorem nmX5 : ∀ a, a < 8 → ∀ b, b < 8 → a ≠ b → (TX5 a).2.1 ≠ (TX5 b).2.1 := by decide +kernel
theorem tyX5_ok : ∀ k, k < 8 → parseFieldDescriptor (TX5 k).2.2.1 = some (tyX5 k) := by decide +kernel
abbrev cX5_init : ByteArray := prog_7_method_1_code
def yX5_init : MethodName := ⟨RX5, "<init>", "()V"⟩
abbrev cX5_reduce : ByteArray := prog_7_method_2_code
def yX5_reduce : MethodName := ⟨RX5, "reduce", "(LOrielChart$Flow;)V"⟩
abbrev cX5_takeStep : ByteArray := prog_7_method_3_code
def yX5_takeStep : MethodName := ⟨RX5, "takeStep", "()Z"⟩
abbrev cX5_findEntries : ByteArray := prog_7_method_4_code
def yX5_findEntries : MethodName := ⟨RX5, "findEntries", "()V"⟩
abbrev cX5_ruleFor : ByteArray := prog_7_method_5_code
def yX5_ruleFor : MethodName := ⟨RX5, "ruleFor", "(I)I"⟩
abbrev cX5_isSingle : ByteArray := prog_7_method_6_code
def yX5_isSingle : MethodName := ⟨RX5, "isSingle", "(III)Z"⟩
abbrev cX5_isDouble : ByteArray := prog_7_method_7_code
def yX5_isDouble : MethodName := ⟨RX5, "isDouble", "(III)Z"⟩
abbrev cX5_apply : ByteArray := prog_7_method_8_code
def yX5_apply : MethodName := ⟨RX5, "apply", "(II)V"⟩
abbrev cX5_merge : ByteArray := prog_7_method_9_code
def yX5_merge : MethodName := ⟨RX5, "merge", "(JIZ)V"⟩
def RX6 : String := "OrielChart$Walk"
def TX6 : u_T := fun k => match k with
  | 0 => ("OrielChart$Walk", "came", "[I", true)
  | 1 => ("OrielChart$Walk", "upper", "[I", true)
  | 2 => ("OrielChart$Walk", "lower", "[I", true)
  | 3 => ("OrielChart$Walk", "open", "[I", true)
  | 4 => ("OrielChart$Walk", "edge", "[I", true)
  | 5 => ("OrielChart$Walk", "cameCount", "I", false)
  | 6 => ("OrielChart$Walk", "openCount", "I", false)
  | 7 => ("OrielChart$Walk", "seen", "J", false)
  | _ => ("OrielChart$Walk", "stillGoing", "J", false)
def tyX6 : Nat → FieldType := fun k => match k with
  | 0 => .array .int
  | 1 => .array .int
  | 2 => .array .int
  | 3 => .array .int
  | 4 => .array .int
  | 5 => .int
  | 6 => .int
  | 7 => .long
  | _ => .long
abbrev wsX60 : List Cond := u_ws RX6 TX6 9
theorem nmX6 : ∀ a, a < 9 → ∀ b, b < 9 → a ≠ b → (TX6 a).2.1 ≠ (TX6 b).2.1 := by decide +kernel
theorem tyX6_ok : ∀ k, k < 9 → parseFieldDescriptor (TX6 k).2.2.1 = some (tyX6 k) := by decide +kernel
abbrev cX6_init : ByteArray := prog_8_method_1_code
def yX6_init : MethodName := ⟨RX6, "<init>", "()V"⟩
abbrev cX6_goThrough : ByteArray := prog_8_method_2_code
def yX6_goThrough : MethodName := ⟨RX6, "goThrough", "(LOrielChart$Flow;)V"⟩
abbrev cX6_enter : ByteArray := prog_8_method_3_code
def yX6_enter : MethodName := ⟨RX6, "enter", "(LOrielChart$Flow;I)V"⟩
abbrev cX6_goOn : ByteArray := prog_8_method_4_code
def yX6_goOn : MethodName := ⟨RX6, "goOn", "(LOrielChart$Flow;I)V"⟩
abbrev cX6_draws : ByteArray := prog_8_method_5_code
def yX6_draws : MethodName := ⟨RX6, "draws", "(I)Z"⟩
abbrev cX6_turns : ByteArray := prog_8_method_6_code
def yX6_turns : MethodName := ⟨RX6, "turns", "(LOrielChart$Flow;I)Z"⟩
def RX7 : String := "OrielChart"
def TX7 : u_T := fun k => match k with
  | 0 => ("OrielChart", "code", "LOrielChart$Code;", true)
  | 1 => ("OrielChart", "flow", "LOrielChart$Flow;", true)
  | 2 => ("OrielChart", "ranks", "LOrielChart$Ranks;", true)
  | 3 => ("OrielChart", "lives", "LOrielChart$Lives;", true)
  | 4 => ("OrielChart", "reduction", "LOrielChart$Reduction;", true)
  | _ => ("OrielChart", "picture", "LOrielChart$Picture;", true)
def tyX7 : Nat → FieldType := fun k => match k with
  | 0 => .object "OrielChart$Code"
  | 1 => .object "OrielChart$Flow"
  | 2 => .object "OrielChart$Ranks"
  | 3 => .object "OrielChart$Lives"
  | 4 => .object "OrielChart$Reduction"
  | _ => .object "OrielChart$Picture"
abbrev wsX70 : List Cond := u_ws RX7 TX7 6
theorem nmX7 : ∀ a, a < 6 → ∀ b, b < 6 → a ≠ b → (TX7 a).2.1 ≠ (TX7 b).2.1 := by decide +kernel
theorem tyX7_ok : ∀ k, k < 6 → parseFieldDescriptor (TX7 k).2.2.1 = some (tyX7 k) := by decide +kernel
abbrev cX7_init : ByteArray := prog_1_method_1_code
def yX7_init : MethodName := ⟨RX7, "<init>", "()V"⟩
abbrev cX7_insert : ByteArray := prog_1_method_2_code
def yX7_insert : MethodName := ⟨RX7, "insert", "(III)I"⟩
abbrev cX7_remove : ByteArray := prog_1_method_3_code
def yX7_remove : MethodName := ⟨RX7, "remove", "(I)I"⟩
abbrev cX7_setTarget : ByteArray := prog_1_method_4_code
def yX7_setTarget : MethodName := ⟨RX7, "setTarget", "(II)I"⟩
abbrev cX7_setUse : ByteArray := prog_1_method_5_code
def yX7_setUse : MethodName := ⟨RX7, "setUse", "(III)I"⟩
abbrev cX7_instructions : ByteArray := prog_1_method_6_code
def yX7_instructions : MethodName := ⟨RX7, "instructions", "()I"⟩
abbrev cX7_kindOf : ByteArray := prog_1_method_7_code
def yX7_kindOf : MethodName := ⟨RX7, "kindOf", "(I)I"⟩
abbrev cX7_targetOf : ByteArray := prog_1_method_8_code
def yX7_targetOf : MethodName := ⟨RX7, "targetOf", "(I)I"⟩
abbrev cX7_blocks : ByteArray := prog_1_method_9_code
def yX7_blocks : MethodName := ⟨RX7, "blocks", "()I"⟩
abbrev cX7_blockOf : ByteArray := prog_1_method_10_code
def yX7_blockOf : MethodName := ⟨RX7, "blockOf", "(I)I"⟩
abbrev cX7_firstOf : ByteArray := prog_1_method_11_code
def yX7_firstOf : MethodName := ⟨RX7, "firstOf", "(I)I"⟩
abbrev cX7_isReached : ByteArray := prog_1_method_12_code
def yX7_isReached : MethodName := ⟨RX7, "isReached", "(I)Z"⟩
abbrev cX7_edges : ByteArray := prog_1_method_13_code
def yX7_edges : MethodName := ⟨RX7, "edges", "()I"⟩
abbrev cX7_edgeFrom : ByteArray := prog_1_method_14_code
def yX7_edgeFrom : MethodName := ⟨RX7, "edgeFrom", "(I)I"⟩
abbrev cX7_edgeTo : ByteArray := prog_1_method_15_code
def yX7_edgeTo : MethodName := ⟨RX7, "edgeTo", "(I)I"⟩
abbrev cX7_dominates : ByteArray := prog_1_method_16_code
def yX7_dominates : MethodName := ⟨RX7, "dominates", "(II)Z"⟩
abbrev cX7_parentOf : ByteArray := prog_1_method_17_code
def yX7_parentOf : MethodName := ⟨RX7, "parentOf", "(I)I"⟩
abbrev cX7_comesBehind : ByteArray := prog_1_method_18_code
def yX7_comesBehind : MethodName := ⟨RX7, "comesBehind", "(II)Z"⟩
abbrev cX7_isBack : ByteArray := prog_1_method_19_code
def yX7_isBack : MethodName := ⟨RX7, "isBack", "(I)Z"⟩
abbrev cX7_loops : ByteArray := prog_1_method_20_code
def yX7_loops : MethodName := ⟨RX7, "loops", "()I"⟩
abbrev cX7_loopSize : ByteArray := prog_1_method_21_code
def yX7_loopSize : MethodName := ⟨RX7, "loopSize", "(I)I"⟩
abbrev cX7_depthOf : ByteArray := prog_1_method_22_code
def yX7_depthOf : MethodName := ⟨RX7, "depthOf", "(I)I"⟩
abbrev cX7_isTame : ByteArray := prog_1_method_23_code
def yX7_isTame : MethodName := ⟨RX7, "isTame", "()Z"⟩
abbrev cX7_liveIn : ByteArray := prog_1_method_24_code
def yX7_liveIn : MethodName := ⟨RX7, "liveIn", "(I)I"⟩
abbrev cX7_vain : ByteArray := prog_1_method_25_code
def yX7_vain : MethodName := ⟨RX7, "vain", "()I"⟩
abbrev cX7_windings : ByteArray := prog_1_method_26_code
def yX7_windings : MethodName := ⟨RX7, "windings", "()I"⟩
abbrev cX7_steps : ByteArray := prog_1_method_27_code
def yX7_steps : MethodName := ⟨RX7, "steps", "()I"⟩
abbrev cX7_ruleOf : ByteArray := prog_1_method_28_code
def yX7_ruleOf : MethodName := ⟨RX7, "ruleOf", "(I)I"⟩
abbrev cX7_nodeOf : ByteArray := prog_1_method_29_code
def yX7_nodeOf : MethodName := ⟨RX7, "nodeOf", "(I)I"⟩
abbrev cX7_left : ByteArray := prog_1_method_30_code
def yX7_left : MethodName := ⟨RX7, "left", "()I"⟩
abbrev cX7_isNeat : ByteArray := prog_1_method_31_code
def yX7_isNeat : MethodName := ⟨RX7, "isNeat", "()Z"⟩
abbrev cX7_endsIn : ByteArray := prog_1_method_32_code
def yX7_endsIn : MethodName := ⟨RX7, "endsIn", "(I)I"⟩
abbrev cX7_layers : ByteArray := prog_1_method_33_code
def yX7_layers : MethodName := ⟨RX7, "layers", "()I"⟩
abbrev cX7_layerOf : ByteArray := prog_1_method_34_code
def yX7_layerOf : MethodName := ⟨RX7, "layerOf", "(I)I"⟩
abbrev cX7_isTurned : ByteArray := prog_1_method_35_code
def yX7_isTurned : MethodName := ⟨RX7, "isTurned", "(I)Z"⟩
abbrev cX7_points : ByteArray := prog_1_method_36_code
def yX7_points : MethodName := ⟨RX7, "points", "(I)I"⟩
abbrev cX7_pointAt : ByteArray := prog_1_method_37_code
def yX7_pointAt : MethodName := ⟨RX7, "pointAt", "(II)I"⟩
abbrev cX7_placeOf : ByteArray := prog_1_method_38_code
def yX7_placeOf : MethodName := ⟨RX7, "placeOf", "(I)I"⟩
abbrev cX7_bends : ByteArray := prog_1_method_39_code
def yX7_bends : MethodName := ⟨RX7, "bends", "(I)I"⟩
abbrev cX7_bendAt : ByteArray := prog_1_method_40_code
def yX7_bendAt : MethodName := ⟨RX7, "bendAt", "(II)I"⟩
abbrev cX7_crossings : ByteArray := prog_1_method_41_code
def yX7_crossings : MethodName := ⟨RX7, "crossings", "()I"⟩
abbrev cX7_sweep : ByteArray := prog_1_method_42_code
def yX7_sweep : MethodName := ⟨RX7, "sweep", "(I)I"⟩
abbrev cX7_wouldCross : ByteArray := prog_1_method_43_code
def yX7_wouldCross : MethodName := ⟨RX7, "wouldCross", "(I)I"⟩
abbrev cX7_swept : ByteArray := prog_1_method_44_code
def yX7_swept : MethodName := ⟨RX7, "swept", "()I"⟩
abbrev cX7_meanLength : ByteArray := prog_1_method_45_code
def yX7_meanLength : MethodName := ⟨RX7, "meanLength", "()D"⟩
abbrev cX7_digest : ByteArray := prog_1_method_46_code
def yX7_digest : MethodName := ⟨RX7, "digest", "()J"⟩
abbrev cX7_digestOfCode : ByteArray := prog_1_method_47_code
def yX7_digestOfCode : MethodName := ⟨RX7, "digestOfCode", "(J)J"⟩
abbrev cX7_digestOfBlocks : ByteArray := prog_1_method_48_code
def yX7_digestOfBlocks : MethodName := ⟨RX7, "digestOfBlocks", "(J)J"⟩
abbrev cX7_digestOfEdges : ByteArray := prog_1_method_49_code
def yX7_digestOfEdges : MethodName := ⟨RX7, "digestOfEdges", "(J)J"⟩
abbrev cX7_digestOfSteps : ByteArray := prog_1_method_50_code
def yX7_digestOfSteps : MethodName := ⟨RX7, "digestOfSteps", "(J)J"⟩
abbrev cX7_digestOfLayers : ByteArray := prog_1_method_51_code
def yX7_digestOfLayers : MethodName := ⟨RX7, "digestOfLayers", "(J)J"⟩
abbrev cX7_needInstruction : ByteArray := prog_1_method_52_code
def yX7_needInstruction : MethodName := ⟨RX7, "needInstruction", "(I)V"⟩
abbrev cX7_needBlock : ByteArray := prog_1_method_53_code
def yX7_needBlock : MethodName := ⟨RX7, "needBlock", "(I)V"⟩
abbrev cX7_needEdge : ByteArray := prog_1_method_54_code
def yX7_needEdge : MethodName := ⟨RX7, "needEdge", "(I)V"⟩
abbrev cX7_needStep : ByteArray := prog_1_method_55_code
def yX7_needStep : MethodName := ⟨RX7, "needStep", "(I)V"⟩
abbrev cX7_needLayer : ByteArray := prog_1_method_56_code
def yX7_needLayer : MethodName := ⟨RX7, "needLayer", "(I)V"⟩
abbrev cX7_needSweeps : ByteArray := prog_1_method_57_code
def yX7_needSweeps : MethodName := ⟨RX7, "needSweeps", "(I)V"⟩
abbrev cX7_isTarget : ByteArray := prog_1_method_58_code
def yX7_isTarget : MethodName := ⟨RX7, "isTarget", "(I)Z"⟩
abbrev cX7_forget : ByteArray := prog_1_method_59_code
def yX7_forget : MethodName := ⟨RX7, "forget", "()V"⟩
abbrev cX7_freshFlow : ByteArray := prog_1_method_60_code
def yX7_freshFlow : MethodName := ⟨RX7, "freshFlow", "()LOrielChart$Flow;"⟩
abbrev cX7_freshRanks : ByteArray := prog_1_method_61_code
def yX7_freshRanks : MethodName := ⟨RX7, "freshRanks", "()LOrielChart$Ranks;"⟩
abbrev cX7_freshLives : ByteArray := prog_1_method_62_code
def yX7_freshLives : MethodName := ⟨RX7, "freshLives", "()LOrielChart$Lives;"⟩
abbrev cX7_freshReduction : ByteArray := prog_1_method_63_code
def yX7_freshReduction : MethodName := ⟨RX7, "freshReduction", "()LOrielChart$Reduction;"⟩
abbrev cX7_freshPicture : ByteArray := prog_1_method_64_code
def yX7_freshPicture : MethodName := ⟨RX7, "freshPicture", "()LOrielChart$Picture;"⟩
abbrev cX7_at : ByteArray := prog_1_method_65_code
def yX7_at : MethodName := ⟨RX7, "at", "([II)I"⟩
abbrev cX7_at_ : ByteArray := prog_1_method_66_code
def yX7_at_ : MethodName := ⟨RX7, "at", "([JI)J"⟩
abbrev cX7_put : ByteArray := prog_1_method_67_code
def yX7_put : MethodName := ⟨RX7, "put", "([III)V"⟩
abbrev cX7_put_ : ByteArray := prog_1_method_68_code
def yX7_put_ : MethodName := ⟨RX7, "put", "([JIJ)V"⟩
abbrev cX7_bit : ByteArray := prog_1_method_69_code
def yX7_bit : MethodName := ⟨RX7, "bit", "(I)J"⟩
abbrev cX7_has : ByteArray := prog_1_method_70_code
def yX7_has : MethodName := ⟨RX7, "has", "(JI)Z"⟩
abbrev cX7_lowest : ByteArray := prog_1_method_71_code
def yX7_lowest : MethodName := ⟨RX7, "lowest", "(J)I"⟩
abbrev cX7_spread : ByteArray := prog_1_method_72_code
def yX7_spread : MethodName := ⟨RX7, "spread", "([JJJ)J"⟩
abbrev cX7_jumps : ByteArray := prog_1_method_73_code
def yX7_jumps : MethodName := ⟨RX7, "jumps", "(I)Z"⟩
abbrev cX7_mix : ByteArray := prog_1_method_74_code
def yX7_mix : MethodName := ⟨RX7, "mix", "(JI)J"⟩
abbrev cX7_mix_ : ByteArray := prog_1_method_75_code
def yX7_mix_ : MethodName := ⟨RX7, "mix", "(JZ)J"⟩
def RX8 : String := "OrielChartModel"
def TX8 : u_T := fun k => match k with
  | 0 => ("OrielChartModel", "thrown", "I", false)
  | 1 => ("OrielChartModel", "many", "I", false)
  | 2 => ("OrielChartModel", "kind", "[I", true)
  | 3 => ("OrielChartModel", "target", "[I", true)
  | 4 => ("OrielChartModel", "sets", "[I", true)
  | 5 => ("OrielChartModel", "uses", "[I", true)
  | 6 => ("OrielChartModel", "isLaid", "Z", false)
  | 7 => ("OrielChartModel", "blocks", "I", false)
  | 8 => ("OrielChartModel", "edges", "I", false)
  | 9 => ("OrielChartModel", "blockOf", "[I", true)
  | 10 => ("OrielChartModel", "first", "[I", true)
  | 11 => ("OrielChartModel", "from", "[I", true)
  | 12 => ("OrielChartModel", "to", "[I", true)
  | 13 => ("OrielChartModel", "reached", "J", false)
  | 14 => ("OrielChartModel", "spared", "[J", true)
  | 15 => ("OrielChartModel", "loop", "[J", true)
  | 16 => ("OrielChartModel", "live", "[I", true)
  | 17 => ("OrielChartModel", "goes", "[J", true)
  | 18 => ("OrielChartModel", "endsIn", "[I", true)
  | 19 => ("OrielChartModel", "rule", "[I", true)
  | 20 => ("OrielChartModel", "ruled", "[I", true)
  | 21 => ("OrielChartModel", "steps", "I", false)
  | 22 => ("OrielChartModel", "nodes", "J", false)
  | 23 => ("OrielChartModel", "state", "[I", true)
  | 24 => ("OrielChartModel", "came", "[I", true)
  | 25 => ("OrielChartModel", "met", "I", false)
  | 26 => ("OrielChartModel", "isTurned", "[Z", true)
  | 27 => ("OrielChartModel", "layer", "[I", true)
  | 28 => ("OrielChartModel", "layers", "I", false)
  | 29 => ("OrielChartModel", "order", "[[I", false)
  | 30 => ("OrielChartModel", "swept", "I", false)
  | _ => ("OrielChartModel", "sum", "J", false)
def tyX8 : Nat → FieldType := fun k => match k with
  | 0 => .int
  | 1 => .int
  | 2 => .array .int
  | 3 => .array .int
  | 4 => .array .int
  | 5 => .array .int
  | 6 => .boolean
  | 7 => .int
  | 8 => .int
  | 9 => .array .int
  | 10 => .array .int
  | 11 => .array .int
  | 12 => .array .int
  | 13 => .long
  | 14 => .array .long
  | 15 => .array .long
  | 16 => .array .int
  | 17 => .array .long
  | 18 => .array .int
  | 19 => .array .int
  | 20 => .array .int
  | 21 => .int
  | 22 => .long
  | 23 => .array .int
  | 24 => .array .int
  | 25 => .int
  | 26 => .array .boolean
  | 27 => .array .int
  | 28 => .int
  | 29 => .array (.array .int)
  | 30 => .int
  | _ => .long
abbrev wsX80 : List Cond := u_ws RX8 TX8 32
theorem nmX8 : ∀ a, a < 32 → ∀ b, b < 32 → a ≠ b → (TX8 a).2.1 ≠ (TX8 b).2.1 := by decide +kernel
theorem tyX8_ok : ∀ k, k < 32 → parseFieldDescriptor (TX8 k).2.2.1 = some (tyX8 k) := by decide +kernel
abbrev cX8_init : ByteArray := prog_10_method_1_code
def yX8_init : MethodName := ⟨RX8, "<init>", "()V"⟩
abbrev cX8_thrown : ByteArray := prog_10_method_2_code
def yX8_thrown : MethodName := ⟨RX8, "thrown", "()I"⟩
abbrev cX8_refuse : ByteArray := prog_10_method_3_code
def yX8_refuse : MethodName := ⟨RX8, "refuse", "(I)I"⟩
abbrev cX8_is : ByteArray := prog_10_method_4_code
def yX8_is : MethodName := ⟨RX8, "is", "(III)Z"⟩
abbrev cX8_has : ByteArray := prog_10_method_5_code
def yX8_has : MethodName := ⟨RX8, "has", "(JI)Z"⟩
abbrev cX8_isLeader : ByteArray := prog_10_method_6_code
def yX8_isLeader : MethodName := ⟨RX8, "isLeader", "(I)Z"⟩
abbrev cX8_blockAt : ByteArray := prog_10_method_7_code
def yX8_blockAt : MethodName := ⟨RX8, "blockAt", "(I)I"⟩
abbrev cX8_addEdge : ByteArray := prog_10_method_8_code
def yX8_addEdge : MethodName := ⟨RX8, "addEdge", "(II)V"⟩
abbrev cX8_lay : ByteArray := prog_10_method_9_code
def yX8_lay : MethodName := ⟨RX8, "lay", "()V"⟩
abbrev cX8_reachedFrom : ByteArray := prog_10_method_10_code
def yX8_reachedFrom : MethodName := ⟨RX8, "reachedFrom", "(IJ)J"⟩
abbrev cX8_comesToExit : ByteArray := prog_10_method_11_code
def yX8_comesToExit : MethodName := ⟨RX8, "comesToExit", "(IJ)Z"⟩
abbrev cX8_isGraph : ByteArray := prog_10_method_12_code
def yX8_isGraph : MethodName := ⟨RX8, "isGraph", "(I)Z"⟩
abbrev cX8_isReachedNow : ByteArray := prog_10_method_13_code
def yX8_isReachedNow : MethodName := ⟨RX8, "isReachedNow", "(I)Z"⟩
abbrev cX8_dominatesNow : ByteArray := prog_10_method_14_code
def yX8_dominatesNow : MethodName := ⟨RX8, "dominatesNow", "(II)Z"⟩
abbrev cX8_parentNow : ByteArray := prog_10_method_15_code
def yX8_parentNow : MethodName := ⟨RX8, "parentNow", "(I)I"⟩
abbrev cX8_isBackNow : ByteArray := prog_10_method_16_code
def yX8_isBackNow : MethodName := ⟨RX8, "isBackNow", "(I)Z"⟩
abbrev cX8_loopOf : ByteArray := prog_10_method_17_code
def yX8_loopOf : MethodName := ⟨RX8, "loopOf", "(I)J"⟩
abbrev cX8_depthNow : ByteArray := prog_10_method_18_code
def yX8_depthNow : MethodName := ⟨RX8, "depthNow", "(I)I"⟩
abbrev cX8_loopsNow : ByteArray := prog_10_method_19_code
def yX8_loopsNow : MethodName := ⟨RX8, "loopsNow", "()I"⟩
abbrev cX8_isTameNow : ByteArray := prog_10_method_20_code
def yX8_isTameNow : MethodName := ⟨RX8, "isTameNow", "()Z"⟩
abbrev cX8_liveOut : ByteArray := prog_10_method_21_code
def yX8_liveOut : MethodName := ⟨RX8, "liveOut", "(I)I"⟩
abbrev cX8_ahead : ByteArray := prog_10_method_22_code
def yX8_ahead : MethodName := ⟨RX8, "ahead", "(II)I"⟩
abbrev cX8_layLive : ByteArray := prog_10_method_23_code
def yX8_layLive : MethodName := ⟨RX8, "layLive", "()V"⟩
abbrev cX8_vainNow : ByteArray := prog_10_method_24_code
def yX8_vainNow : MethodName := ⟨RX8, "vainNow", "()I"⟩
abbrev cX8_windingsNow : ByteArray := prog_10_method_25_code
def yX8_windingsNow : MethodName := ⟨RX8, "windingsNow", "()I"⟩
abbrev cX8_reduce : ByteArray := prog_10_method_26_code
def yX8_reduce : MethodName := ⟨RX8, "reduce", "()V"⟩
abbrev cX8_comers : ByteArray := prog_10_method_27_code
def yX8_comers : MethodName := ⟨RX8, "comers", "(I)I"⟩
abbrev cX8_single : ByteArray := prog_10_method_28_code
def yX8_single : MethodName := ⟨RX8, "single", "(J)I"⟩
abbrev cX8_isInner : ByteArray := prog_10_method_29_code
def yX8_isInner : MethodName := ⟨RX8, "isInner", "(I)Z"⟩
abbrev cX8_step : ByteArray := prog_10_method_30_code
def yX8_step : MethodName := ⟨RX8, "step", "(I)Z"⟩
abbrev cX8_isSingle : ByteArray := prog_10_method_31_code
def yX8_isSingle : MethodName := ⟨RX8, "isSingle", "(II)Z"⟩
abbrev cX8_single_ : ByteArray := prog_10_method_32_code
def yX8_single_ : MethodName := ⟨RX8, "single", "(III)Z"⟩
abbrev cX8_tell : ByteArray := prog_10_method_33_code
def yX8_tell : MethodName := ⟨RX8, "tell", "(II)Z"⟩
abbrev cX8_merge : ByteArray := prog_10_method_34_code
def yX8_merge : MethodName := ⟨RX8, "merge", "(II)Z"⟩
abbrev cX8_isDrawn : ByteArray := prog_10_method_35_code
def yX8_isDrawn : MethodName := ⟨RX8, "isDrawn", "(I)Z"⟩
abbrev cX8_top : ByteArray := prog_10_method_36_code
def yX8_top : MethodName := ⟨RX8, "top", "(I)I"⟩
abbrev cX8_bottom : ByteArray := prog_10_method_37_code
def yX8_bottom : MethodName := ⟨RX8, "bottom", "(I)I"⟩
abbrev cX8_go : ByteArray := prog_10_method_38_code
def yX8_go : MethodName := ⟨RX8, "go", "(I)V"⟩
abbrev cX8_layLayers : ByteArray := prog_10_method_39_code
def yX8_layLayers : MethodName := ⟨RX8, "layLayers", "()V"⟩
abbrev cX8_isThrough : ByteArray := prog_10_method_40_code
def yX8_isThrough : MethodName := ⟨RX8, "isThrough", "(II)Z"⟩
abbrev cX8_pointOf : ByteArray := prog_10_method_41_code
def yX8_pointOf : MethodName := ⟨RX8, "pointOf", "(II)I"⟩
abbrev cX8_firstOrder : ByteArray := prog_10_method_42_code
def yX8_firstOrder : MethodName := ⟨RX8, "firstOrder", "(I)[I"⟩
abbrev cX8_find : ByteArray := prog_10_method_43_code
def yX8_find : MethodName := ⟨RX8, "find", "([II)I"⟩
abbrev cX8_ordered : ByteArray := prog_10_method_44_code
def yX8_ordered : MethodName := ⟨RX8, "ordered", "([I[I[I)[I"⟩
abbrev cX8_orderBy : ByteArray := prog_10_method_45_code
def yX8_orderBy : MethodName := ⟨RX8, "orderBy", "([[III)V"⟩
abbrev cX8_sweepOnce : ByteArray := prog_10_method_46_code
def yX8_sweepOnce : MethodName := ⟨RX8, "sweepOnce", "([[IZ)V"⟩
abbrev cX8_crossingsIn : ByteArray := prog_10_method_47_code
def yX8_crossingsIn : MethodName := ⟨RX8, "crossingsIn", "([[I)I"⟩
abbrev cX8_beginAnew : ByteArray := prog_10_method_48_code
def yX8_beginAnew : MethodName := ⟨RX8, "beginAnew", "()V"⟩
abbrev cX8_isJump : ByteArray := prog_10_method_49_code
def yX8_isJump : MethodName := ⟨RX8, "isJump", "(I)Z"⟩
abbrev cX8_insert : ByteArray := prog_10_method_50_code
def yX8_insert : MethodName := ⟨RX8, "insert", "(III)I"⟩
abbrev cX8_copy : ByteArray := prog_10_method_51_code
def yX8_copy : MethodName := ⟨RX8, "copy", "(II)V"⟩
abbrev cX8_isInstruction : ByteArray := prog_10_method_52_code
def yX8_isInstruction : MethodName := ⟨RX8, "isInstruction", "(I)Z"⟩
abbrev cX8_remove : ByteArray := prog_10_method_53_code
def yX8_remove : MethodName := ⟨RX8, "remove", "(I)I"⟩
abbrev cX8_setTarget : ByteArray := prog_10_method_54_code
def yX8_setTarget : MethodName := ⟨RX8, "setTarget", "(II)I"⟩
abbrev cX8_setUse : ByteArray := prog_10_method_55_code
def yX8_setUse : MethodName := ⟨RX8, "setUse", "(III)I"⟩
abbrev cX8_instructions : ByteArray := prog_10_method_56_code
def yX8_instructions : MethodName := ⟨RX8, "instructions", "()I"⟩
abbrev cX8_kindOf : ByteArray := prog_10_method_57_code
def yX8_kindOf : MethodName := ⟨RX8, "kindOf", "(I)I"⟩
abbrev cX8_targetOf : ByteArray := prog_10_method_58_code
def yX8_targetOf : MethodName := ⟨RX8, "targetOf", "(I)I"⟩
abbrev cX8_isBlock : ByteArray := prog_10_method_59_code
def yX8_isBlock : MethodName := ⟨RX8, "isBlock", "(I)Z"⟩
abbrev cX8_isEdge : ByteArray := prog_10_method_60_code
def yX8_isEdge : MethodName := ⟨RX8, "isEdge", "(I)Z"⟩
abbrev cX8_blocks : ByteArray := prog_10_method_61_code
def yX8_blocks : MethodName := ⟨RX8, "blocks", "()I"⟩
abbrev cX8_blockOf : ByteArray := prog_10_method_62_code
def yX8_blockOf : MethodName := ⟨RX8, "blockOf", "(I)I"⟩
abbrev cX8_firstOf : ByteArray := prog_10_method_63_code
def yX8_firstOf : MethodName := ⟨RX8, "firstOf", "(I)I"⟩
abbrev cX8_isReached : ByteArray := prog_10_method_64_code
def yX8_isReached : MethodName := ⟨RX8, "isReached", "(I)Z"⟩
abbrev cX8_edges : ByteArray := prog_10_method_65_code
def yX8_edges : MethodName := ⟨RX8, "edges", "()I"⟩
abbrev cX8_edgeFrom : ByteArray := prog_10_method_66_code
def yX8_edgeFrom : MethodName := ⟨RX8, "edgeFrom", "(I)I"⟩
abbrev cX8_edgeTo : ByteArray := prog_10_method_67_code
def yX8_edgeTo : MethodName := ⟨RX8, "edgeTo", "(I)I"⟩
abbrev cX8_dominates : ByteArray := prog_10_method_68_code
def yX8_dominates : MethodName := ⟨RX8, "dominates", "(II)Z"⟩
abbrev cX8_parentOf : ByteArray := prog_10_method_69_code
def yX8_parentOf : MethodName := ⟨RX8, "parentOf", "(I)I"⟩
abbrev cX8_comesBehind : ByteArray := prog_10_method_70_code
def yX8_comesBehind : MethodName := ⟨RX8, "comesBehind", "(II)Z"⟩
abbrev cX8_isBack : ByteArray := prog_10_method_71_code
def yX8_isBack : MethodName := ⟨RX8, "isBack", "(I)Z"⟩
abbrev cX8_loops : ByteArray := prog_10_method_72_code
def yX8_loops : MethodName := ⟨RX8, "loops", "()I"⟩
abbrev cX8_loopSize : ByteArray := prog_10_method_73_code
def yX8_loopSize : MethodName := ⟨RX8, "loopSize", "(I)I"⟩
abbrev cX8_depthOf : ByteArray := prog_10_method_74_code
def yX8_depthOf : MethodName := ⟨RX8, "depthOf", "(I)I"⟩
abbrev cX8_isTame : ByteArray := prog_10_method_75_code
def yX8_isTame : MethodName := ⟨RX8, "isTame", "()Z"⟩
abbrev cX8_liveNow : ByteArray := prog_10_method_76_code
def yX8_liveNow : MethodName := ⟨RX8, "liveNow", "(I)I"⟩
abbrev cX8_liveIn : ByteArray := prog_10_method_77_code
def yX8_liveIn : MethodName := ⟨RX8, "liveIn", "(I)I"⟩
abbrev cX8_vain : ByteArray := prog_10_method_78_code
def yX8_vain : MethodName := ⟨RX8, "vain", "()I"⟩
abbrev cX8_windings : ByteArray := prog_10_method_79_code
def yX8_windings : MethodName := ⟨RX8, "windings", "()I"⟩
abbrev cX8_steps : ByteArray := prog_10_method_80_code
def yX8_steps : MethodName := ⟨RX8, "steps", "()I"⟩
abbrev cX8_ruleOf : ByteArray := prog_10_method_81_code
def yX8_ruleOf : MethodName := ⟨RX8, "ruleOf", "(I)I"⟩
abbrev cX8_nodeOf : ByteArray := prog_10_method_82_code
def yX8_nodeOf : MethodName := ⟨RX8, "nodeOf", "(I)I"⟩
abbrev cX8_left : ByteArray := prog_10_method_83_code
def yX8_left : MethodName := ⟨RX8, "left", "()I"⟩
abbrev cX8_isNeat : ByteArray := prog_10_method_84_code
def yX8_isNeat : MethodName := ⟨RX8, "isNeat", "()Z"⟩
abbrev cX8_endsIn : ByteArray := prog_10_method_85_code
def yX8_endsIn : MethodName := ⟨RX8, "endsIn", "(I)I"⟩
abbrev cX8_layers : ByteArray := prog_10_method_86_code
def yX8_layers : MethodName := ⟨RX8, "layers", "()I"⟩
abbrev cX8_layerNow : ByteArray := prog_10_method_87_code
def yX8_layerNow : MethodName := ⟨RX8, "layerNow", "(I)I"⟩
abbrev cX8_layerOf : ByteArray := prog_10_method_88_code
def yX8_layerOf : MethodName := ⟨RX8, "layerOf", "(I)I"⟩
abbrev cX8_isTurned : ByteArray := prog_10_method_89_code
def yX8_isTurned : MethodName := ⟨RX8, "isTurned", "(I)Z"⟩
abbrev cX8_isLayer : ByteArray := prog_10_method_90_code
def yX8_isLayer : MethodName := ⟨RX8, "isLayer", "(I)Z"⟩
abbrev cX8_points : ByteArray := prog_10_method_91_code
def yX8_points : MethodName := ⟨RX8, "points", "(I)I"⟩
abbrev cX8_pointAt : ByteArray := prog_10_method_92_code
def yX8_pointAt : MethodName := ⟨RX8, "pointAt", "(II)I"⟩
abbrev cX8_placeNow : ByteArray := prog_10_method_93_code
def yX8_placeNow : MethodName := ⟨RX8, "placeNow", "(I)I"⟩
abbrev cX8_placeOf : ByteArray := prog_10_method_94_code
def yX8_placeOf : MethodName := ⟨RX8, "placeOf", "(I)I"⟩
abbrev cX8_bendsNow : ByteArray := prog_10_method_95_code
def yX8_bendsNow : MethodName := ⟨RX8, "bendsNow", "(I)I"⟩
abbrev cX8_bends : ByteArray := prog_10_method_96_code
def yX8_bends : MethodName := ⟨RX8, "bends", "(I)I"⟩
abbrev cX8_bendAt : ByteArray := prog_10_method_97_code
def yX8_bendAt : MethodName := ⟨RX8, "bendAt", "(II)I"⟩
abbrev cX8_crossings : ByteArray := prog_10_method_98_code
def yX8_crossings : MethodName := ⟨RX8, "crossings", "()I"⟩
abbrev cX8_swept : ByteArray := prog_10_method_99_code
def yX8_swept : MethodName := ⟨RX8, "swept", "([[II)I"⟩
abbrev cX8_sweep : ByteArray := prog_10_method_100_code
def yX8_sweep : MethodName := ⟨RX8, "sweep", "(I)I"⟩
abbrev cX8_wouldCross : ByteArray := prog_10_method_101_code
def yX8_wouldCross : MethodName := ⟨RX8, "wouldCross", "(I)I"⟩
abbrev cX8_swept_ : ByteArray := prog_10_method_102_code
def yX8_swept_ : MethodName := ⟨RX8, "swept", "()I"⟩
abbrev cX8_meanLength : ByteArray := prog_10_method_103_code
def yX8_meanLength : MethodName := ⟨RX8, "meanLength", "()D"⟩
abbrev cX8_add : ByteArray := prog_10_method_104_code
def yX8_add : MethodName := ⟨RX8, "add", "(I)V"⟩
abbrev cX8_add_ : ByteArray := prog_10_method_105_code
def yX8_add_ : MethodName := ⟨RX8, "add", "(Z)V"⟩
abbrev cX8_addBlock : ByteArray := prog_10_method_106_code
def yX8_addBlock : MethodName := ⟨RX8, "addBlock", "(I)V"⟩
abbrev cX8_digest : ByteArray := prog_10_method_107_code
def yX8_digest : MethodName := ⟨RX8, "digest", "()J"⟩
def RJx145de : String := "java/io/Serializable"
def TJx145de : u_T := fun k => match k with
  | _ => ("", "", "", false)
def tyJx145de : Nat → FieldType := fun k => match k with
  | _ => .int
abbrev wsJx145de0 : List Cond := u_ws RJx145de TJx145de 0
theorem nmJx145de : ∀ a, a < 0 → ∀ b, b < 0 → a ≠ b → (TJx145de a).2.1 ≠ (TJx145de b).2.1 := by decide +kernel
theorem tyJx145de_ok : ∀ k, k < 0 → parseFieldDescriptor (TJx145de k).2.2.1 = some (tyJx145de k) := by decide +kernel
def RJx8e188 : String := "java/lang/Cloneable"
def TJx8e188 : u_T := fun k => match k with
  | _ => ("", "", "", false)
def tyJx8e188 : Nat → FieldType := fun k => match k with
  | _ => .int
abbrev wsJx8e1880 : List Cond := u_ws RJx8e188 TJx8e188 0
theorem nmJx8e188 : ∀ a, a < 0 → ∀ b, b < 0 → a ≠ b → (TJx8e188 a).2.1 ≠ (TJx8e188 b).2.1 := by decide +kernel
theorem tyJx8e188_ok : ∀ k, k < 0 → parseFieldDescriptor (TJx8e188 k).2.2.1 = some (tyJx8e188 k) := by decide +kernel
def RJxb160c : String := "java/lang/Comparable"
def TJxb160c : u_T := fun k => match k with
  | _ => ("", "", "", false)
def tyJxb160c : Nat → FieldType := fun k => match k with
  | _ => .int
abbrev wsJxb160c0 : List Cond := u_ws RJxb160c TJxb160c 0
theorem nmJxb160c : ∀ a, a < 0 → ∀ b, b < 0 → a ≠ b → (TJxb160c a).2.1 ≠ (TJxb160c b).2.1 := by decide +kernel
theorem tyJxb160c_ok : ∀ k, k < 0 → parseFieldDescriptor (TJxb160c k).2.2.1 = some (tyJxb160c k) := by decide +kernel
def RJ6 : String := "java/lang/Integer"
def TJ6 : u_T := fun k => match k with
  | _ => ("", "", "", false)
def tyJ6 : Nat → FieldType := fun k => match k with
  | _ => .int
abbrev wsJ60 : List Cond := u_ws RJ6 TJ6 0
theorem nmJ6 : ∀ a, a < 0 → ∀ b, b < 0 → a ≠ b → (TJ6 a).2.1 ≠ (TJ6 b).2.1 := by decide +kernel
theorem tyJ6_ok : ∀ k, k < 0 → parseFieldDescriptor (TJ6 k).2.2.1 = some (tyJ6 k) := by decide +kernel
abbrev cJ6_numberOfTrailingZeros_0f7a4 : ByteArray := prog_16_method_48_code
def yJ6_numberOfTrailingZeros_0f7a4 : MethodName := ⟨RJ6, "numberOfTrailingZeros", "(I)I"⟩
def RJ13 : String := "java/lang/Long"
def TJ13 : u_T := fun k => match k with
  | _ => ("", "", "", false)
def tyJ13 : Nat → FieldType := fun k => match k with
  | _ => .int
abbrev wsJ130 : List Cond := u_ws RJ13 TJ13 0
theorem nmJ13 : ∀ a, a < 0 → ∀ b, b < 0 → a ≠ b → (TJ13 a).2.1 ≠ (TJ13 b).2.1 := by decide +kernel
theorem tyJ13_ok : ∀ k, k < 0 → parseFieldDescriptor (TJ13 k).2.2.1 = some (tyJ13 k) := by decide +kernel
abbrev cJ13_numberOfTrailingZeros_95d88 : ByteArray := prog_17_method_49_code
def yJ13_numberOfTrailingZeros_95d88 : MethodName := ⟨RJ13, "numberOfTrailingZeros", "(J)I"⟩
abbrev cJ13_bitCount_95d88 : ByteArray := prog_17_method_50_code
def yJ13_bitCount_95d88 : MethodName := ⟨RJ13, "bitCount", "(J)I"⟩
def RJ9 : String := "java/lang/Math"
def TJ9 : u_T := fun k => match k with
  | _ => ("", "", "", false)
def tyJ9 : Nat → FieldType := fun k => match k with
  | _ => .int
abbrev wsJ90 : List Cond := u_ws RJ9 TJ9 0
theorem nmJ9 : ∀ a, a < 0 → ∀ b, b < 0 → a ≠ b → (TJ9 a).2.1 ≠ (TJ9 b).2.1 := by decide +kernel
theorem tyJ9_ok : ∀ k, k < 0 → parseFieldDescriptor (TJ9 k).2.2.1 = some (tyJ9 k) := by decide +kernel
abbrev cJ9_max_7cf53 : ByteArray := prog_18_method_65_code
def yJ9_max_7cf53 : MethodName := ⟨RJ9, "max", "(II)I"⟩
abbrev cJ9_min_7cf53 : ByteArray := prog_18_method_69_code
def yJ9_min_7cf53 : MethodName := ⟨RJ9, "min", "(II)I"⟩
def RJxd2413 : String := "java/lang/Number"
def TJxd2413 : u_T := fun k => match k with
  | _ => ("", "", "", false)
def tyJxd2413 : Nat → FieldType := fun k => match k with
  | _ => .int
abbrev wsJxd24130 : List Cond := u_ws RJxd2413 TJxd2413 0
theorem nmJxd2413 : ∀ a, a < 0 → ∀ b, b < 0 → a ≠ b → (TJxd2413 a).2.1 ≠ (TJxd2413 b).2.1 := by decide +kernel
theorem tyJxd2413_ok : ∀ k, k < 0 → parseFieldDescriptor (TJxd2413 k).2.2.1 = some (tyJxd2413 k) := by decide +kernel
def RJ0 : String := "java/lang/String"
def TJ0 : u_T := fun k => match k with
  | _ => ("", "", "", false)
def tyJ0 : Nat → FieldType := fun k => match k with
  | _ => .int
abbrev wsJ00 : List Cond := u_ws RJ0 TJ0 0
theorem nmJ0 : ∀ a, a < 0 → ∀ b, b < 0 → a ≠ b → (TJ0 a).2.1 ≠ (TJ0 b).2.1 := by decide +kernel
theorem tyJ0_ok : ∀ k, k < 0 → parseFieldDescriptor (TJ0 k).2.2.1 = some (tyJ0 k) := by decide +kernel
def RJ10 : String := "java/lang/System"
def TJ10 : u_T := fun k => match k with
  | _ => ("", "", "", false)
def tyJ10 : Nat → FieldType := fun k => match k with
  | _ => .int
abbrev wsJ100 : List Cond := u_ws RJ10 TJ10 0
theorem nmJ10 : ∀ a, a < 0 → ∀ b, b < 0 → a ≠ b → (TJ10 a).2.1 ≠ (TJ10 b).2.1 := by decide +kernel
theorem tyJ10_ok : ∀ k, k < 0 → parseFieldDescriptor (TJ10 k).2.2.1 = some (tyJ10 k) := by decide +kernel
def RJxfd54e : String := "java/lang/constant/Constable"
def TJxfd54e : u_T := fun k => match k with
  | _ => ("", "", "", false)
def tyJxfd54e : Nat → FieldType := fun k => match k with
  | _ => .int
abbrev wsJxfd54e0 : List Cond := u_ws RJxfd54e TJxfd54e 0
theorem nmJxfd54e : ∀ a, a < 0 → ∀ b, b < 0 → a ≠ b → (TJxfd54e a).2.1 ≠ (TJxfd54e b).2.1 := by decide +kernel
theorem tyJxfd54e_ok : ∀ k, k < 0 → parseFieldDescriptor (TJxfd54e k).2.2.1 = some (tyJxfd54e k) := by decide +kernel
def RJx3cf43 : String := "java/lang/constant/ConstantDesc"
def TJx3cf43 : u_T := fun k => match k with
  | _ => ("", "", "", false)
def tyJx3cf43 : Nat → FieldType := fun k => match k with
  | _ => .int
abbrev wsJx3cf430 : List Cond := u_ws RJx3cf43 TJx3cf43 0
theorem nmJx3cf43 : ∀ a, a < 0 → ∀ b, b < 0 → a ≠ b → (TJx3cf43 a).2.1 ≠ (TJx3cf43 b).2.1 := by decide +kernel
theorem tyJx3cf43_ok : ∀ k, k < 0 → parseFieldDescriptor (TJx3cf43 k).2.2.1 = some (tyJx3cf43 k) := by decide +kernel
def RJ7 : String := "java/util/Arrays"
def TJ7 : u_T := fun k => match k with
  | _ => ("", "", "", false)
def tyJ7 : Nat → FieldType := fun k => match k with
  | _ => .int
abbrev wsJ70 : List Cond := u_ws RJ7 TJ7 0
theorem nmJ7 : ∀ a, a < 0 → ∀ b, b < 0 → a ≠ b → (TJ7 a).2.1 ≠ (TJ7 b).2.1 := by decide +kernel
theorem tyJ7_ok : ∀ k, k < 0 → parseFieldDescriptor (TJ7 k).2.2.1 = some (tyJ7 k) := by decide +kernel
abbrev cJ7_fill_d0a16 : ByteArray := prog_24_method_101_code
def yJ7_fill_d0a16 : MethodName := ⟨RJ7, "fill", "([JJ)V"⟩
abbrev cJ7_fill_53178 : ByteArray := prog_24_method_103_code
def yJ7_fill_53178 : MethodName := ⟨RJ7, "fill", "([II)V"⟩
abbrev cJ7_fill_49daa : ByteArray := prog_24_method_111_code
def yJ7_fill_49daa : MethodName := ⟨RJ7, "fill", "([ZZ)V"⟩
abbrev cJ7_copyOf_59c91 : ByteArray := prog_24_method_123_code
def yJ7_copyOf_59c91 : MethodName := ⟨RJ7, "copyOf", "([II)[I"⟩
def RL : String := "OrielChartLaw"
abbrev cL_insert : ByteArray := method_3_code
def yL_insert : MethodName := ⟨RL, "insert", "(LOrielChart;III[J)I"⟩
abbrev cL_remove : ByteArray := method_4_code
def yL_remove : MethodName := ⟨RL, "remove", "(LOrielChart;I[J)I"⟩
abbrev cL_setTarget : ByteArray := method_5_code
def yL_setTarget : MethodName := ⟨RL, "setTarget", "(LOrielChart;II[J)I"⟩
abbrev cL_setUse : ByteArray := method_6_code
def yL_setUse : MethodName := ⟨RL, "setUse", "(LOrielChart;III[J)I"⟩
abbrev cL_kindOf : ByteArray := method_7_code
def yL_kindOf : MethodName := ⟨RL, "kindOf", "(LOrielChart;I[J)I"⟩
abbrev cL_targetOf : ByteArray := method_8_code
def yL_targetOf : MethodName := ⟨RL, "targetOf", "(LOrielChart;I[J)I"⟩
abbrev cL_blockOf : ByteArray := method_9_code
def yL_blockOf : MethodName := ⟨RL, "blockOf", "(LOrielChart;I[J)I"⟩
abbrev cL_firstOf : ByteArray := method_10_code
def yL_firstOf : MethodName := ⟨RL, "firstOf", "(LOrielChart;I[J)I"⟩
abbrev cL_isReached : ByteArray := method_11_code
def yL_isReached : MethodName := ⟨RL, "isReached", "(LOrielChart;I[J)I"⟩
abbrev cL_edgeFrom : ByteArray := method_12_code
def yL_edgeFrom : MethodName := ⟨RL, "edgeFrom", "(LOrielChart;I[J)I"⟩
abbrev cL_edgeTo : ByteArray := method_13_code
def yL_edgeTo : MethodName := ⟨RL, "edgeTo", "(LOrielChart;I[J)I"⟩
abbrev cL_dominates : ByteArray := method_14_code
def yL_dominates : MethodName := ⟨RL, "dominates", "(LOrielChart;II[J)I"⟩
abbrev cL_parentOf : ByteArray := method_15_code
def yL_parentOf : MethodName := ⟨RL, "parentOf", "(LOrielChart;I[J)I"⟩
abbrev cL_comesBehind : ByteArray := method_16_code
def yL_comesBehind : MethodName := ⟨RL, "comesBehind", "(LOrielChart;II[J)I"⟩
abbrev cL_isBack : ByteArray := method_17_code
def yL_isBack : MethodName := ⟨RL, "isBack", "(LOrielChart;I[J)I"⟩
abbrev cL_loopSize : ByteArray := method_18_code
def yL_loopSize : MethodName := ⟨RL, "loopSize", "(LOrielChart;I[J)I"⟩
abbrev cL_depthOf : ByteArray := method_19_code
def yL_depthOf : MethodName := ⟨RL, "depthOf", "(LOrielChart;I[J)I"⟩
abbrev cL_liveIn : ByteArray := method_20_code
def yL_liveIn : MethodName := ⟨RL, "liveIn", "(LOrielChart;I[J)I"⟩
abbrev cL_ruleOf : ByteArray := method_21_code
def yL_ruleOf : MethodName := ⟨RL, "ruleOf", "(LOrielChart;I[J)I"⟩
abbrev cL_nodeOf : ByteArray := method_22_code
def yL_nodeOf : MethodName := ⟨RL, "nodeOf", "(LOrielChart;I[J)I"⟩
abbrev cL_endsIn : ByteArray := method_23_code
def yL_endsIn : MethodName := ⟨RL, "endsIn", "(LOrielChart;I[J)I"⟩
abbrev cL_layerOf : ByteArray := method_24_code
def yL_layerOf : MethodName := ⟨RL, "layerOf", "(LOrielChart;I[J)I"⟩
abbrev cL_isTurned : ByteArray := method_25_code
def yL_isTurned : MethodName := ⟨RL, "isTurned", "(LOrielChart;I[J)I"⟩
abbrev cL_points : ByteArray := method_26_code
def yL_points : MethodName := ⟨RL, "points", "(LOrielChart;I[J)I"⟩
abbrev cL_pointAt : ByteArray := method_27_code
def yL_pointAt : MethodName := ⟨RL, "pointAt", "(LOrielChart;II[J)I"⟩
abbrev cL_placeOf : ByteArray := method_28_code
def yL_placeOf : MethodName := ⟨RL, "placeOf", "(LOrielChart;I[J)I"⟩
abbrev cL_bends : ByteArray := method_29_code
def yL_bends : MethodName := ⟨RL, "bends", "(LOrielChart;I[J)I"⟩
abbrev cL_bendAt : ByteArray := method_30_code
def yL_bendAt : MethodName := ⟨RL, "bendAt", "(LOrielChart;II[J)I"⟩
abbrev cL_sweep : ByteArray := method_31_code
def yL_sweep : MethodName := ⟨RL, "sweep", "(LOrielChart;I[J)I"⟩
abbrev cL_wouldCross : ByteArray := method_32_code
def yL_wouldCross : MethodName := ⟨RL, "wouldCross", "(LOrielChart;I[J)I"⟩
abbrev cL_law : ByteArray := code
def yL_law : MethodName := ⟨RL, "law", "([I)Z"⟩
abbrev vwCl : List vw_C := [(RX0, TX0, 5), (RX1, TX1, 11), (RX2, TX2, 3), (RX3, TX3, 16), (RX4, TX4, 7), (RX5, TX5, 8), (RX6, TX6, 9), (RX7, TX7, 6), (RX8, TX8, 32)]
end
section
theorem inT1 : ∀ w ∈ tables_1_1, w ∈ lw_tbl := fun w h => List.mem_append_right _ (List.mem_append_left _ h)
theorem inT2 : ∀ w ∈ tables_1_2, w ∈ lw_tbl := fun w h => List.mem_append_right _ (List.mem_append_right _ (List.mem_append_left _ h))
theorem inT3 : ∀ w ∈ tables_1_3, w ∈ lw_tbl := fun w h => List.mem_append_right _ (List.mem_append_right _ (List.mem_append_right _ (List.mem_append_left _ h)))
theorem inT4 : ∀ w ∈ tables_1_4, w ∈ lw_tbl := fun w h => List.mem_append_right _ (List.mem_append_right _ (List.mem_append_right _ (List.mem_append_right _ (List.mem_append_left _ h))))
theorem inT5 : ∀ w ∈ tables_1_5, w ∈ lw_tbl := fun w h => List.mem_append_right _ (List.mem_append_right _ (List.mem_append_right _ (List.mem_append_right _ (List.mem_append_right _ (List.mem_append_left _ h)))))
theorem inT6 : ∀ w ∈ tables_1_6, w ∈ lw_tbl := fun w h => List.mem_append_right _ (List.mem_append_right _ (List.mem_append_right _ (List.mem_append_right _ (List.mem_append_right _ (List.mem_append_right _ (List.mem_append_left _ h))))))
theorem inT7 : ∀ w ∈ tables_1_7, w ∈ lw_tbl := fun w h => List.mem_append_right _ (List.mem_append_right _ (List.mem_append_right _ (List.mem_append_right _ (List.mem_append_right _ (List.mem_append_right _ (List.mem_append_right _ (List.mem_append_left _ h)))))))
theorem inT8 : ∀ w ∈ tables_1_8, w ∈ lw_tbl := fun w h => List.mem_append_right _ (List.mem_append_right _ (List.mem_append_right _ (List.mem_append_right _ (List.mem_append_right _ (List.mem_append_right _ (List.mem_append_right _ (List.mem_append_right _ (h))))))))
theorem inTp {q : MethodName × Nat} (h : q ∈ lw_privs) : Cond.selects q.1.cls q.1 q.1 ∈ lw_tbl := List.mem_append_left _ (List.mem_map.mpr ⟨q, h, rfl⟩)
def NLm : List Cond := [Cond.methodLinkNest RX7 9 yX0_init "OrielChart", Cond.fieldLinkNest RX1 77 "OrielChart$Code" "kind" "[I" "OrielChart", Cond.fieldLinkNest RX7 92 "OrielChart$Code" "kind" "[I" "OrielChart", Cond.fieldLinkNest RX1 88 "OrielChart$Code" "target" "[I" "OrielChart", Cond.fieldLinkNest RX7 102 "OrielChart$Code" "target" "[I" "OrielChart", Cond.fieldLinkNest RX2 62 "OrielChart$Code" "sets" "[I" "OrielChart", Cond.fieldLinkNest RX7 116 "OrielChart$Code" "sets" "[I" "OrielChart", Cond.fieldLinkNest RX7 113 "OrielChart$Code" "uses" "[I" "OrielChart", Cond.fieldLinkNest RX2 74 "OrielChart$Code" "uses" "[I" "OrielChart", Cond.fieldLinkNest RX1 34 "OrielChart$Code" "count" "I" "OrielChart", Cond.fieldLinkNest RX7 51 "OrielChart$Code" "count" "I" "OrielChart", Cond.methodLinkNest RX7 18 yX1_init "OrielChart", Cond.fieldLinkNest RX7 130 "OrielChart$Flow" "home" "[I" "OrielChart", Cond.fieldLinkNest RX2 55 "OrielChart$Flow" "first" "[I" "OrielChart", Cond.fieldLinkNest RX7 136 "OrielChart$Flow" "first" "[I" "OrielChart", Cond.fieldLinkNest RX2 48 "OrielChart$Flow" "last" "[I" "OrielChart", Cond.fieldLinkNest RX4 81 "OrielChart$Flow" "from" "[I" "OrielChart", Cond.fieldLinkNest RX7 153 "OrielChart$Flow" "from" "[I" "OrielChart", Cond.fieldLinkNest RX4 88 "OrielChart$Flow" "to" "[I" "OrielChart", Cond.fieldLinkNest RX6 70 "OrielChart$Flow" "to" "[I" "OrielChart", Cond.fieldLinkNest RX7 156 "OrielChart$Flow" "to" "[I" "OrielChart", Cond.fieldLinkNest RX6 61 "OrielChart$Flow" "firstEdge" "[I" "OrielChart", Cond.fieldLinkNest RX5 45 "OrielChart$Flow" "next" "[J" "OrielChart", Cond.fieldLinkNest RX4 69 "OrielChart$Flow" "next" "[J" "OrielChart", Cond.fieldLinkNest RX2 67 "OrielChart$Flow" "next" "[J" "OrielChart", Cond.fieldLinkNest RX6 45 "OrielChart$Flow" "blockCount" "I" "OrielChart", Cond.fieldLinkNest RX2 27 "OrielChart$Flow" "blockCount" "I" "OrielChart", Cond.fieldLinkNest RX4 54 "OrielChart$Flow" "blockCount" "I" "OrielChart", Cond.fieldLinkNest RX7 127 "OrielChart$Flow" "blockCount" "I" "OrielChart", Cond.fieldLinkNest RX3 52 "OrielChart$Flow" "edgeCount" "I" "OrielChart", Cond.fieldLinkNest RX4 78 "OrielChart$Flow" "edgeCount" "I" "OrielChart", Cond.fieldLinkNest RX7 147 "OrielChart$Flow" "edgeCount" "I" "OrielChart", Cond.fieldLinkNest RX5 28 "OrielChart$Flow" "reached" "J" "OrielChart", Cond.fieldLinkNest RX4 24 "OrielChart$Flow" "reached" "J" "OrielChart", Cond.fieldLinkNest RX2 32 "OrielChart$Flow" "reached" "J" "OrielChart", Cond.fieldLinkNest RX7 139 "OrielChart$Flow" "reached" "J" "OrielChart", Cond.fieldLinkNest RX7 333 "OrielChart$Flow" "fresh" "Z" "OrielChart", Cond.methodLinkNest RX7 25 yX4_init "OrielChart", Cond.fieldLinkNest RX7 181 "OrielChart$Ranks" "loop" "[J" "OrielChart", Cond.fieldLinkNest RX7 178 "OrielChart$Ranks" "loopCount" "I" "OrielChart", Cond.fieldLinkNest RX7 197 "OrielChart$Ranks" "tame" "Z" "OrielChart", Cond.fieldLinkNest RX7 334 "OrielChart$Ranks" "fresh" "Z" "OrielChart", Cond.methodLinkNest RX7 32 yX2_init "OrielChart", Cond.fieldLinkNest RX7 204 "OrielChart$Lives" "live" "[I" "OrielChart", Cond.fieldLinkNest RX7 207 "OrielChart$Lives" "vainCount" "I" "OrielChart", Cond.fieldLinkNest RX7 119 "OrielChart$Lives" "fresh" "Z" "OrielChart", Cond.methodLinkNest RX7 39 yX5_init "OrielChart", Cond.fieldLinkNest RX7 233 "OrielChart$Reduction" "home" "[I" "OrielChart", Cond.fieldLinkNest RX7 224 "OrielChart$Reduction" "rule" "[I" "OrielChart", Cond.fieldLinkNest RX7 227 "OrielChart$Reduction" "node" "[I" "OrielChart", Cond.fieldLinkNest RX7 230 "OrielChart$Reduction" "nodes" "J" "OrielChart", Cond.fieldLinkNest RX7 218 "OrielChart$Reduction" "stepCount" "I" "OrielChart", Cond.fieldLinkNest RX7 335 "OrielChart$Reduction" "fresh" "Z" "OrielChart", Cond.methodLinkNest RX7 46 yX3_init "OrielChart", Cond.methodLinkNest RX3 11 yX6_init "OrielChart", Cond.fieldLinkNest RX3 124 "OrielChart$Walk" "came" "[I" "OrielChart", Cond.fieldLinkNest RX3 115 "OrielChart$Walk" "upper" "[I" "OrielChart", Cond.fieldLinkNest RX3 108 "OrielChart$Walk" "lower" "[I" "OrielChart", Cond.fieldLinkNest RX3 121 "OrielChart$Walk" "cameCount" "I" "OrielChart", Cond.fieldLinkNest RX3 83 "OrielChart$Walk" "seen" "J" "OrielChart", Cond.fieldLinkNest RX7 244 "OrielChart$Picture" "walk" "LOrielChart$Walk;" "OrielChart", Cond.fieldLinkNest RX7 241 "OrielChart$Picture" "layer" "[I" "OrielChart", Cond.fieldLinkNest RX7 238 "OrielChart$Picture" "layerCount" "I" "OrielChart", Cond.fieldLinkNest RX7 289 "OrielChart$Picture" "sweeps" "I" "OrielChart", Cond.fieldLinkNest RX7 336 "OrielChart$Picture" "fresh" "Z" "OrielChart", Cond.methodLinkNest RX1 80 yX7_at "OrielChart", Cond.methodLinkNest RX1 65 yX7_bit "OrielChart", Cond.methodLinkNest RX1 84 yX7_jumps "OrielChart", Cond.methodLinkNest RX1 91 yX7_has "OrielChart", Cond.methodLinkNest RX1 54 yX7_put "OrielChart", Cond.methodLinkNest RX1 58 yX7_put_ "OrielChart", Cond.methodLinkNest RX1 99 yX7_at_ "OrielChart", Cond.methodLinkNest RX1 69 yX7_spread "OrielChart", Cond.methodLinkNest RX4 30 yX7_has "OrielChart", Cond.methodLinkNest RX4 72 yX7_bit "OrielChart", Cond.methodLinkNest RX4 65 yX7_spread "OrielChart", Cond.methodLinkNest RX4 38 yX7_put_ "OrielChart", Cond.methodLinkNest RX4 85 yX7_at "OrielChart", Cond.methodLinkNest RX4 61 yX7_at_ "OrielChart", Cond.methodLinkNest RX2 15 yX7_put "OrielChart", Cond.methodLinkNest RX2 36 yX7_has "OrielChart", Cond.methodLinkNest RX2 71 yX7_at_ "OrielChart", Cond.methodLinkNest RX2 51 yX7_at "OrielChart", Cond.methodLinkNest RX5 41 yX7_has "OrielChart", Cond.methodLinkNest RX5 46 yX7_at_ "OrielChart", Cond.methodLinkNest RX5 50 yX7_put_ "OrielChart", Cond.methodLinkNest RX5 54 yX7_put "OrielChart", Cond.methodLinkNest RX5 72 yX7_bit "OrielChart", Cond.methodLinkNest RX5 84 yX7_lowest "OrielChart", Cond.methodLinkNest RX5 87 yX7_at "OrielChart", Cond.methodLinkNest RX6 41 yX7_put "OrielChart", Cond.methodLinkNest RX6 54 yX7_at "OrielChart", Cond.methodLinkNest RX6 64 yX7_bit "OrielChart", Cond.methodLinkNest RX6 73 yX7_has "OrielChart", Cond.methodLinkNest RX3 87 yX7_has "OrielChart", Cond.methodLinkNest RX3 75 yX7_put "OrielChart", Cond.methodLinkNest RX3 95 yX7_at "OrielChart", Cond.methodLinkNest RX0 39 yX7_at "OrielChart", Cond.methodLinkNest RX0 35 yX7_put "OrielChart", Cond.castable "java/lang/IllegalArgumentException" "java/lang/IllegalArgumentException", Cond.declares ⟨"java/lang/RuntimeException", "<init>", "()V"⟩, Cond.declares ⟨"java/lang/RuntimeException", "<init>", "(Ljava/lang/String;)V"⟩, Cond.declares ⟨"java/lang/Exception", "<init>", "()V"⟩, Cond.declares ⟨"java/lang/Exception", "<init>", "(Ljava/lang/String;)V"⟩, Cond.declares ⟨"java/lang/Throwable", "<init>", "()V"⟩, Cond.declares ⟨"java/lang/Throwable", "<init>", "(Ljava/lang/String;)V"⟩, Cond.castable "java/lang/IllegalStateException" "java/lang/IllegalStateException", Cond.castable "java/lang/IndexOutOfBoundsException" "java/lang/IndexOutOfBoundsException", Cond.castable "[I" "java/lang/Cloneable", Cond.castable "[[I" "java/lang/Cloneable"]
theorem nw_0 : Cond.methodLinkNest RX7 9 yX0_init "OrielChart" ∈ NLm := List.mem_of_getElem? (i := 0) rfl
theorem nw_1 : Cond.fieldLinkNest RX1 77 "OrielChart$Code" "kind" "[I" "OrielChart" ∈ NLm := List.mem_of_getElem? (i := 1) rfl
theorem nw_2 : Cond.fieldLinkNest RX7 92 "OrielChart$Code" "kind" "[I" "OrielChart" ∈ NLm := List.mem_of_getElem? (i := 2) rfl
theorem nw_3 : Cond.fieldLinkNest RX1 88 "OrielChart$Code" "target" "[I" "OrielChart" ∈ NLm := List.mem_of_getElem? (i := 3) rfl
theorem nw_4 : Cond.fieldLinkNest RX7 102 "OrielChart$Code" "target" "[I" "OrielChart" ∈ NLm := List.mem_of_getElem? (i := 4) rfl
theorem nw_5 : Cond.fieldLinkNest RX2 62 "OrielChart$Code" "sets" "[I" "OrielChart" ∈ NLm := List.mem_of_getElem? (i := 5) rfl
theorem nw_6 : Cond.fieldLinkNest RX7 116 "OrielChart$Code" "sets" "[I" "OrielChart" ∈ NLm := List.mem_of_getElem? (i := 6) rfl
theorem nw_7 : Cond.fieldLinkNest RX7 113 "OrielChart$Code" "uses" "[I" "OrielChart" ∈ NLm := List.mem_of_getElem? (i := 7) rfl
theorem nw_8 : Cond.fieldLinkNest RX2 74 "OrielChart$Code" "uses" "[I" "OrielChart" ∈ NLm := List.mem_of_getElem? (i := 8) rfl
theorem nw_9 : Cond.fieldLinkNest RX1 34 "OrielChart$Code" "count" "I" "OrielChart" ∈ NLm := List.mem_of_getElem? (i := 9) rfl
theorem nw_10 : Cond.fieldLinkNest RX7 51 "OrielChart$Code" "count" "I" "OrielChart" ∈ NLm := List.mem_of_getElem? (i := 10) rfl
theorem nw_11 : Cond.methodLinkNest RX7 18 yX1_init "OrielChart" ∈ NLm := List.mem_of_getElem? (i := 11) rfl
theorem nw_12 : Cond.fieldLinkNest RX7 130 "OrielChart$Flow" "home" "[I" "OrielChart" ∈ NLm := List.mem_of_getElem? (i := 12) rfl
theorem nw_13 : Cond.fieldLinkNest RX2 55 "OrielChart$Flow" "first" "[I" "OrielChart" ∈ NLm := List.mem_of_getElem? (i := 13) rfl
theorem nw_14 : Cond.fieldLinkNest RX7 136 "OrielChart$Flow" "first" "[I" "OrielChart" ∈ NLm := List.mem_of_getElem? (i := 14) rfl
theorem nw_15 : Cond.fieldLinkNest RX2 48 "OrielChart$Flow" "last" "[I" "OrielChart" ∈ NLm := List.mem_of_getElem? (i := 15) rfl
theorem nw_16 : Cond.fieldLinkNest RX4 81 "OrielChart$Flow" "from" "[I" "OrielChart" ∈ NLm := List.mem_of_getElem? (i := 16) rfl
theorem nw_17 : Cond.fieldLinkNest RX7 153 "OrielChart$Flow" "from" "[I" "OrielChart" ∈ NLm := List.mem_of_getElem? (i := 17) rfl
theorem nw_18 : Cond.fieldLinkNest RX4 88 "OrielChart$Flow" "to" "[I" "OrielChart" ∈ NLm := List.mem_of_getElem? (i := 18) rfl
theorem nw_19 : Cond.fieldLinkNest RX6 70 "OrielChart$Flow" "to" "[I" "OrielChart" ∈ NLm := List.mem_of_getElem? (i := 19) rfl
theorem nw_20 : Cond.fieldLinkNest RX7 156 "OrielChart$Flow" "to" "[I" "OrielChart" ∈ NLm := List.mem_of_getElem? (i := 20) rfl
theorem nw_21 : Cond.fieldLinkNest RX6 61 "OrielChart$Flow" "firstEdge" "[I" "OrielChart" ∈ NLm := List.mem_of_getElem? (i := 21) rfl
theorem nw_22 : Cond.fieldLinkNest RX5 45 "OrielChart$Flow" "next" "[J" "OrielChart" ∈ NLm := List.mem_of_getElem? (i := 22) rfl
theorem nw_23 : Cond.fieldLinkNest RX4 69 "OrielChart$Flow" "next" "[J" "OrielChart" ∈ NLm := List.mem_of_getElem? (i := 23) rfl
theorem nw_24 : Cond.fieldLinkNest RX2 67 "OrielChart$Flow" "next" "[J" "OrielChart" ∈ NLm := List.mem_of_getElem? (i := 24) rfl
theorem nw_25 : Cond.fieldLinkNest RX6 45 "OrielChart$Flow" "blockCount" "I" "OrielChart" ∈ NLm := List.mem_of_getElem? (i := 25) rfl
theorem nw_26 : Cond.fieldLinkNest RX2 27 "OrielChart$Flow" "blockCount" "I" "OrielChart" ∈ NLm := List.mem_of_getElem? (i := 26) rfl
theorem nw_27 : Cond.fieldLinkNest RX4 54 "OrielChart$Flow" "blockCount" "I" "OrielChart" ∈ NLm := List.mem_of_getElem? (i := 27) rfl
theorem nw_28 : Cond.fieldLinkNest RX7 127 "OrielChart$Flow" "blockCount" "I" "OrielChart" ∈ NLm := List.mem_of_getElem? (i := 28) rfl
theorem nw_29 : Cond.fieldLinkNest RX3 52 "OrielChart$Flow" "edgeCount" "I" "OrielChart" ∈ NLm := List.mem_of_getElem? (i := 29) rfl
theorem nw_30 : Cond.fieldLinkNest RX4 78 "OrielChart$Flow" "edgeCount" "I" "OrielChart" ∈ NLm := List.mem_of_getElem? (i := 30) rfl
theorem nw_31 : Cond.fieldLinkNest RX7 147 "OrielChart$Flow" "edgeCount" "I" "OrielChart" ∈ NLm := List.mem_of_getElem? (i := 31) rfl
theorem nw_32 : Cond.fieldLinkNest RX5 28 "OrielChart$Flow" "reached" "J" "OrielChart" ∈ NLm := List.mem_of_getElem? (i := 32) rfl
theorem nw_33 : Cond.fieldLinkNest RX4 24 "OrielChart$Flow" "reached" "J" "OrielChart" ∈ NLm := List.mem_of_getElem? (i := 33) rfl
theorem nw_34 : Cond.fieldLinkNest RX2 32 "OrielChart$Flow" "reached" "J" "OrielChart" ∈ NLm := List.mem_of_getElem? (i := 34) rfl
theorem nw_35 : Cond.fieldLinkNest RX7 139 "OrielChart$Flow" "reached" "J" "OrielChart" ∈ NLm := List.mem_of_getElem? (i := 35) rfl
theorem nw_36 : Cond.fieldLinkNest RX7 333 "OrielChart$Flow" "fresh" "Z" "OrielChart" ∈ NLm := List.mem_of_getElem? (i := 36) rfl
theorem nw_37 : Cond.methodLinkNest RX7 25 yX4_init "OrielChart" ∈ NLm := List.mem_of_getElem? (i := 37) rfl
theorem nw_38 : Cond.fieldLinkNest RX7 181 "OrielChart$Ranks" "loop" "[J" "OrielChart" ∈ NLm := List.mem_of_getElem? (i := 38) rfl
theorem nw_39 : Cond.fieldLinkNest RX7 178 "OrielChart$Ranks" "loopCount" "I" "OrielChart" ∈ NLm := List.mem_of_getElem? (i := 39) rfl
theorem nw_40 : Cond.fieldLinkNest RX7 197 "OrielChart$Ranks" "tame" "Z" "OrielChart" ∈ NLm := List.mem_of_getElem? (i := 40) rfl
theorem nw_41 : Cond.fieldLinkNest RX7 334 "OrielChart$Ranks" "fresh" "Z" "OrielChart" ∈ NLm := List.mem_of_getElem? (i := 41) rfl
theorem nw_42 : Cond.methodLinkNest RX7 32 yX2_init "OrielChart" ∈ NLm := List.mem_of_getElem? (i := 42) rfl
theorem nw_43 : Cond.fieldLinkNest RX7 204 "OrielChart$Lives" "live" "[I" "OrielChart" ∈ NLm := List.mem_of_getElem? (i := 43) rfl
theorem nw_44 : Cond.fieldLinkNest RX7 207 "OrielChart$Lives" "vainCount" "I" "OrielChart" ∈ NLm := List.mem_of_getElem? (i := 44) rfl
theorem nw_45 : Cond.fieldLinkNest RX7 119 "OrielChart$Lives" "fresh" "Z" "OrielChart" ∈ NLm := List.mem_of_getElem? (i := 45) rfl
theorem nw_46 : Cond.methodLinkNest RX7 39 yX5_init "OrielChart" ∈ NLm := List.mem_of_getElem? (i := 46) rfl
theorem nw_47 : Cond.fieldLinkNest RX7 233 "OrielChart$Reduction" "home" "[I" "OrielChart" ∈ NLm := List.mem_of_getElem? (i := 47) rfl
theorem nw_48 : Cond.fieldLinkNest RX7 224 "OrielChart$Reduction" "rule" "[I" "OrielChart" ∈ NLm := List.mem_of_getElem? (i := 48) rfl
theorem nw_49 : Cond.fieldLinkNest RX7 227 "OrielChart$Reduction" "node" "[I" "OrielChart" ∈ NLm := List.mem_of_getElem? (i := 49) rfl
theorem nw_50 : Cond.fieldLinkNest RX7 230 "OrielChart$Reduction" "nodes" "J" "OrielChart" ∈ NLm := List.mem_of_getElem? (i := 50) rfl
theorem nw_51 : Cond.fieldLinkNest RX7 218 "OrielChart$Reduction" "stepCount" "I" "OrielChart" ∈ NLm := List.mem_of_getElem? (i := 51) rfl
theorem nw_52 : Cond.fieldLinkNest RX7 335 "OrielChart$Reduction" "fresh" "Z" "OrielChart" ∈ NLm := List.mem_of_getElem? (i := 52) rfl
theorem nw_53 : Cond.methodLinkNest RX7 46 yX3_init "OrielChart" ∈ NLm := List.mem_of_getElem? (i := 53) rfl
theorem nw_54 : Cond.methodLinkNest RX3 11 yX6_init "OrielChart" ∈ NLm := List.mem_of_getElem? (i := 54) rfl
theorem nw_55 : Cond.fieldLinkNest RX3 124 "OrielChart$Walk" "came" "[I" "OrielChart" ∈ NLm := List.mem_of_getElem? (i := 55) rfl
theorem nw_56 : Cond.fieldLinkNest RX3 115 "OrielChart$Walk" "upper" "[I" "OrielChart" ∈ NLm := List.mem_of_getElem? (i := 56) rfl
theorem nw_57 : Cond.fieldLinkNest RX3 108 "OrielChart$Walk" "lower" "[I" "OrielChart" ∈ NLm := List.mem_of_getElem? (i := 57) rfl
theorem nw_58 : Cond.fieldLinkNest RX3 121 "OrielChart$Walk" "cameCount" "I" "OrielChart" ∈ NLm := List.mem_of_getElem? (i := 58) rfl
theorem nw_59 : Cond.fieldLinkNest RX3 83 "OrielChart$Walk" "seen" "J" "OrielChart" ∈ NLm := List.mem_of_getElem? (i := 59) rfl
theorem nw_60 : Cond.fieldLinkNest RX7 244 "OrielChart$Picture" "walk" "LOrielChart$Walk;" "OrielChart" ∈ NLm := List.mem_of_getElem? (i := 60) rfl
theorem nw_61 : Cond.fieldLinkNest RX7 241 "OrielChart$Picture" "layer" "[I" "OrielChart" ∈ NLm := List.mem_of_getElem? (i := 61) rfl
theorem nw_62 : Cond.fieldLinkNest RX7 238 "OrielChart$Picture" "layerCount" "I" "OrielChart" ∈ NLm := List.mem_of_getElem? (i := 62) rfl
theorem nw_63 : Cond.fieldLinkNest RX7 289 "OrielChart$Picture" "sweeps" "I" "OrielChart" ∈ NLm := List.mem_of_getElem? (i := 63) rfl
theorem nw_64 : Cond.fieldLinkNest RX7 336 "OrielChart$Picture" "fresh" "Z" "OrielChart" ∈ NLm := List.mem_of_getElem? (i := 64) rfl
theorem nw_65 : Cond.methodLinkNest RX1 80 yX7_at "OrielChart" ∈ NLm := List.mem_of_getElem? (i := 65) rfl
theorem nw_66 : Cond.methodLinkNest RX1 65 yX7_bit "OrielChart" ∈ NLm := List.mem_of_getElem? (i := 66) rfl
theorem nw_67 : Cond.methodLinkNest RX1 84 yX7_jumps "OrielChart" ∈ NLm := List.mem_of_getElem? (i := 67) rfl
theorem nw_68 : Cond.methodLinkNest RX1 91 yX7_has "OrielChart" ∈ NLm := List.mem_of_getElem? (i := 68) rfl
theorem nw_69 : Cond.methodLinkNest RX1 54 yX7_put "OrielChart" ∈ NLm := List.mem_of_getElem? (i := 69) rfl
theorem nw_70 : Cond.methodLinkNest RX1 58 yX7_put_ "OrielChart" ∈ NLm := List.mem_of_getElem? (i := 70) rfl
theorem nw_71 : Cond.methodLinkNest RX1 99 yX7_at_ "OrielChart" ∈ NLm := List.mem_of_getElem? (i := 71) rfl
theorem nw_72 : Cond.methodLinkNest RX1 69 yX7_spread "OrielChart" ∈ NLm := List.mem_of_getElem? (i := 72) rfl
theorem nw_73 : Cond.methodLinkNest RX4 30 yX7_has "OrielChart" ∈ NLm := List.mem_of_getElem? (i := 73) rfl
theorem nw_74 : Cond.methodLinkNest RX4 72 yX7_bit "OrielChart" ∈ NLm := List.mem_of_getElem? (i := 74) rfl
theorem nw_75 : Cond.methodLinkNest RX4 65 yX7_spread "OrielChart" ∈ NLm := List.mem_of_getElem? (i := 75) rfl
theorem nw_76 : Cond.methodLinkNest RX4 38 yX7_put_ "OrielChart" ∈ NLm := List.mem_of_getElem? (i := 76) rfl
theorem nw_77 : Cond.methodLinkNest RX4 85 yX7_at "OrielChart" ∈ NLm := List.mem_of_getElem? (i := 77) rfl
theorem nw_78 : Cond.methodLinkNest RX4 61 yX7_at_ "OrielChart" ∈ NLm := List.mem_of_getElem? (i := 78) rfl
theorem nw_79 : Cond.methodLinkNest RX2 15 yX7_put "OrielChart" ∈ NLm := List.mem_of_getElem? (i := 79) rfl
theorem nw_80 : Cond.methodLinkNest RX2 36 yX7_has "OrielChart" ∈ NLm := List.mem_of_getElem? (i := 80) rfl
theorem nw_81 : Cond.methodLinkNest RX2 71 yX7_at_ "OrielChart" ∈ NLm := List.mem_of_getElem? (i := 81) rfl
theorem nw_82 : Cond.methodLinkNest RX2 51 yX7_at "OrielChart" ∈ NLm := List.mem_of_getElem? (i := 82) rfl
theorem nw_83 : Cond.methodLinkNest RX5 41 yX7_has "OrielChart" ∈ NLm := List.mem_of_getElem? (i := 83) rfl
theorem nw_84 : Cond.methodLinkNest RX5 46 yX7_at_ "OrielChart" ∈ NLm := List.mem_of_getElem? (i := 84) rfl
theorem nw_85 : Cond.methodLinkNest RX5 50 yX7_put_ "OrielChart" ∈ NLm := List.mem_of_getElem? (i := 85) rfl
theorem nw_86 : Cond.methodLinkNest RX5 54 yX7_put "OrielChart" ∈ NLm := List.mem_of_getElem? (i := 86) rfl
theorem nw_87 : Cond.methodLinkNest RX5 72 yX7_bit "OrielChart" ∈ NLm := List.mem_of_getElem? (i := 87) rfl
theorem nw_88 : Cond.methodLinkNest RX5 84 yX7_lowest "OrielChart" ∈ NLm := List.mem_of_getElem? (i := 88) rfl
theorem nw_89 : Cond.methodLinkNest RX5 87 yX7_at "OrielChart" ∈ NLm := List.mem_of_getElem? (i := 89) rfl
theorem nw_90 : Cond.methodLinkNest RX6 41 yX7_put "OrielChart" ∈ NLm := List.mem_of_getElem? (i := 90) rfl
theorem nw_91 : Cond.methodLinkNest RX6 54 yX7_at "OrielChart" ∈ NLm := List.mem_of_getElem? (i := 91) rfl
theorem nw_92 : Cond.methodLinkNest RX6 64 yX7_bit "OrielChart" ∈ NLm := List.mem_of_getElem? (i := 92) rfl
theorem nw_93 : Cond.methodLinkNest RX6 73 yX7_has "OrielChart" ∈ NLm := List.mem_of_getElem? (i := 93) rfl
theorem nw_94 : Cond.methodLinkNest RX3 87 yX7_has "OrielChart" ∈ NLm := List.mem_of_getElem? (i := 94) rfl
theorem nw_95 : Cond.methodLinkNest RX3 75 yX7_put "OrielChart" ∈ NLm := List.mem_of_getElem? (i := 95) rfl
theorem nw_96 : Cond.methodLinkNest RX3 95 yX7_at "OrielChart" ∈ NLm := List.mem_of_getElem? (i := 96) rfl
theorem nw_97 : Cond.methodLinkNest RX0 39 yX7_at "OrielChart" ∈ NLm := List.mem_of_getElem? (i := 97) rfl
theorem nw_98 : Cond.methodLinkNest RX0 35 yX7_put "OrielChart" ∈ NLm := List.mem_of_getElem? (i := 98) rfl
theorem nw_99 : Cond.castable "java/lang/IllegalArgumentException" "java/lang/IllegalArgumentException" ∈ NLm := List.mem_of_getElem? (i := 99) rfl
theorem nw_100 : Cond.declares ⟨"java/lang/RuntimeException", "<init>", "()V"⟩ ∈ NLm := List.mem_of_getElem? (i := 100) rfl
theorem nw_101 : Cond.declares ⟨"java/lang/RuntimeException", "<init>", "(Ljava/lang/String;)V"⟩ ∈ NLm := List.mem_of_getElem? (i := 101) rfl
theorem nw_102 : Cond.declares ⟨"java/lang/Exception", "<init>", "()V"⟩ ∈ NLm := List.mem_of_getElem? (i := 102) rfl
theorem nw_103 : Cond.declares ⟨"java/lang/Exception", "<init>", "(Ljava/lang/String;)V"⟩ ∈ NLm := List.mem_of_getElem? (i := 103) rfl
theorem nw_104 : Cond.declares ⟨"java/lang/Throwable", "<init>", "()V"⟩ ∈ NLm := List.mem_of_getElem? (i := 104) rfl
theorem nw_105 : Cond.declares ⟨"java/lang/Throwable", "<init>", "(Ljava/lang/String;)V"⟩ ∈ NLm := List.mem_of_getElem? (i := 105) rfl
theorem nw_106 : Cond.castable "java/lang/IllegalStateException" "java/lang/IllegalStateException" ∈ NLm := List.mem_of_getElem? (i := 106) rfl
theorem nw_107 : Cond.castable "java/lang/IndexOutOfBoundsException" "java/lang/IndexOutOfBoundsException" ∈ NLm := List.mem_of_getElem? (i := 107) rfl
theorem nw_108 : Cond.castable "[I" "java/lang/Cloneable" ∈ NLm := List.mem_of_getElem? (i := 108) rfl
theorem nw_109 : Cond.castable "[[I" "java/lang/Cloneable" ∈ NLm := List.mem_of_getElem? (i := 109) rfl
theorem nt_0 : Cond.methodLinkNest RX7 9 yX0_init "OrielChart" ∈ lw_tbl := inT1 _ (List.mem_of_getElem? (i := 32) rfl)
theorem nt_1 : Cond.fieldLinkNest RX1 77 "OrielChart$Code" "kind" "[I" "OrielChart" ∈ lw_tbl := inT1 _ (List.mem_of_getElem? (i := 37) rfl)
theorem nt_2 : Cond.fieldLinkNest RX7 92 "OrielChart$Code" "kind" "[I" "OrielChart" ∈ lw_tbl := inT1 _ (List.mem_of_getElem? (i := 38) rfl)
theorem nt_3 : Cond.fieldLinkNest RX1 88 "OrielChart$Code" "target" "[I" "OrielChart" ∈ lw_tbl := inT1 _ (List.mem_of_getElem? (i := 40) rfl)
theorem nt_4 : Cond.fieldLinkNest RX7 102 "OrielChart$Code" "target" "[I" "OrielChart" ∈ lw_tbl := inT1 _ (List.mem_of_getElem? (i := 41) rfl)
theorem nt_5 : Cond.fieldLinkNest RX2 62 "OrielChart$Code" "sets" "[I" "OrielChart" ∈ lw_tbl := inT1 _ (List.mem_of_getElem? (i := 43) rfl)
theorem nt_6 : Cond.fieldLinkNest RX7 116 "OrielChart$Code" "sets" "[I" "OrielChart" ∈ lw_tbl := inT1 _ (List.mem_of_getElem? (i := 44) rfl)
theorem nt_7 : Cond.fieldLinkNest RX7 113 "OrielChart$Code" "uses" "[I" "OrielChart" ∈ lw_tbl := inT1 _ (List.mem_of_getElem? (i := 46) rfl)
theorem nt_8 : Cond.fieldLinkNest RX2 74 "OrielChart$Code" "uses" "[I" "OrielChart" ∈ lw_tbl := inT1 _ (List.mem_of_getElem? (i := 47) rfl)
theorem nt_9 : Cond.fieldLinkNest RX1 34 "OrielChart$Code" "count" "I" "OrielChart" ∈ lw_tbl := inT1 _ (List.mem_of_getElem? (i := 48) rfl)
theorem nt_10 : Cond.fieldLinkNest RX7 51 "OrielChart$Code" "count" "I" "OrielChart" ∈ lw_tbl := inT1 _ (List.mem_of_getElem? (i := 50) rfl)
theorem nt_11 : Cond.methodLinkNest RX7 18 yX1_init "OrielChart" ∈ lw_tbl := inT1 _ (List.mem_of_getElem? (i := 65) rfl)
theorem nt_12 : Cond.fieldLinkNest RX7 130 "OrielChart$Flow" "home" "[I" "OrielChart" ∈ lw_tbl := inT1 _ (List.mem_of_getElem? (i := 70) rfl)
theorem nt_13 : Cond.fieldLinkNest RX2 55 "OrielChart$Flow" "first" "[I" "OrielChart" ∈ lw_tbl := inT1 _ (List.mem_of_getElem? (i := 72) rfl)
theorem nt_14 : Cond.fieldLinkNest RX7 136 "OrielChart$Flow" "first" "[I" "OrielChart" ∈ lw_tbl := inT1 _ (List.mem_of_getElem? (i := 73) rfl)
theorem nt_15 : Cond.fieldLinkNest RX2 48 "OrielChart$Flow" "last" "[I" "OrielChart" ∈ lw_tbl := inT1 _ (List.mem_of_getElem? (i := 75) rfl)
theorem nt_16 : Cond.fieldLinkNest RX4 81 "OrielChart$Flow" "from" "[I" "OrielChart" ∈ lw_tbl := inT1 _ (List.mem_of_getElem? (i := 77) rfl)
theorem nt_17 : Cond.fieldLinkNest RX7 153 "OrielChart$Flow" "from" "[I" "OrielChart" ∈ lw_tbl := inT1 _ (List.mem_of_getElem? (i := 78) rfl)
theorem nt_18 : Cond.fieldLinkNest RX4 88 "OrielChart$Flow" "to" "[I" "OrielChart" ∈ lw_tbl := inT1 _ (List.mem_of_getElem? (i := 80) rfl)
theorem nt_19 : Cond.fieldLinkNest RX6 70 "OrielChart$Flow" "to" "[I" "OrielChart" ∈ lw_tbl := inT1 _ (List.mem_of_getElem? (i := 81) rfl)
theorem nt_20 : Cond.fieldLinkNest RX7 156 "OrielChart$Flow" "to" "[I" "OrielChart" ∈ lw_tbl := inT1 _ (List.mem_of_getElem? (i := 82) rfl)
theorem nt_21 : Cond.fieldLinkNest RX6 61 "OrielChart$Flow" "firstEdge" "[I" "OrielChart" ∈ lw_tbl := inT1 _ (List.mem_of_getElem? (i := 84) rfl)
theorem nt_22 : Cond.fieldLinkNest RX5 45 "OrielChart$Flow" "next" "[J" "OrielChart" ∈ lw_tbl := inT1 _ (List.mem_of_getElem? (i := 86) rfl)
theorem nt_23 : Cond.fieldLinkNest RX4 69 "OrielChart$Flow" "next" "[J" "OrielChart" ∈ lw_tbl := inT1 _ (List.mem_of_getElem? (i := 87) rfl)
theorem nt_24 : Cond.fieldLinkNest RX2 67 "OrielChart$Flow" "next" "[J" "OrielChart" ∈ lw_tbl := inT1 _ (List.mem_of_getElem? (i := 88) rfl)
theorem nt_25 : Cond.fieldLinkNest RX6 45 "OrielChart$Flow" "blockCount" "I" "OrielChart" ∈ lw_tbl := inT1 _ (List.mem_of_getElem? (i := 90) rfl)
theorem nt_26 : Cond.fieldLinkNest RX2 27 "OrielChart$Flow" "blockCount" "I" "OrielChart" ∈ lw_tbl := inT1 _ (List.mem_of_getElem? (i := 91) rfl)
theorem nt_27 : Cond.fieldLinkNest RX4 54 "OrielChart$Flow" "blockCount" "I" "OrielChart" ∈ lw_tbl := inT1 _ (List.mem_of_getElem? (i := 92) rfl)
theorem nt_28 : Cond.fieldLinkNest RX7 127 "OrielChart$Flow" "blockCount" "I" "OrielChart" ∈ lw_tbl := inT1 _ (List.mem_of_getElem? (i := 93) rfl)
theorem nt_29 : Cond.fieldLinkNest RX3 52 "OrielChart$Flow" "edgeCount" "I" "OrielChart" ∈ lw_tbl := inT1 _ (List.mem_of_getElem? (i := 94) rfl)
theorem nt_30 : Cond.fieldLinkNest RX4 78 "OrielChart$Flow" "edgeCount" "I" "OrielChart" ∈ lw_tbl := inT1 _ (List.mem_of_getElem? (i := 96) rfl)
theorem nt_31 : Cond.fieldLinkNest RX7 147 "OrielChart$Flow" "edgeCount" "I" "OrielChart" ∈ lw_tbl := inT1 _ (List.mem_of_getElem? (i := 97) rfl)
theorem nt_32 : Cond.fieldLinkNest RX5 28 "OrielChart$Flow" "reached" "J" "OrielChart" ∈ lw_tbl := inT1 _ (List.mem_of_getElem? (i := 98) rfl)
theorem nt_33 : Cond.fieldLinkNest RX4 24 "OrielChart$Flow" "reached" "J" "OrielChart" ∈ lw_tbl := inT1 _ (List.mem_of_getElem? (i := 99) rfl)
theorem nt_34 : Cond.fieldLinkNest RX2 32 "OrielChart$Flow" "reached" "J" "OrielChart" ∈ lw_tbl := inT1 _ (List.mem_of_getElem? (i := 100) rfl)
theorem nt_35 : Cond.fieldLinkNest RX7 139 "OrielChart$Flow" "reached" "J" "OrielChart" ∈ lw_tbl := inT1 _ (List.mem_of_getElem? (i := 102) rfl)
theorem nt_36 : Cond.fieldLinkNest RX7 333 "OrielChart$Flow" "fresh" "Z" "OrielChart" ∈ lw_tbl := inT1 _ (List.mem_of_getElem? (i := 103) rfl)
theorem nt_37 : Cond.methodLinkNest RX7 25 yX4_init "OrielChart" ∈ lw_tbl := inT1 _ (List.mem_of_getElem? (i := 130) rfl)
theorem nt_38 : Cond.fieldLinkNest RX7 181 "OrielChart$Ranks" "loop" "[J" "OrielChart" ∈ lw_tbl := inT1 _ (List.mem_of_getElem? (i := 136) rfl)
theorem nt_39 : Cond.fieldLinkNest RX7 178 "OrielChart$Ranks" "loopCount" "I" "OrielChart" ∈ lw_tbl := inT1 _ (List.mem_of_getElem? (i := 140) rfl)
theorem nt_40 : Cond.fieldLinkNest RX7 197 "OrielChart$Ranks" "tame" "Z" "OrielChart" ∈ lw_tbl := inT1 _ (List.mem_of_getElem? (i := 142) rfl)
theorem nt_41 : Cond.fieldLinkNest RX7 334 "OrielChart$Ranks" "fresh" "Z" "OrielChart" ∈ lw_tbl := inT1 _ (List.mem_of_getElem? (i := 143) rfl)
theorem nt_42 : Cond.methodLinkNest RX7 32 yX2_init "OrielChart" ∈ lw_tbl := inT1 _ (List.mem_of_getElem? (i := 161) rfl)
theorem nt_43 : Cond.fieldLinkNest RX7 204 "OrielChart$Lives" "live" "[I" "OrielChart" ∈ lw_tbl := inT1 _ (List.mem_of_getElem? (i := 166) rfl)
theorem nt_44 : Cond.fieldLinkNest RX7 207 "OrielChart$Lives" "vainCount" "I" "OrielChart" ∈ lw_tbl := inT1 _ (List.mem_of_getElem? (i := 168) rfl)
theorem nt_45 : Cond.fieldLinkNest RX7 119 "OrielChart$Lives" "fresh" "Z" "OrielChart" ∈ lw_tbl := inT1 _ (List.mem_of_getElem? (i := 169) rfl)
theorem nt_46 : Cond.methodLinkNest RX7 39 yX5_init "OrielChart" ∈ lw_tbl := inT1 _ (List.mem_of_getElem? (i := 179) rfl)
theorem nt_47 : Cond.fieldLinkNest RX7 233 "OrielChart$Reduction" "home" "[I" "OrielChart" ∈ lw_tbl := inT1 _ (List.mem_of_getElem? (i := 185) rfl)
theorem nt_48 : Cond.fieldLinkNest RX7 224 "OrielChart$Reduction" "rule" "[I" "OrielChart" ∈ lw_tbl := inT1 _ (List.mem_of_getElem? (i := 187) rfl)
theorem nt_49 : Cond.fieldLinkNest RX7 227 "OrielChart$Reduction" "node" "[I" "OrielChart" ∈ lw_tbl := inT1 _ (List.mem_of_getElem? (i := 189) rfl)
theorem nt_50 : Cond.fieldLinkNest RX7 230 "OrielChart$Reduction" "nodes" "J" "OrielChart" ∈ lw_tbl := inT1 _ (List.mem_of_getElem? (i := 192) rfl)
theorem nt_51 : Cond.fieldLinkNest RX7 218 "OrielChart$Reduction" "stepCount" "I" "OrielChart" ∈ lw_tbl := inT1 _ (List.mem_of_getElem? (i := 194) rfl)
theorem nt_52 : Cond.fieldLinkNest RX7 335 "OrielChart$Reduction" "fresh" "Z" "OrielChart" ∈ lw_tbl := inT1 _ (List.mem_of_getElem? (i := 195) rfl)
theorem nt_53 : Cond.methodLinkNest RX7 46 yX3_init "OrielChart" ∈ lw_tbl := inT1 _ (List.mem_of_getElem? (i := 215) rfl)
theorem nt_54 : Cond.methodLinkNest RX3 11 yX6_init "OrielChart" ∈ lw_tbl := inT1 _ (List.mem_of_getElem? (i := 221) rfl)
theorem nt_55 : Cond.fieldLinkNest RX3 124 "OrielChart$Walk" "came" "[I" "OrielChart" ∈ lw_tbl := inT1 _ (List.mem_of_getElem? (i := 226) rfl)
theorem nt_56 : Cond.fieldLinkNest RX3 115 "OrielChart$Walk" "upper" "[I" "OrielChart" ∈ lw_tbl := inT1 _ (List.mem_of_getElem? (i := 228) rfl)
theorem nt_57 : Cond.fieldLinkNest RX3 108 "OrielChart$Walk" "lower" "[I" "OrielChart" ∈ lw_tbl := inT1 _ (List.mem_of_getElem? (i := 230) rfl)
theorem nt_58 : Cond.fieldLinkNest RX3 121 "OrielChart$Walk" "cameCount" "I" "OrielChart" ∈ lw_tbl := inT1 _ (List.mem_of_getElem? (i := 234) rfl)
theorem nt_59 : Cond.fieldLinkNest RX3 83 "OrielChart$Walk" "seen" "J" "OrielChart" ∈ lw_tbl := inT1 _ (List.mem_of_getElem? (i := 237) rfl)
theorem nt_60 : Cond.fieldLinkNest RX7 244 "OrielChart$Picture" "walk" "LOrielChart$Walk;" "OrielChart" ∈ lw_tbl := inT2 _ (List.mem_of_getElem? (i := 19) rfl)
theorem nt_61 : Cond.fieldLinkNest RX7 241 "OrielChart$Picture" "layer" "[I" "OrielChart" ∈ lw_tbl := inT2 _ (List.mem_of_getElem? (i := 21) rfl)
theorem nt_62 : Cond.fieldLinkNest RX7 238 "OrielChart$Picture" "layerCount" "I" "OrielChart" ∈ lw_tbl := inT2 _ (List.mem_of_getElem? (i := 34) rfl)
theorem nt_63 : Cond.fieldLinkNest RX7 289 "OrielChart$Picture" "sweeps" "I" "OrielChart" ∈ lw_tbl := inT2 _ (List.mem_of_getElem? (i := 36) rfl)
theorem nt_64 : Cond.fieldLinkNest RX7 336 "OrielChart$Picture" "fresh" "Z" "OrielChart" ∈ lw_tbl := inT2 _ (List.mem_of_getElem? (i := 37) rfl)
theorem nt_65 : Cond.methodLinkNest RX1 80 yX7_at "OrielChart" ∈ lw_tbl := inT2 _ (List.mem_of_getElem? (i := 109) rfl)
theorem nt_66 : Cond.methodLinkNest RX1 65 yX7_bit "OrielChart" ∈ lw_tbl := inT2 _ (List.mem_of_getElem? (i := 112) rfl)
theorem nt_67 : Cond.methodLinkNest RX1 84 yX7_jumps "OrielChart" ∈ lw_tbl := inT2 _ (List.mem_of_getElem? (i := 115) rfl)
theorem nt_68 : Cond.methodLinkNest RX1 91 yX7_has "OrielChart" ∈ lw_tbl := inT2 _ (List.mem_of_getElem? (i := 122) rfl)
theorem nt_69 : Cond.methodLinkNest RX1 54 yX7_put "OrielChart" ∈ lw_tbl := inT2 _ (List.mem_of_getElem? (i := 125) rfl)
theorem nt_70 : Cond.methodLinkNest RX1 58 yX7_put_ "OrielChart" ∈ lw_tbl := inT2 _ (List.mem_of_getElem? (i := 128) rfl)
theorem nt_71 : Cond.methodLinkNest RX1 99 yX7_at_ "OrielChart" ∈ lw_tbl := inT2 _ (List.mem_of_getElem? (i := 139) rfl)
theorem nt_72 : Cond.methodLinkNest RX1 69 yX7_spread "OrielChart" ∈ lw_tbl := inT2 _ (List.mem_of_getElem? (i := 142) rfl)
theorem nt_73 : Cond.methodLinkNest RX4 30 yX7_has "OrielChart" ∈ lw_tbl := inT2 _ (List.mem_of_getElem? (i := 173) rfl)
theorem nt_74 : Cond.methodLinkNest RX4 72 yX7_bit "OrielChart" ∈ lw_tbl := inT2 _ (List.mem_of_getElem? (i := 177) rfl)
theorem nt_75 : Cond.methodLinkNest RX4 65 yX7_spread "OrielChart" ∈ lw_tbl := inT2 _ (List.mem_of_getElem? (i := 178) rfl)
theorem nt_76 : Cond.methodLinkNest RX4 38 yX7_put_ "OrielChart" ∈ lw_tbl := inT2 _ (List.mem_of_getElem? (i := 180) rfl)
theorem nt_77 : Cond.methodLinkNest RX4 85 yX7_at "OrielChart" ∈ lw_tbl := inT2 _ (List.mem_of_getElem? (i := 185) rfl)
theorem nt_78 : Cond.methodLinkNest RX4 61 yX7_at_ "OrielChart" ∈ lw_tbl := inT2 _ (List.mem_of_getElem? (i := 186) rfl)
theorem nt_79 : Cond.methodLinkNest RX2 15 yX7_put "OrielChart" ∈ lw_tbl := inT2 _ (List.mem_of_getElem? (i := 211) rfl)
theorem nt_80 : Cond.methodLinkNest RX2 36 yX7_has "OrielChart" ∈ lw_tbl := inT2 _ (List.mem_of_getElem? (i := 216) rfl)
theorem nt_81 : Cond.methodLinkNest RX2 71 yX7_at_ "OrielChart" ∈ lw_tbl := inT2 _ (List.mem_of_getElem? (i := 221) rfl)
theorem nt_82 : Cond.methodLinkNest RX2 51 yX7_at "OrielChart" ∈ lw_tbl := inT2 _ (List.mem_of_getElem? (i := 222) rfl)
theorem nt_83 : Cond.methodLinkNest RX5 41 yX7_has "OrielChart" ∈ lw_tbl := inT3 _ (List.mem_of_getElem? (i := 11) rfl)
theorem nt_84 : Cond.methodLinkNest RX5 46 yX7_at_ "OrielChart" ∈ lw_tbl := inT3 _ (List.mem_of_getElem? (i := 12) rfl)
theorem nt_85 : Cond.methodLinkNest RX5 50 yX7_put_ "OrielChart" ∈ lw_tbl := inT3 _ (List.mem_of_getElem? (i := 13) rfl)
theorem nt_86 : Cond.methodLinkNest RX5 54 yX7_put "OrielChart" ∈ lw_tbl := inT3 _ (List.mem_of_getElem? (i := 14) rfl)
theorem nt_87 : Cond.methodLinkNest RX5 72 yX7_bit "OrielChart" ∈ lw_tbl := inT3 _ (List.mem_of_getElem? (i := 23) rfl)
theorem nt_88 : Cond.methodLinkNest RX5 84 yX7_lowest "OrielChart" ∈ lw_tbl := inT3 _ (List.mem_of_getElem? (i := 30) rfl)
theorem nt_89 : Cond.methodLinkNest RX5 87 yX7_at "OrielChart" ∈ lw_tbl := inT3 _ (List.mem_of_getElem? (i := 31) rfl)
theorem nt_90 : Cond.methodLinkNest RX6 41 yX7_put "OrielChart" ∈ lw_tbl := inT3 _ (List.mem_of_getElem? (i := 72) rfl)
theorem nt_91 : Cond.methodLinkNest RX6 54 yX7_at "OrielChart" ∈ lw_tbl := inT3 _ (List.mem_of_getElem? (i := 77) rfl)
theorem nt_92 : Cond.methodLinkNest RX6 64 yX7_bit "OrielChart" ∈ lw_tbl := inT3 _ (List.mem_of_getElem? (i := 78) rfl)
theorem nt_93 : Cond.methodLinkNest RX6 73 yX7_has "OrielChart" ∈ lw_tbl := inT3 _ (List.mem_of_getElem? (i := 84) rfl)
theorem nt_94 : Cond.methodLinkNest RX3 87 yX7_has "OrielChart" ∈ lw_tbl := inT3 _ (List.mem_of_getElem? (i := 89) rfl)
theorem nt_95 : Cond.methodLinkNest RX3 75 yX7_put "OrielChart" ∈ lw_tbl := inT3 _ (List.mem_of_getElem? (i := 90) rfl)
theorem nt_96 : Cond.methodLinkNest RX3 95 yX7_at "OrielChart" ∈ lw_tbl := inT3 _ (List.mem_of_getElem? (i := 99) rfl)
theorem nt_97 : Cond.methodLinkNest RX0 39 yX7_at "OrielChart" ∈ lw_tbl := inT4 _ (List.mem_of_getElem? (i := 91) rfl)
theorem nt_98 : Cond.methodLinkNest RX0 35 yX7_put "OrielChart" ∈ lw_tbl := inT4 _ (List.mem_of_getElem? (i := 95) rfl)
theorem nt_99 : Cond.castable "java/lang/IllegalArgumentException" "java/lang/IllegalArgumentException" ∈ lw_tbl := inT3 _ (List.mem_of_getElem? (i := 235) rfl)
theorem nt_100 : Cond.declares ⟨"java/lang/RuntimeException", "<init>", "()V"⟩ ∈ lw_tbl := inT3 _ (List.mem_of_getElem? (i := 236) rfl)
theorem nt_101 : Cond.declares ⟨"java/lang/RuntimeException", "<init>", "(Ljava/lang/String;)V"⟩ ∈ lw_tbl := inT3 _ (List.mem_of_getElem? (i := 237) rfl)
theorem nt_102 : Cond.declares ⟨"java/lang/Exception", "<init>", "()V"⟩ ∈ lw_tbl := inT3 _ (List.mem_of_getElem? (i := 238) rfl)
theorem nt_103 : Cond.declares ⟨"java/lang/Exception", "<init>", "(Ljava/lang/String;)V"⟩ ∈ lw_tbl := inT3 _ (List.mem_of_getElem? (i := 239) rfl)
theorem nt_104 : Cond.declares ⟨"java/lang/Throwable", "<init>", "()V"⟩ ∈ lw_tbl := inT4 _ (List.mem_of_getElem? (i := 0) rfl)
theorem nt_105 : Cond.declares ⟨"java/lang/Throwable", "<init>", "(Ljava/lang/String;)V"⟩ ∈ lw_tbl := inT4 _ (List.mem_of_getElem? (i := 1) rfl)
theorem nt_106 : Cond.castable "java/lang/IllegalStateException" "java/lang/IllegalStateException" ∈ lw_tbl := inT4 _ (List.mem_of_getElem? (i := 69) rfl)
theorem nt_107 : Cond.castable "java/lang/IndexOutOfBoundsException" "java/lang/IndexOutOfBoundsException" ∈ lw_tbl := inT4 _ (List.mem_of_getElem? (i := 118) rfl)
theorem nt_108 : Cond.castable "[I" "java/lang/Cloneable" ∈ lw_tbl := inT6 _ (List.mem_of_getElem? (i := 228) rfl)
theorem nt_109 : Cond.castable "[[I" "java/lang/Cloneable" ∈ lw_tbl := inT7 _ (List.mem_of_getElem? (i := 212) rfl)
theorem nl_tbl : ∀ w ∈ NLm, w ∈ lw_tbl := List.forall_mem_cons.mpr ⟨nt_0, List.forall_mem_cons.mpr ⟨nt_1, List.forall_mem_cons.mpr ⟨nt_2, List.forall_mem_cons.mpr ⟨nt_3, List.forall_mem_cons.mpr ⟨nt_4, List.forall_mem_cons.mpr ⟨nt_5, List.forall_mem_cons.mpr ⟨nt_6, List.forall_mem_cons.mpr ⟨nt_7, List.forall_mem_cons.mpr ⟨nt_8, List.forall_mem_cons.mpr ⟨nt_9, List.forall_mem_cons.mpr ⟨nt_10, List.forall_mem_cons.mpr ⟨nt_11, List.forall_mem_cons.mpr ⟨nt_12, List.forall_mem_cons.mpr ⟨nt_13, List.forall_mem_cons.mpr ⟨nt_14, List.forall_mem_cons.mpr ⟨nt_15, List.forall_mem_cons.mpr ⟨nt_16, List.forall_mem_cons.mpr ⟨nt_17, List.forall_mem_cons.mpr ⟨nt_18, List.forall_mem_cons.mpr ⟨nt_19, List.forall_mem_cons.mpr ⟨nt_20, List.forall_mem_cons.mpr ⟨nt_21, List.forall_mem_cons.mpr ⟨nt_22, List.forall_mem_cons.mpr ⟨nt_23, List.forall_mem_cons.mpr ⟨nt_24, List.forall_mem_cons.mpr ⟨nt_25, List.forall_mem_cons.mpr ⟨nt_26, List.forall_mem_cons.mpr ⟨nt_27, List.forall_mem_cons.mpr ⟨nt_28, List.forall_mem_cons.mpr ⟨nt_29, List.forall_mem_cons.mpr ⟨nt_30, List.forall_mem_cons.mpr ⟨nt_31, List.forall_mem_cons.mpr ⟨nt_32, List.forall_mem_cons.mpr ⟨nt_33, List.forall_mem_cons.mpr ⟨nt_34, List.forall_mem_cons.mpr ⟨nt_35, List.forall_mem_cons.mpr ⟨nt_36, List.forall_mem_cons.mpr ⟨nt_37, List.forall_mem_cons.mpr ⟨nt_38, List.forall_mem_cons.mpr ⟨nt_39, List.forall_mem_cons.mpr ⟨nt_40, List.forall_mem_cons.mpr ⟨nt_41, List.forall_mem_cons.mpr ⟨nt_42, List.forall_mem_cons.mpr ⟨nt_43, List.forall_mem_cons.mpr ⟨nt_44, List.forall_mem_cons.mpr ⟨nt_45, List.forall_mem_cons.mpr ⟨nt_46, List.forall_mem_cons.mpr ⟨nt_47, List.forall_mem_cons.mpr ⟨nt_48, List.forall_mem_cons.mpr ⟨nt_49, List.forall_mem_cons.mpr ⟨nt_50, List.forall_mem_cons.mpr ⟨nt_51, List.forall_mem_cons.mpr ⟨nt_52, List.forall_mem_cons.mpr ⟨nt_53, List.forall_mem_cons.mpr ⟨nt_54, List.forall_mem_cons.mpr ⟨nt_55, List.forall_mem_cons.mpr ⟨nt_56, List.forall_mem_cons.mpr ⟨nt_57, List.forall_mem_cons.mpr ⟨nt_58, List.forall_mem_cons.mpr ⟨nt_59, List.forall_mem_cons.mpr ⟨nt_60, List.forall_mem_cons.mpr ⟨nt_61, List.forall_mem_cons.mpr ⟨nt_62, List.forall_mem_cons.mpr ⟨nt_63, List.forall_mem_cons.mpr ⟨nt_64, List.forall_mem_cons.mpr ⟨nt_65, List.forall_mem_cons.mpr ⟨nt_66, List.forall_mem_cons.mpr ⟨nt_67, List.forall_mem_cons.mpr ⟨nt_68, List.forall_mem_cons.mpr ⟨nt_69, List.forall_mem_cons.mpr ⟨nt_70, List.forall_mem_cons.mpr ⟨nt_71, List.forall_mem_cons.mpr ⟨nt_72, List.forall_mem_cons.mpr ⟨nt_73, List.forall_mem_cons.mpr ⟨nt_74, List.forall_mem_cons.mpr ⟨nt_75, List.forall_mem_cons.mpr ⟨nt_76, List.forall_mem_cons.mpr ⟨nt_77, List.forall_mem_cons.mpr ⟨nt_78, List.forall_mem_cons.mpr ⟨nt_79, List.forall_mem_cons.mpr ⟨nt_80, List.forall_mem_cons.mpr ⟨nt_81, List.forall_mem_cons.mpr ⟨nt_82, List.forall_mem_cons.mpr ⟨nt_83, List.forall_mem_cons.mpr ⟨nt_84, List.forall_mem_cons.mpr ⟨nt_85, List.forall_mem_cons.mpr ⟨nt_86, List.forall_mem_cons.mpr ⟨nt_87, List.forall_mem_cons.mpr ⟨nt_88, List.forall_mem_cons.mpr ⟨nt_89, List.forall_mem_cons.mpr ⟨nt_90, List.forall_mem_cons.mpr ⟨nt_91, List.forall_mem_cons.mpr ⟨nt_92, List.forall_mem_cons.mpr ⟨nt_93, List.forall_mem_cons.mpr ⟨nt_94, List.forall_mem_cons.mpr ⟨nt_95, List.forall_mem_cons.mpr ⟨nt_96, List.forall_mem_cons.mpr ⟨nt_97, List.forall_mem_cons.mpr ⟨nt_98, List.forall_mem_cons.mpr ⟨nt_99, List.forall_mem_cons.mpr ⟨nt_100, List.forall_mem_cons.mpr ⟨nt_101, List.forall_mem_cons.mpr ⟨nt_102, List.forall_mem_cons.mpr ⟨nt_103, List.forall_mem_cons.mpr ⟨nt_104, List.forall_mem_cons.mpr ⟨nt_105, List.forall_mem_cons.mpr ⟨nt_106, List.forall_mem_cons.mpr ⟨nt_107, List.forall_mem_cons.mpr ⟨nt_108, List.forall_mem_cons.mpr ⟨nt_109, fun _ h => absurd h List.not_mem_nil⟩⟩⟩⟩⟩⟩⟩⟩⟩⟩⟩⟩⟩⟩⟩⟩⟩⟩⟩⟩⟩⟩⟩⟩⟩⟩⟩⟩⟩⟩⟩⟩⟩⟩⟩⟩⟩⟩⟩⟩⟩⟩⟩⟩⟩⟩⟩⟩⟩⟩⟩⟩⟩⟩⟩⟩⟩⟩⟩⟩⟩⟩⟩⟩⟩⟩⟩⟩⟩⟩⟩⟩⟩⟩⟩⟩⟩⟩⟩⟩⟩⟩⟩⟩⟩⟩⟩⟩⟩⟩⟩⟩⟩⟩⟩⟩⟩⟩⟩⟩⟩⟩⟩⟩⟩⟩⟩⟩⟩⟩
/-! ===== contracts in one form: the whole world goes in and comes back; one list of words for all methods ===== -/
def isNest : Cond → Bool
  | .fieldLinkNest _ _ _ _ _ _ => true
  | .methodLinkNest _ _ _ _ => true
  | .declares _ => true
  | .castable _ _ => true
  | _ => false
theorem nest_warm {w : Cond} {s U : State} (h1 : isNest w = true) (hW : s.WarmedH U.vm) (h : va_Nw w s) : va_Nw w U := by
  cases w <;> first | exact va_Nw.warmF hW h | exact va_Nw.warmM hW h | exact va_Nw.warmD hW h | exact va_Nw.warmC hW h | (simp [isNest] at h1)
theorem nest_same {w : Cond} {s U : State} (h1 : isNest w = true) (hv : s.vm = U.vm) (h : va_Nw w s) : va_Nw w U := by
  cases w <;> first | exact va_Nw.same rfl hv h | (simp [isNest] at h1)
theorem nest_use {w : Cond} {s : State} {args : Array Value} (h1 : isNest w = true) (h : va_Nw w s) : w.before args s = true := by
  cases w <;> first | exact va_Nw.use rfl h | (simp [isNest] at h1)
theorem nest_of {w : Cond} {s : State} {args : Array Value} (h1 : isNest w = true) (h : w.before args s = true) : va_Nw w s := by
  cases w <;> first | exact va_Nw.of rfl h | (simp [isNest] at h1)
theorem nl_all : NLm.all isNest = true := by decide +kernel
def OV (U : State) : Prop := (Cond.arrayOver (.array .int)).before #[] U = true
def NW (U : State) : Prop := (∀ w ∈ NLm, va_Nw w U) ∧ OV U
theorem NW.warm {s U : State} (h : NW s) (hW : s.WarmedH U.vm) : NW U := ⟨fun w hw => nest_warm (List.all_eq_true.mp nl_all w hw) hW (h.1 w hw), over_moved hW.alike h.2⟩
theorem NW.same {s U : State} (h : NW s) (hv : s.vm = U.vm) : NW U := ⟨fun w hw => nest_same (List.all_eq_true.mp nl_all w hw) hv (h.1 w hw), over_moved (hv ▸ Vm.Alike.refl s.vm) h.2⟩
theorem NW.use {s : State} {args : Array Value} (h : NW s) {w : Cond} (hw : w ∈ NLm) : w.before args s = true := nest_use (List.all_eq_true.mp nl_all w hw) (h.1 w hw)
def GW : List Cond := lw_tbl.filter goodWord
theorem gw_mem {w : Cond} (h : w ∈ lw_tbl) (hg : goodWord w = true) : w ∈ GW := List.mem_filter.mpr ⟨h, hg⟩
theorem gw_tbl {w : Cond} (h : w ∈ GW) : w ∈ lw_tbl := (List.mem_filter.mp h).1
theorem gw_ok {w : Cond} (h : w ∈ GW) : (w.onTables && w.keeps) = true ∨ ∃ ty, w = .arrayClass ty := good_of_word (List.mem_filter.mp h).2
theorem gw_in {ck : Cond} (h : ck ∈ GW) : GoodIn GW (ck :: GW) := fun w hw => by
  rcases List.mem_cons.mp hw with rfl | h9
  · exact ⟨h, gw_ok h⟩
  · exact ⟨h9, gw_ok h9⟩
theorem gw_V {ck : Cond} {own C : String} {idx : Nat} {y : MethodName} (h : ck ∈ GW) (h1 : Cond.methodLink own idx y ∈ GW) (h2 : Cond.instanceMethod y ∈ GW) (h3 : Cond.selects C y y ∈ GW) (h4 : Cond.initialized C ∈ GW) : GoodIn GW (wsV own idx C y (ck :: GW)) := fun w hw => by
  rcases List.mem_append.mp hw with h9 | h9
  · simp only [List.mem_cons, List.not_mem_nil, or_false] at h9
    rcases h9 with rfl | rfl | rfl | rfl
    · exact ⟨h1, gw_ok h1⟩
    · exact ⟨h2, gw_ok h2⟩
    · exact ⟨h3, gw_ok h3⟩
    · exact ⟨h4, gw_ok h4⟩
  · exact gw_in h w h9
theorem gw_S {ck : Cond} {own : String} {idx : Nat} {y : MethodName} (h : ck ∈ GW) (h1 : Cond.methodLink own idx y ∈ GW) (h2 : Cond.static y ∈ GW) (h4 : Cond.initialized y.cls ∈ GW) : GoodIn GW (va_wsS own idx y (ck :: GW)) := fun w hw => by
  rcases List.mem_append.mp hw with h9 | h9
  · simp only [List.mem_cons, List.not_mem_nil, or_false] at h9
    rcases h9 with rfl | rfl | rfl
    · exact ⟨h1, gw_ok h1⟩
    · exact ⟨h2, gw_ok h2⟩
    · exact ⟨h4, gw_ok h4⟩
  · exact gw_in h w h9
def PB (D : va_G) (tys : List (ClassId × FieldType)) (w : va_W) (sz : Nat) : State → Prop := fun U => U.heap.size = sz ∧ va_P D vwCl w U.heap ∧ va_K D vwCl tys U ∧ va_D (fun _ => True) w ∧ NW U
def BW (D : va_G) (tys : List (ClassId × FieldType)) (A : Nat → Prop) : va_W → State → Prop := fun u t => va_P D vwCl u t.heap ∧ va_K D vwCl tys t ∧ va_D A u
def rmf (d mc ms : Nat) : Room := { frames := d, cells := mc, slots := ms, locals := 48 * d }
abbrev CT (l : Launch) (D : va_G) (tys : List (ClassId × FieldType)) (y : MethodName) (ck : Cond) (d mc ms : Nat) (w : va_W) (As : List Value) (Qc : (Nat → Prop) → Array Value → State → Outcome → State → Prop) : Prop :=
  ∀ sz : Nat, Met l y (ck :: GW) (rmf d mc ms) (va_Pc As (PB D tys w sz)) (Qc (va_A w sz)) mc ms (va_A w sz)
abbrev QI (D : va_G) (tys : List (ClassId × FieldType)) (post : Int32 → va_W → Prop) : (Nat → Prop) → Array Value → State → Outcome → State → Prop := fun A => va_Qi post (BW D tys A) A
abbrev QL (D : va_G) (tys : List (ClassId × FieldType)) (post : Int64 → va_W → Prop) : (Nat → Prop) → Array Value → State → Outcome → State → Prop := fun A => va_Ql post (BW D tys A) A
abbrev QD (D : va_G) (tys : List (ClassId × FieldType)) (post : UInt64 → va_W → Prop) : (Nat → Prop) → Array Value → State → Outcome → State → Prop := fun A => va_Qd post (BW D tys A) A
abbrev QV (D : va_G) (tys : List (ClassId × FieldType)) (post : va_W → Prop) : (Nat → Prop) → Array Value → State → Outcome → State → Prop := fun A => va_Qv post (BW D tys A) A
abbrev QR (D : va_G) (tys : List (ClassId × FieldType)) (post : Nat → va_W → Prop) : (Nat → Prop) → Array Value → State → Outcome → State → Prop := fun A => va_Qr (fun _ : va_W => True) (fun u ra t => post ra u ∧ BW D tys A u t) A
theorem blindPB {As : List Value} {D : va_G} {tys : List (ClassId × FieldType)} {w : va_W} {sz : Nat} : FrameBlind (va_Pc As (PB D tys w sz)) := fun a U g mk q => by
  obtain ⟨q0, q1, qP, qK, qD, qN⟩ := q
  exact ⟨q0, q1, qP, va_K.moved (u := U) (U := U.calling g mk a) (Vm.Alike.refl U.vm) qK, qD, qN.same rfl⟩
/-- a method's entry -/
theorem ent {l : Launch} {D : va_G} {tys : List (ClassId × FieldType)} {y : MethodName} {cc : ByteArray} {maxL : Nat} {ret : Option FieldType} {d mc ms : Nat} {w : va_W} {As : List Value} {Qc : (Nat → Prop) → Array Value → State → Outcome → State → Prop} (hy : plainName y.cls = true) (hlen : (lg_sl As).length ≤ maxL)
    (body : ∀ (p : Program) (e : Env) (s : State) (m : MethodId) (below : List Frame) (meth : Method) (c : Code) (ls : Array Slot) (A : Nat → Prop), p.tables.exec = Jvm.exec → c.code = cc → meth.sig.returnType = ret → (∀ w ∈ GW, w.before As.toArray s = true) → s.vm.findClass y.cls = some m.cls → c.maxLocals = maxL → meth.locks = false → meth.name = y.name →
      va_P D vwCl w s.heap → va_K D vwCl tys s → va_D A w → va_S A s.heap s.heap [] → (∀ q, s.heap.size ≤ q → A q) → NW s → lv_has ls maxL (lv_args 0 As) →
      W p l e (rmf d mc ms) s m As.toArray below meth c s.heap [] 0 0 (MQ below (Qc A) As.toArray s mc ms A) (F0 m 0 ls [])) : CT l D tys y (.code y cc maxL ret) d mc ms w As Qc := by
  intro sz
  refine Met.ofW (cc := cc) (maxL := maxL) (ret := ret) hy rfl ?_
  intro p e s m args below meth c s₁ B hml hv
  obtain ⟨rfl, hsz, hP, hK, hD0, hN⟩ := hv
  have hts := atoms_spec (ws := (.code y cc maxL ret) :: GW) B.pre
  subst hsz
  have hD := hD0.self (sz := s.heap.size)
  have hl := lv_entry As (n := maxL) hlen
  rw [lg_entry_eq]
  exact body p e s m below meth c _ (va_A w s.heap.size) B.exec B.bytes B.returns (fun w hw => hts w (List.mem_cons_of_mem _ hw)) (findClass_of_methodNamed B.named) hml B.notSynchronized (name_of_methodNamed B.named B.method).1 hP hK hD va_S.rf (fun q h => Or.inr h) hN hl
section XR
variable {p : Program} {l : Launch} {e : Env} {R : Room} {s : State} {m : MethodId} {args : Array Value} {below : List Frame} {meth : Method} {c : Code} {H : Heap} {locs : List Loc} {cells slots : Nat} {Q : State → Prop}
variable {cc bytes : ByteArray} {pc : Nat} {ls : Array Slot} {st0 rest : List Value} {D : va_G} {tys : List (ClassId × FieldType)} {A : Nat → Prop} {w : va_W}
variable {y : MethodName} {maxL nL mc ms n index d q0 ci N b : Nat} {ret : Option FieldType} {own C : String} {T : u_T} {As fs : List Value} {Qc : (Nat → Prop) → Array Value → State → Outcome → State → Prop} {host : String}
theorem hpre (hK : va_K D vwCl tys s) (hN : NW s) (hP : va_P D vwCl w H) (hD : va_D A w) (av : List Value) : PreS s H (va_Pc av (PB D tys w H.size)) av :=
  ⟨blindPB, fun U hU hW => ⟨rfl, by rw [hU], by rw [hU]; exact hP, va_K.moved hW.alike hK, hD.weaken (fun _ _ _ _ => trivial), hN.warm hW⟩⟩
theorem rV (hx : p.tables.exec = Jvm.exec) (hb : c.code = cc) (hml : c.maxLocals = nL) (hown : s.vm.findClass own = some m.cls) (hg : ∀ w ∈ GW, w.before args s = true) (hN : NW s) (hK : va_K D vwCl tys s) (hP : va_P D vwCl w H) (hD : va_D A w)
    (hM : CT l D tys y (.code y bytes maxL ret) d mc ms w (.ref b :: As) Qc) (m5 : Cond.code y bytes maxL ret ∈ GW) (m1 : Cond.methodLink own index y ∈ GW) (m2 : Cond.instanceMethod y ∈ GW) (m3 : Cond.selects C y y ∈ GW) (m4 : Cond.initialized C ∈ GW)
    (hd : y.cls = C ∧ y.cls ≠ "java/lang/invoke/MethodHandle" ∧ y.cls ≠ "java/lang/invoke/VarHandle" ∧ (parseMethodDescriptor y.desc).map (fun d => d.parameters.length) = some n) (hR : (rmf d mc ms).frames + 1 ≤ R.frames ∧ 8 + (maxL + 11) + (rmf d mc ms).locals ≤ R.locals)
    (hc : vwCl[ci]? = some (C, T, N)) (hq : w[q0]? = some (b, .inr (ci, fs))) (hn : As.length = n) (hl : ls.size = nL) (hst : st0 = As.reverse ++ .ref b :: rest) (hW : (rest.map fun v => v.category).sum ≤ 8) (hdg : decode cc pc = .ok (.invokevirtual index, 3)) (hf : cells + mc ≤ R.cells ∧ slots + ms ≤ R.slots) :
    va_Run p l e R s m args below meth c H locs cells slots mc ms (F0 m pc ls st0) rest (Qc (va_A w H.size) (Value.ref b :: As).toArray) (va_A w H.size) :=
  va_runV (As := As) (rest := rest) (C := C) ⟨hx, hb, hml, hown, hg⟩ (hM H.size) (cwV n hg (gw_V m5 m1 m2 m3 m4) rfl rfl rfl hd hR) ⟨blindPB, va_recv (ci := ci) (q0 := q0) hK hP hc hq, (hpre hK hN hP hD _).2⟩ rfl hn hl hst (lv_room (m := m) (pc := pc) (ls := ls) (rest := st0) hW) hdg hf
theorem rS (hx : p.tables.exec = Jvm.exec) (hb : c.code = cc) (hml : c.maxLocals = nL) (hown : s.vm.findClass own = some m.cls) (hg : ∀ w ∈ GW, w.before args s = true) (hN : NW s) (hK : va_K D vwCl tys s) (hP : va_P D vwCl w H) (hD : va_D A w)
    (hM : CT l D tys y (.code y bytes maxL ret) d mc ms w As Qc) (m5 : Cond.code y bytes maxL ret ∈ GW) (m1 : Cond.methodLink own index y ∈ GW) (m2 : Cond.static y ∈ GW) (m4 : Cond.initialized y.cls ∈ GW)
    (hd : y.cls ≠ "java/lang/invoke/MethodHandle" ∧ y.cls ≠ "java/lang/invoke/VarHandle" ∧ (parseMethodDescriptor y.desc).map (fun d => d.parameters.length) = some n) (hR : (rmf d mc ms).frames + 1 ≤ R.frames ∧ 8 + (maxL + 11) + (rmf d mc ms).locals ≤ R.locals)
    (hn : As.length = n) (hl : ls.size = nL) (hst : st0 = As.reverse ++ rest) (hW : (rest.map fun v => v.category).sum ≤ 8) (hdg : decode cc pc = .ok (.invokestatic index, 3)) (hf : cells + mc ≤ R.cells ∧ slots + ms ≤ R.slots) :
    va_Run p l e R s m args below meth c H locs cells slots mc ms (F0 m pc ls st0) rest (Qc (va_A w H.size) As.toArray) (va_A w H.size) :=
  va_runS (As := As) (rest := rest) ⟨hx, hb, hml, hown, hg⟩ (hM H.size) (va_cwS n hg (gw_S m5 m1 m2 m4) rfl rfl rfl hd hR) (hpre hK hN hP hD _) rfl hn hl hst (lv_room (m := m) (pc := pc) (ls := ls) (rest := st0) hW) hdg hf
theorem rSN (hx : p.tables.exec = Jvm.exec) (hb : c.code = cc) (hml : c.maxLocals = nL) (hown : s.vm.findClass own = some m.cls) (hg : ∀ w ∈ GW, w.before args s = true) (hN : NW s) (hK : va_K D vwCl tys s) (hP : va_P D vwCl w H) (hD : va_D A w)
    (hM : CT l D tys y (.code y bytes maxL ret) d mc ms w As Qc) (m5 : Cond.code y bytes maxL ret ∈ GW) (m1 : Cond.methodLinkNest own index y host ∈ NLm) (m2 : Cond.static y ∈ GW) (m4 : Cond.initialized y.cls ∈ GW)
    (hd : y.cls ≠ "java/lang/invoke/MethodHandle" ∧ y.cls ≠ "java/lang/invoke/VarHandle" ∧ (parseMethodDescriptor y.desc).map (fun d => d.parameters.length) = some n) (hR : (rmf d mc ms).frames + 1 ≤ R.frames ∧ 8 + (maxL + 11) + (rmf d mc ms).locals ≤ R.locals)
    (hn : As.length = n) (hl : ls.size = nL) (hst : st0 = As.reverse ++ rest) (hW : (rest.map fun v => v.category).sum ≤ 8) (hdg : decode cc pc = .ok (.invokestatic index, 3)) (hf : cells + mc ≤ R.cells ∧ slots + ms ≤ R.slots) :
    va_Run p l e R s m args below meth c H locs cells slots mc ms (F0 m pc ls st0) rest (Qc (va_A w H.size) As.toArray) (va_A w H.size) :=
  va_runSN (As := As) (rest := rest) (host := host) ⟨hx, hb, hml, hown, hg⟩ (hM H.size) ⟨va_cnB n hg (gw_in m5) rfl rfl rfl (hN.1 _ m1) (hg _ m4) hd hR, hg _ m2, trivial⟩ (hpre hK hN hP hD _) rfl hn hl hst (lv_room (m := m) (pc := pc) (ls := ls) (rest := st0) hW) hdg hf
theorem rI (hx : p.tables.exec = Jvm.exec) (hb : c.code = cc) (hml : c.maxLocals = nL) (hown : s.vm.findClass own = some m.cls) (hg : ∀ w ∈ GW, w.before args s = true) (hN : NW s) (hK : va_K D vwCl tys s) (hP : va_P D vwCl w H) (hD : va_D A w)
    (hM : CT l D tys y (.code y bytes maxL none) d mc ms w (.ref b :: As) Qc) (m5 : Cond.code y bytes maxL none ∈ GW) (m1 : Cond.methodLink own index y ∈ GW) (m2 : Cond.instanceMethod y ∈ GW) (m4 : Cond.initialized y.cls ∈ GW) (hy : y.name = "<init>")
    (hd : y.cls ≠ "java/lang/invoke/MethodHandle" ∧ y.cls ≠ "java/lang/invoke/VarHandle" ∧ (parseMethodDescriptor y.desc).map (fun d => d.parameters.length) = some n) (hR : (rmf d mc ms).frames + 1 ≤ R.frames ∧ 8 + (maxL + 11) + (rmf d mc ms).locals ≤ R.locals)
    (hn : As.length = n) (hl : ls.size = nL) (hst : st0 = As.reverse ++ .ref b :: rest) (hW : (rest.map fun v => v.category).sum ≤ 8) (hdg : decode cc pc = .ok (.invokespecial index, 3)) (hf : cells + mc ≤ R.cells ∧ slots + ms ≤ R.slots) :
    va_Run p l e R s m args below meth c H locs cells slots mc ms (F0 m pc ls st0) rest (Qc (va_A w H.size) (Value.ref b :: As).toArray) (va_A w H.size) :=
  va_runI (As := As) (rest := rest) ⟨hx, hb, hml, hown, hg⟩ (hM H.size) (cwI n hg (gw_in m5) rfl rfl rfl (hg _ m4) (hg _ m1) (hg _ m2) hy hd hR) (hpre hK hN hP hD _) rfl hn hl hst (lv_room (m := m) (pc := pc) (ls := ls) (rest := st0) hW) hdg hf
theorem rIN (hx : p.tables.exec = Jvm.exec) (hb : c.code = cc) (hml : c.maxLocals = nL) (hown : s.vm.findClass own = some m.cls) (hg : ∀ w ∈ GW, w.before args s = true) (hN : NW s) (hK : va_K D vwCl tys s) (hP : va_P D vwCl w H) (hD : va_D A w)
    (hM : CT l D tys y (.code y bytes maxL none) d mc ms w (.ref b :: As) Qc) (m5 : Cond.code y bytes maxL none ∈ GW) (m1 : Cond.methodLinkNest own index y host ∈ NLm) (m2 : Cond.instanceMethod y ∈ GW) (m4 : Cond.initialized y.cls ∈ GW) (hy : y.name = "<init>")
    (hd : y.cls ≠ "java/lang/invoke/MethodHandle" ∧ y.cls ≠ "java/lang/invoke/VarHandle" ∧ (parseMethodDescriptor y.desc).map (fun d => d.parameters.length) = some n) (hR : (rmf d mc ms).frames + 1 ≤ R.frames ∧ 8 + (maxL + 11) + (rmf d mc ms).locals ≤ R.locals)
    (hn : As.length = n) (hl : ls.size = nL) (hst : st0 = As.reverse ++ .ref b :: rest) (hW : (rest.map fun v => v.category).sum ≤ 8) (hdg : decode cc pc = .ok (.invokespecial index, 3)) (hf : cells + mc ≤ R.cells ∧ slots + ms ≤ R.slots) :
    va_Run p l e R s m args below meth c H locs cells slots mc ms (F0 m pc ls st0) rest (Qc (va_A w H.size) (Value.ref b :: As).toArray) (va_A w H.size) :=
  va_runIN (As := As) (rest := rest) (host := host) ⟨hx, hb, hml, hown, hg⟩ (hM H.size) ⟨va_cnB n hg (gw_in m5) rfl rfl rfl (hN.1 _ m1) (hg _ m4) hd hR, hy, hg _ m2⟩ (hpre hK hN hP hD _) rfl hn hl hst (lv_room (m := m) (pc := pc) (ls := ls) (rest := st0) hW) hdg hf
theorem fr_all {H0 : Heap} (hD : va_D A w) (hS : va_S A H0 H locs) (hA : ∀ q, H0.size ≤ q → A q) : ∀ q, va_A w H.size q → A q := fun q h => by
  rcases h with ⟨k, e, h⟩ | h
  · exact hD.2 k (q, e) h
  · exact hA q (Nat.le_trans hS.1 h)
variable {H0 : Heap} {a9 : Array Value}
theorem kI {post : Int32 → va_W → Prop} (hr : va_Run p l e R s m args below meth c H locs cells slots mc ms (F0 m pc ls st0) rest (QI D tys post (va_A w H.size) a9) (va_A w H.size)) (hD : va_D A w) (hS : va_S A H0 H locs) (hA : ∀ q, H0.size ≤ q → A q)
    (kk : ∀ (r : Int32) (u : va_W) (H1 : Heap) (locs1 : List Loc), post r u → va_P D vwCl u H1 → va_D A u → va_S A H0 H1 locs1 → W p l e R s m args below meth c H1 locs1 (cells + mc) (slots + ms) Q (F0 m (pc + 3) ls (.int r :: rest))) : W p l e R s m args below meth c H locs cells slots Q (F0 m pc ls st0) :=
  va_calli hr hS (fun q _ h => fr_all hD hS hA q h) (fr_all hD hS hA) (fun r u t H1 locs1 ht hvm hw hB hz1 hk1 hS1 => kk r u H1 locs1 hw (by rw [← ht]; exact hB.1) (hB.2.2.weaken (fun k q _ h => fr_all hD hS hA q.1 h)) hS1)
theorem kL {post : Int64 → va_W → Prop} (hr : va_Run p l e R s m args below meth c H locs cells slots mc ms (F0 m pc ls st0) rest (QL D tys post (va_A w H.size) a9) (va_A w H.size)) (hD : va_D A w) (hS : va_S A H0 H locs) (hA : ∀ q, H0.size ≤ q → A q)
    (kk : ∀ (r : Int64) (u : va_W) (H1 : Heap) (locs1 : List Loc), post r u → va_P D vwCl u H1 → va_D A u → va_S A H0 H1 locs1 → W p l e R s m args below meth c H1 locs1 (cells + mc) (slots + ms) Q (F0 m (pc + 3) ls (.long r :: rest))) : W p l e R s m args below meth c H locs cells slots Q (F0 m pc ls st0) :=
  va_calll hr hS (fun q _ h => fr_all hD hS hA q h) (fr_all hD hS hA) (fun r u t H1 locs1 ht hvm hw hB hz1 hk1 hS1 => kk r u H1 locs1 hw (by rw [← ht]; exact hB.1) (hB.2.2.weaken (fun k q _ h => fr_all hD hS hA q.1 h)) hS1)
theorem kD {post : UInt64 → va_W → Prop} (hr : va_Run p l e R s m args below meth c H locs cells slots mc ms (F0 m pc ls st0) rest (QD D tys post (va_A w H.size) a9) (va_A w H.size)) (hD : va_D A w) (hS : va_S A H0 H locs) (hA : ∀ q, H0.size ≤ q → A q)
    (kk : ∀ (r : UInt64) (u : va_W) (H1 : Heap) (locs1 : List Loc), post r u → va_P D vwCl u H1 → va_D A u → va_S A H0 H1 locs1 → W p l e R s m args below meth c H1 locs1 (cells + mc) (slots + ms) Q (F0 m (pc + 3) ls (.double r :: rest))) : W p l e R s m args below meth c H locs cells slots Q (F0 m pc ls st0) :=
  va_calld hr hS (fun q _ h => fr_all hD hS hA q h) (fr_all hD hS hA) (fun r u t H1 locs1 ht hvm hw hB hz1 hk1 hS1 => kk r u H1 locs1 hw (by rw [← ht]; exact hB.1) (hB.2.2.weaken (fun k q _ h => fr_all hD hS hA q.1 h)) hS1)
theorem kV {post : va_W → Prop} (hr : va_Run p l e R s m args below meth c H locs cells slots mc ms (F0 m pc ls st0) rest (QV D tys post (va_A w H.size) a9) (va_A w H.size)) (hD : va_D A w) (hS : va_S A H0 H locs) (hA : ∀ q, H0.size ≤ q → A q)
    (kk : ∀ (u : va_W) (H1 : Heap) (locs1 : List Loc), post u → va_P D vwCl u H1 → va_D A u → va_S A H0 H1 locs1 → W p l e R s m args below meth c H1 locs1 (cells + mc) (slots + ms) Q (F0 m (pc + 3) ls rest)) : W p l e R s m args below meth c H locs cells slots Q (F0 m pc ls st0) :=
  va_callv hr hS (fun q _ h => fr_all hD hS hA q h) (fr_all hD hS hA) (fun u t H1 locs1 ht hvm hw hB hz1 hk1 hS1 => kk u H1 locs1 hw (by rw [← ht]; exact hB.1) (hB.2.2.weaken (fun k q _ h => fr_all hD hS hA q.1 h)) hS1)
theorem kR {post : Nat → va_W → Prop} (hr : va_Run p l e R s m args below meth c H locs cells slots mc ms (F0 m pc ls st0) rest (QR D tys post (va_A w H.size) a9) (va_A w H.size)) (hD : va_D A w) (hS : va_S A H0 H locs) (hA : ∀ q, H0.size ≤ q → A q)
    (kk : ∀ (ra : Nat) (u : va_W) (H1 : Heap) (locs1 : List Loc), post ra u → va_P D vwCl u H1 → va_D A u → va_S A H0 H1 locs1 → W p l e R s m args below meth c H1 locs1 (cells + mc) (slots + ms) Q (F0 m (pc + 3) ls (.ref ra :: rest))) : W p l e R s m args below meth c H locs cells slots Q (F0 m pc ls st0) :=
  va_callr hr hS (fun q _ h => fr_all hD hS hA q h) (fr_all hD hS hA) (fun u ra t H1 locs1 ht hvm _ hB hz1 hk1 hS1 => kk ra u H1 locs1 hB.1 (by rw [← ht]; exact hB.2.1) (hB.2.2.2.weaken (fun k q _ h => fr_all hD hS hA q.1 h)) hS1)
/-- a loop that counts up -/
theorem w_loop {σ : Type} (Inv : Nat → σ → Heap → List Loc → Array Slot → Prop) (N : Nat)
    (hx : ∀ (u : σ) (H : Heap) (locs : List Loc) (ls : Array Slot), Inv N u H locs ls → W p l e R s m args below meth c H locs cells slots Q (F0 m pc ls []))
    (hs : ∀ (i : Nat) (u : σ) (H : Heap) (locs : List Loc) (ls : Array Slot), i < N → Inv i u H locs ls → (∀ (u' : σ) (H' : Heap) (locs' : List Loc) (ls' : Array Slot), Inv (i + 1) u' H' locs' ls' → W p l e R s m args below meth c H' locs' cells slots Q (F0 m pc ls' [])) → W p l e R s m args below meth c H locs cells slots Q (F0 m pc ls []))
    (i : Nat) (u : σ) (hi : i ≤ N) (h : Inv i u H locs ls) : W p l e R s m args below meth c H locs cells slots Q (F0 m pc ls []) := by
  obtain ⟨k, hk⟩ : ∃ k, N = i + k := ⟨N - i, by omega⟩
  induction k generalizing i u H locs ls with
  | zero =>
    have e9 : N = i := by omega
    subst e9
    exact hx u H locs ls h
  | succ k ih =>
    exact hs i u H locs ls (by omega) h (fun u' H' locs' ls' h' => ih (i + 1) u' (by omega) h' (by omega))
end XR
section XN
variable {p : Program} {l : Launch} {e : Env} {R : Room} {s : State} {m : MethodId} {args : Array Value} {below : List Frame} {meth : Method} {c : Code} {H : Heap} {locs : List Loc} {cells slots : Nat} {Q : State → Prop}
variable {cc : ByteArray} {pc : Nat} {ls : Array Slot} {rest : List Value} {D : va_G} {cl : List vw_C} {A : Nat → Prop} {a : Nat} {tys : List (ClassId × FieldType)} {ws : va_W} {H0 : Heap}
/-- a new array of a class that is known -/
theorem my_newa (hexec : p.tables.exec = Jvm.exec) (hb : c.code = cc) {atype : ArrayType} (harr : (Cond.arrayClass (newarray.typeOf atype)).before args s = true) {ty : FieldType} (hty : newarray.typeOf atype = ty) (hK : va_K D cl tys s) (hP : va_P D cl ws H) (hD : va_D A ws) (hS : va_S A H0 H locs) (hA : ∀ q, H0.size ≤ q → A q) (t0 : Nat) {c0 : ClassId} (ht : tys[t0]? = some (c0, ty)) (hRA : ∀ c1, va_RA s c1 ty → s.vm.findClass ("[" ++ ty.toString) = some c1)
    {n : Int32} {N' : Nat} {a0 : vp_A} (ha : ∀ cA : ClassId, vp_cell cA a0 = arrV cA N' (fun _ => defaultValue ty)) (hn : ¬ n < 0) (hN : n.toNatClampNeg = N') (hbytes : N' * componentBytes ty ≤ 536870912) (hcells : cells + 1 ≤ R.cells) (hslots : slots + N' ≤ R.slots) (hdg : decode cc pc = .ok (.newarray atype, 2))
    (kk : ∀ (q : Nat) (H1 : Heap), va_P D cl (ws ++ [(q, .inl (c0, a0))]) H1 → va_D A (ws ++ [(q, .inl (c0, a0))]) → va_S A H0 H1 locs →
      W p l e R s m args below meth c H1 locs (cells + 1) (slots + N') Q (F0 m (pc + 2) ls (.ref q :: rest))) : W p l e R s m args below meth c H locs cells slots Q (F0 m pc ls (.int n :: rest)) := by
  refine va_newa hexec hb harr hty hK hP hD hS hA ha hn hN hbytes hcells hslots hdg (fun q cA H1 hK1 hP1 hD1 hS1 => ?_)
  have h1 := hRA _ (hK1.2 tys.length (cA, ty) (by simp)).2
  have h2 := hRA _ (hK.2 t0 _ ht).2
  have h3 : cA = c0 := Option.some.inj (h1.symm.trans h2)
  subst h3
  exact kk q H1 hP1 hD1 hS1
/-- a new array of int arrays, of a class that is known -/
theorem my_newA (hexec : p.tables.exec = Jvm.exec) (hb : c.code = cc) {own : String} {index : Nat} (hown : s.vm.findClass own = some m.cls) (hclink : (Cond.classLink own index "[I").before args s = true) (hN : NW s) (hK : va_K D cl tys s) (hP : va_P D cl ws H) (hD : va_D A ws) (hS : va_S A H0 H locs) (hA : ∀ q, H0.size ≤ q → A q) (t0 : Nat) {c0 : ClassId} (ht : tys[t0]? = some (c0, .array .int))
    {n : Int32} {N' : Nat} (hn : ¬ n < 0) (hNn : n.toNatClampNeg = N') (hbytes : N' * 4 ≤ 536870912) (hcells : cells + 1 ≤ R.cells) (hslots : slots + N' ≤ R.slots) (hdg : decode cc pc = .ok (.anewarray index, 3))
    (kk : ∀ (q : Nat) (H1 : Heap), va_P D cl (ws ++ [(q, .inl (c0, N', .inr (.inr (.inr (.inr (fun _ => none))))))]) H1 → va_D A (ws ++ [(q, .inl (c0, N', .inr (.inr (.inr (.inr (fun _ => none))))))]) → va_S A H0 H1 locs →
      W p l e R s m args below meth c H1 locs (cells + 1) (slots + N') Q (F0 m (pc + 3) ls (.ref q :: rest))) : W p l e R s m args below meth c H locs cells slots Q (F0 m pc ls (.int n :: rest)) := by
  subst hNn
  refine W.anewA (t := .int) hexec hb hown hclink (over_moved (Vm.Alike.refl s.vm) hN.2) rfl hdg rfl hn hbytes hcells hslots fun cA kA comp f1 f2 f3 f4 => ?_
  have h2 : s.vm.findClass ("[" ++ (FieldType.array .int).toString) = some c0 := (hK.2 t0 _ ht).2
  have h3 : cA = c0 := Option.some.inj (f1.symm.trans h2)
  subst h3
  generalize hH1 : H.push ({ cls := cA, slots := Array.replicate n.toNatClampNeg .null, vm := .none } : Cell) = H1
  have z1 : H1.size = H.size + 1 := by rw [← hH1, Array.size_push]
  have e1 : H1[H.size]? = some (arrV cA n.toNatClampNeg (fun _ => .null)) := by rw [← hH1, Array.getElem?_push_size, ← arrV_new]
  have o1 : ∀ q : Nat, q < H.size → H1[q]? = H[q]? := fun q hq => by rw [← hH1, Array.getElem?_push, if_neg (Nat.ne_of_lt hq)]
  have hk : ∀ (k : Nat) (x : Nat × va_E), ws[k]? = some x → H1[x.1]? = H[x.1]? := fun k x hx => o1 x.1 ((hP k x hx).lt)
  refine kk H.size H1 ((hP.kept hk).app (fun k x hx => ?_)) (hD.push hP rfl (hA _ hS.1)) ⟨Nat.le_trans hS.1 (by omega), fun x h1 h2 => (o1 x (Nat.lt_of_lt_of_le h1 hS.1)).trans (hS.2.1 x h1 h2), hS.2.2⟩
  have hz : k < 1 := (List.getElem?_eq_some_iff.mp hx).1
  rw [show k = 0 by omega] at hx
  cases hx
  show H1[H.size]? = some (vp_cell _ _)
  rw [vp_cell_q]
  exact e1
end XN
end
section
theorem dX7_at_0 : decode cX7_at 0 = .ok (.aload_n 0, 1) := by decide +kernel
theorem dX7_at_1 : decode cX7_at 1 = .ok (.ifnull 19, 3) := by decide +kernel
theorem dX7_at_4 : decode cX7_at 4 = .ok (.iload_n 1, 1) := by decide +kernel
theorem dX7_at_5 : decode cX7_at 5 = .ok (.ifCond .lt 15, 3) := by decide +kernel
theorem dX7_at_8 : decode cX7_at 8 = .ok (.iload_n 1, 1) := by decide +kernel
theorem dX7_at_9 : decode cX7_at 9 = .ok (.aload_n 0, 1) := by decide +kernel
theorem dX7_at_10 : decode cX7_at 10 = .ok (.arraylength, 1) := by decide +kernel
theorem dX7_at_11 : decode cX7_at 11 = .ok (.if_icmp .ge 9, 3) := by decide +kernel
theorem dX7_at_14 : decode cX7_at 14 = .ok (.aload_n 0, 1) := by decide +kernel
theorem dX7_at_15 : decode cX7_at 15 = .ok (.iload_n 1, 1) := by decide +kernel
theorem dX7_at_16 : decode cX7_at 16 = .ok (.iaload, 1) := by decide +kernel
theorem dX7_at_17 : decode cX7_at 17 = .ok (.goto 4, 3) := by decide +kernel
theorem dX7_at_20 : decode cX7_at 20 = .ok (.iconst 0, 1) := by decide +kernel
theorem dX7_at_21 : decode cX7_at 21 = .ok (.ireturn, 1) := by decide +kernel
theorem dX7_at__0 : decode cX7_at_ 0 = .ok (.aload_n 0, 1) := by decide +kernel
theorem dX7_at__1 : decode cX7_at_ 1 = .ok (.ifnull 19, 3) := by decide +kernel
theorem dX7_at__4 : decode cX7_at_ 4 = .ok (.iload_n 1, 1) := by decide +kernel
theorem dX7_at__5 : decode cX7_at_ 5 = .ok (.ifCond .lt 15, 3) := by decide +kernel
theorem dX7_at__8 : decode cX7_at_ 8 = .ok (.iload_n 1, 1) := by decide +kernel
theorem dX7_at__9 : decode cX7_at_ 9 = .ok (.aload_n 0, 1) := by decide +kernel
theorem dX7_at__10 : decode cX7_at_ 10 = .ok (.arraylength, 1) := by decide +kernel
theorem dX7_at__11 : decode cX7_at_ 11 = .ok (.if_icmp .ge 9, 3) := by decide +kernel
theorem dX7_at__14 : decode cX7_at_ 14 = .ok (.aload_n 0, 1) := by decide +kernel
theorem dX7_at__15 : decode cX7_at_ 15 = .ok (.iload_n 1, 1) := by decide +kernel
theorem dX7_at__16 : decode cX7_at_ 16 = .ok (.laload, 1) := by decide +kernel
theorem dX7_at__17 : decode cX7_at_ 17 = .ok (.goto 4, 3) := by decide +kernel
theorem dX7_at__20 : decode cX7_at_ 20 = .ok (.lconst 0, 1) := by decide +kernel
theorem dX7_at__21 : decode cX7_at_ 21 = .ok (.lreturn, 1) := by decide +kernel
theorem dX7_put_0 : decode cX7_put 0 = .ok (.aload_n 0, 1) := by decide +kernel
theorem dX7_put_1 : decode cX7_put 1 = .ok (.ifnull 17, 3) := by decide +kernel
theorem dX7_put_4 : decode cX7_put 4 = .ok (.iload_n 1, 1) := by decide +kernel
theorem dX7_put_5 : decode cX7_put 5 = .ok (.ifCond .lt 13, 3) := by decide +kernel
theorem dX7_put_8 : decode cX7_put 8 = .ok (.iload_n 1, 1) := by decide +kernel
theorem dX7_put_9 : decode cX7_put 9 = .ok (.aload_n 0, 1) := by decide +kernel
theorem dX7_put_10 : decode cX7_put 10 = .ok (.arraylength, 1) := by decide +kernel
theorem dX7_put_11 : decode cX7_put 11 = .ok (.if_icmp .ge 7, 3) := by decide +kernel
theorem dX7_put_14 : decode cX7_put 14 = .ok (.aload_n 0, 1) := by decide +kernel
theorem dX7_put_15 : decode cX7_put 15 = .ok (.iload_n 1, 1) := by decide +kernel
theorem dX7_put_16 : decode cX7_put 16 = .ok (.iload_n 2, 1) := by decide +kernel
theorem dX7_put_17 : decode cX7_put 17 = .ok (.iastore, 1) := by decide +kernel
theorem dX7_put_18 : decode cX7_put 18 = .ok (.return_, 1) := by decide +kernel
theorem dX7_put__0 : decode cX7_put_ 0 = .ok (.aload_n 0, 1) := by decide +kernel
theorem dX7_put__1 : decode cX7_put_ 1 = .ok (.ifnull 17, 3) := by decide +kernel
theorem dX7_put__4 : decode cX7_put_ 4 = .ok (.iload_n 1, 1) := by decide +kernel
theorem dX7_put__5 : decode cX7_put_ 5 = .ok (.ifCond .lt 13, 3) := by decide +kernel
theorem dX7_put__8 : decode cX7_put_ 8 = .ok (.iload_n 1, 1) := by decide +kernel
theorem dX7_put__9 : decode cX7_put_ 9 = .ok (.aload_n 0, 1) := by decide +kernel
theorem dX7_put__10 : decode cX7_put_ 10 = .ok (.arraylength, 1) := by decide +kernel
theorem dX7_put__11 : decode cX7_put_ 11 = .ok (.if_icmp .ge 7, 3) := by decide +kernel
theorem dX7_put__14 : decode cX7_put_ 14 = .ok (.aload_n 0, 1) := by decide +kernel
theorem dX7_put__15 : decode cX7_put_ 15 = .ok (.iload_n 1, 1) := by decide +kernel
theorem dX7_put__16 : decode cX7_put_ 16 = .ok (.lload_n 2, 1) := by decide +kernel
theorem dX7_put__17 : decode cX7_put_ 17 = .ok (.lastore, 1) := by decide +kernel
theorem dX7_put__18 : decode cX7_put_ 18 = .ok (.return_, 1) := by decide +kernel
theorem dX7_has_0 : decode cX7_has 0 = .ok (.lload_n 0, 1) := by decide +kernel
theorem dX7_has_1 : decode cX7_has 1 = .ok (.iload_n 2, 1) := by decide +kernel
theorem dX7_has_2 : decode cX7_has 2 = .ok (.lushr, 1) := by decide +kernel
theorem dX7_has_3 : decode cX7_has 3 = .ok (.lconst 1, 1) := by decide +kernel
theorem dX7_has_4 : decode cX7_has 4 = .ok (.land, 1) := by decide +kernel
theorem dX7_has_5 : decode cX7_has 5 = .ok (.lconst 0, 1) := by decide +kernel
theorem dX7_has_6 : decode cX7_has 6 = .ok (.lcmp, 1) := by decide +kernel
theorem dX7_has_7 : decode cX7_has 7 = .ok (.ifCond .eq 7, 3) := by decide +kernel
theorem dX7_has_14 : decode cX7_has 14 = .ok (.iconst 0, 1) := by decide +kernel
theorem dX7_has_15 : decode cX7_has 15 = .ok (.ireturn, 1) := by decide +kernel
theorem dX7_bit_0 : decode cX7_bit 0 = .ok (.lconst 1, 1) := by decide +kernel
theorem dX7_bit_1 : decode cX7_bit 1 = .ok (.iload_n 0, 1) := by decide +kernel
theorem dX7_bit_2 : decode cX7_bit 2 = .ok (.lshl, 1) := by decide +kernel
theorem dX7_bit_3 : decode cX7_bit 3 = .ok (.lreturn, 1) := by decide +kernel
theorem dX7_jumps_0 : decode cX7_jumps 0 = .ok (.iload_n 0, 1) := by decide +kernel
theorem dX7_jumps_1 : decode cX7_jumps 1 = .ok (.iconst 1, 1) := by decide +kernel
theorem dX7_jumps_2 : decode cX7_jumps 2 = .ok (.if_icmp .eq 8, 3) := by decide +kernel
theorem dX7_jumps_5 : decode cX7_jumps 5 = .ok (.iload_n 0, 1) := by decide +kernel
theorem dX7_jumps_6 : decode cX7_jumps 6 = .ok (.iconst 2, 1) := by decide +kernel
theorem dX7_jumps_7 : decode cX7_jumps 7 = .ok (.if_icmp .ne 7, 3) := by decide +kernel
theorem dX7_jumps_10 : decode cX7_jumps 10 = .ok (.iconst 1, 1) := by decide +kernel
theorem dX7_jumps_11 : decode cX7_jumps 11 = .ok (.goto 4, 3) := by decide +kernel
theorem dX7_jumps_14 : decode cX7_jumps 14 = .ok (.iconst 0, 1) := by decide +kernel
theorem dX7_jumps_15 : decode cX7_jumps 15 = .ok (.ireturn, 1) := by decide +kernel
theorem dX7_isTarget_0 : decode cX7_isTarget 0 = .ok (.iload_n 0, 1) := by decide +kernel
theorem dX7_isTarget_1 : decode cX7_isTarget 1 = .ok (.ifCond .lt 13, 3) := by decide +kernel
theorem dX7_isTarget_4 : decode cX7_isTarget 4 = .ok (.iload_n 0, 1) := by decide +kernel
theorem dX7_isTarget_5 : decode cX7_isTarget 5 = .ok (.bipush 40, 2) := by decide +kernel
theorem dX7_isTarget_7 : decode cX7_isTarget 7 = .ok (.if_icmp .gt 7, 3) := by decide +kernel
theorem dX7_isTarget_10 : decode cX7_isTarget 10 = .ok (.iconst 1, 1) := by decide +kernel
theorem dX7_isTarget_11 : decode cX7_isTarget 11 = .ok (.goto 4, 3) := by decide +kernel
theorem dX7_isTarget_14 : decode cX7_isTarget 14 = .ok (.iconst 0, 1) := by decide +kernel
theorem dX7_isTarget_15 : decode cX7_isTarget 15 = .ok (.ireturn, 1) := by decide +kernel
theorem mw_0 : Cond.laysFinal "OrielChart$Code" "OrielChart$Code" "kind" "[I" ∈ GW := gw_mem (inT1 _ (List.mem_of_getElem? (i := 51) rfl)) rfl
theorem mw_1 : Cond.laysFinal "OrielChart$Code" "OrielChart$Code" "target" "[I" ∈ GW := gw_mem (inT1 _ (List.mem_of_getElem? (i := 53) rfl)) rfl
theorem mw_2 : Cond.laysFinal "OrielChart$Code" "OrielChart$Code" "sets" "[I" ∈ GW := gw_mem (inT1 _ (List.mem_of_getElem? (i := 55) rfl)) rfl
theorem mw_3 : Cond.laysFinal "OrielChart$Code" "OrielChart$Code" "uses" "[I" ∈ GW := gw_mem (inT1 _ (List.mem_of_getElem? (i := 57) rfl)) rfl
theorem mw_4 : Cond.lays "OrielChart$Code" "OrielChart$Code" "count" "I" ∈ GW := gw_mem (inT1 _ (List.mem_of_getElem? (i := 59) rfl)) rfl
theorem mw_5 : Cond.laysFinal "OrielChart$Flow" "OrielChart$Flow" "home" "[I" ∈ GW := gw_mem (inT1 _ (List.mem_of_getElem? (i := 104) rfl)) rfl
theorem mw_6 : Cond.laysFinal "OrielChart$Flow" "OrielChart$Flow" "first" "[I" ∈ GW := gw_mem (inT1 _ (List.mem_of_getElem? (i := 106) rfl)) rfl
theorem mw_7 : Cond.laysFinal "OrielChart$Flow" "OrielChart$Flow" "last" "[I" ∈ GW := gw_mem (inT1 _ (List.mem_of_getElem? (i := 108) rfl)) rfl
theorem mw_8 : Cond.laysFinal "OrielChart$Flow" "OrielChart$Flow" "from" "[I" ∈ GW := gw_mem (inT1 _ (List.mem_of_getElem? (i := 110) rfl)) rfl
theorem mw_9 : Cond.laysFinal "OrielChart$Flow" "OrielChart$Flow" "to" "[I" ∈ GW := gw_mem (inT1 _ (List.mem_of_getElem? (i := 112) rfl)) rfl
theorem mw_10 : Cond.laysFinal "OrielChart$Flow" "OrielChart$Flow" "firstEdge" "[I" ∈ GW := gw_mem (inT1 _ (List.mem_of_getElem? (i := 114) rfl)) rfl
theorem mw_11 : Cond.laysFinal "OrielChart$Flow" "OrielChart$Flow" "next" "[J" ∈ GW := gw_mem (inT1 _ (List.mem_of_getElem? (i := 116) rfl)) rfl
theorem mw_12 : Cond.lays "OrielChart$Flow" "OrielChart$Flow" "blockCount" "I" ∈ GW := gw_mem (inT1 _ (List.mem_of_getElem? (i := 118) rfl)) rfl
theorem mw_13 : Cond.lays "OrielChart$Flow" "OrielChart$Flow" "edgeCount" "I" ∈ GW := gw_mem (inT1 _ (List.mem_of_getElem? (i := 120) rfl)) rfl
theorem mw_14 : Cond.lays "OrielChart$Flow" "OrielChart$Flow" "reached" "J" ∈ GW := gw_mem (inT1 _ (List.mem_of_getElem? (i := 122) rfl)) rfl
theorem mw_15 : Cond.lays "OrielChart$Flow" "OrielChart$Flow" "fresh" "Z" ∈ GW := gw_mem (inT1 _ (List.mem_of_getElem? (i := 124) rfl)) rfl
theorem mw_16 : Cond.laysFinal "OrielChart$Lives" "OrielChart$Lives" "live" "[I" ∈ GW := gw_mem (inT1 _ (List.mem_of_getElem? (i := 170) rfl)) rfl
theorem mw_17 : Cond.lays "OrielChart$Lives" "OrielChart$Lives" "vainCount" "I" ∈ GW := gw_mem (inT1 _ (List.mem_of_getElem? (i := 172) rfl)) rfl
theorem mw_18 : Cond.lays "OrielChart$Lives" "OrielChart$Lives" "fresh" "Z" ∈ GW := gw_mem (inT1 _ (List.mem_of_getElem? (i := 174) rfl)) rfl
theorem mw_19 : Cond.laysFinal "OrielChart$Picture" "OrielChart$Picture" "walk" "LOrielChart$Walk;" ∈ GW := gw_mem (inT2 _ (List.mem_of_getElem? (i := 38) rfl)) rfl
theorem mw_20 : Cond.laysFinal "OrielChart$Picture" "OrielChart$Picture" "layer" "[I" ∈ GW := gw_mem (inT2 _ (List.mem_of_getElem? (i := 40) rfl)) rfl
theorem mw_21 : Cond.laysFinal "OrielChart$Picture" "OrielChart$Picture" "start" "[I" ∈ GW := gw_mem (inT2 _ (List.mem_of_getElem? (i := 42) rfl)) rfl
theorem mw_22 : Cond.laysFinal "OrielChart$Picture" "OrielChart$Picture" "firstBend" "[I" ∈ GW := gw_mem (inT2 _ (List.mem_of_getElem? (i := 44) rfl)) rfl
theorem mw_23 : Cond.laysFinal "OrielChart$Picture" "OrielChart$Picture" "edgeOf" "[I" ∈ GW := gw_mem (inT2 _ (List.mem_of_getElem? (i := 46) rfl)) rfl
theorem mw_24 : Cond.laysFinal "OrielChart$Picture" "OrielChart$Picture" "order" "[I" ∈ GW := gw_mem (inT2 _ (List.mem_of_getElem? (i := 48) rfl)) rfl
theorem mw_25 : Cond.laysFinal "OrielChart$Picture" "OrielChart$Picture" "place" "[I" ∈ GW := gw_mem (inT2 _ (List.mem_of_getElem? (i := 50) rfl)) rfl
theorem mw_26 : Cond.laysFinal "OrielChart$Picture" "OrielChart$Picture" "kept" "[I" ∈ GW := gw_mem (inT2 _ (List.mem_of_getElem? (i := 52) rfl)) rfl
theorem mw_27 : Cond.laysFinal "OrielChart$Picture" "OrielChart$Picture" "sum" "[I" ∈ GW := gw_mem (inT2 _ (List.mem_of_getElem? (i := 54) rfl)) rfl
theorem mw_28 : Cond.laysFinal "OrielChart$Picture" "OrielChart$Picture" "lines" "[I" ∈ GW := gw_mem (inT2 _ (List.mem_of_getElem? (i := 56) rfl)) rfl
theorem mw_29 : Cond.laysFinal "OrielChart$Picture" "OrielChart$Picture" "above" "[I" ∈ GW := gw_mem (inT2 _ (List.mem_of_getElem? (i := 58) rfl)) rfl
theorem mw_30 : Cond.laysFinal "OrielChart$Picture" "OrielChart$Picture" "below" "[I" ∈ GW := gw_mem (inT2 _ (List.mem_of_getElem? (i := 60) rfl)) rfl
theorem mw_31 : Cond.lays "OrielChart$Picture" "OrielChart$Picture" "edgeCount" "I" ∈ GW := gw_mem (inT2 _ (List.mem_of_getElem? (i := 62) rfl)) rfl
theorem mw_32 : Cond.lays "OrielChart$Picture" "OrielChart$Picture" "layerCount" "I" ∈ GW := gw_mem (inT2 _ (List.mem_of_getElem? (i := 64) rfl)) rfl
theorem mw_33 : Cond.lays "OrielChart$Picture" "OrielChart$Picture" "sweeps" "I" ∈ GW := gw_mem (inT2 _ (List.mem_of_getElem? (i := 66) rfl)) rfl
theorem mw_34 : Cond.lays "OrielChart$Picture" "OrielChart$Picture" "fresh" "Z" ∈ GW := gw_mem (inT2 _ (List.mem_of_getElem? (i := 68) rfl)) rfl
theorem mw_35 : Cond.laysFinal "OrielChart$Ranks" "OrielChart$Ranks" "ruled" "[J" ∈ GW := gw_mem (inT1 _ (List.mem_of_getElem? (i := 144) rfl)) rfl
theorem mw_36 : Cond.laysFinal "OrielChart$Ranks" "OrielChart$Ranks" "loop" "[J" ∈ GW := gw_mem (inT1 _ (List.mem_of_getElem? (i := 146) rfl)) rfl
theorem mw_37 : Cond.laysFinal "OrielChart$Ranks" "OrielChart$Ranks" "previous" "[J" ∈ GW := gw_mem (inT1 _ (List.mem_of_getElem? (i := 148) rfl)) rfl
theorem mw_38 : Cond.laysFinal "OrielChart$Ranks" "OrielChart$Ranks" "onward" "[J" ∈ GW := gw_mem (inT1 _ (List.mem_of_getElem? (i := 150) rfl)) rfl
theorem mw_39 : Cond.lays "OrielChart$Ranks" "OrielChart$Ranks" "loopCount" "I" ∈ GW := gw_mem (inT1 _ (List.mem_of_getElem? (i := 152) rfl)) rfl
theorem mw_40 : Cond.lays "OrielChart$Ranks" "OrielChart$Ranks" "tame" "Z" ∈ GW := gw_mem (inT1 _ (List.mem_of_getElem? (i := 154) rfl)) rfl
theorem mw_41 : Cond.lays "OrielChart$Ranks" "OrielChart$Ranks" "fresh" "Z" ∈ GW := gw_mem (inT1 _ (List.mem_of_getElem? (i := 156) rfl)) rfl
theorem mw_42 : Cond.laysFinal "OrielChart$Reduction" "OrielChart$Reduction" "next" "[J" ∈ GW := gw_mem (inT1 _ (List.mem_of_getElem? (i := 196) rfl)) rfl
theorem mw_43 : Cond.laysFinal "OrielChart$Reduction" "OrielChart$Reduction" "home" "[I" ∈ GW := gw_mem (inT1 _ (List.mem_of_getElem? (i := 198) rfl)) rfl
theorem mw_44 : Cond.laysFinal "OrielChart$Reduction" "OrielChart$Reduction" "rule" "[I" ∈ GW := gw_mem (inT1 _ (List.mem_of_getElem? (i := 200) rfl)) rfl
theorem mw_45 : Cond.laysFinal "OrielChart$Reduction" "OrielChart$Reduction" "node" "[I" ∈ GW := gw_mem (inT1 _ (List.mem_of_getElem? (i := 202) rfl)) rfl
theorem mw_46 : Cond.laysFinal "OrielChart$Reduction" "OrielChart$Reduction" "entry" "[I" ∈ GW := gw_mem (inT1 _ (List.mem_of_getElem? (i := 204) rfl)) rfl
theorem mw_47 : Cond.lays "OrielChart$Reduction" "OrielChart$Reduction" "nodes" "J" ∈ GW := gw_mem (inT1 _ (List.mem_of_getElem? (i := 206) rfl)) rfl
theorem mw_48 : Cond.lays "OrielChart$Reduction" "OrielChart$Reduction" "stepCount" "I" ∈ GW := gw_mem (inT1 _ (List.mem_of_getElem? (i := 208) rfl)) rfl
theorem mw_49 : Cond.lays "OrielChart$Reduction" "OrielChart$Reduction" "fresh" "Z" ∈ GW := gw_mem (inT1 _ (List.mem_of_getElem? (i := 210) rfl)) rfl
theorem mw_50 : Cond.laysFinal "OrielChart$Walk" "OrielChart$Walk" "came" "[I" ∈ GW := gw_mem (inT1 _ (List.mem_of_getElem? (i := 239) rfl)) rfl
theorem mw_51 : Cond.laysFinal "OrielChart$Walk" "OrielChart$Walk" "upper" "[I" ∈ GW := gw_mem (inT2 _ (List.mem_of_getElem? (i := 1) rfl)) rfl
theorem mw_52 : Cond.laysFinal "OrielChart$Walk" "OrielChart$Walk" "lower" "[I" ∈ GW := gw_mem (inT2 _ (List.mem_of_getElem? (i := 3) rfl)) rfl
theorem mw_53 : Cond.laysFinal "OrielChart$Walk" "OrielChart$Walk" "open" "[I" ∈ GW := gw_mem (inT2 _ (List.mem_of_getElem? (i := 5) rfl)) rfl
theorem mw_54 : Cond.laysFinal "OrielChart$Walk" "OrielChart$Walk" "edge" "[I" ∈ GW := gw_mem (inT2 _ (List.mem_of_getElem? (i := 7) rfl)) rfl
theorem mw_55 : Cond.lays "OrielChart$Walk" "OrielChart$Walk" "cameCount" "I" ∈ GW := gw_mem (inT2 _ (List.mem_of_getElem? (i := 9) rfl)) rfl
theorem mw_56 : Cond.lays "OrielChart$Walk" "OrielChart$Walk" "openCount" "I" ∈ GW := gw_mem (inT2 _ (List.mem_of_getElem? (i := 11) rfl)) rfl
theorem mw_57 : Cond.lays "OrielChart$Walk" "OrielChart$Walk" "seen" "J" ∈ GW := gw_mem (inT2 _ (List.mem_of_getElem? (i := 13) rfl)) rfl
theorem mw_58 : Cond.lays "OrielChart$Walk" "OrielChart$Walk" "stillGoing" "J" ∈ GW := gw_mem (inT2 _ (List.mem_of_getElem? (i := 15) rfl)) rfl
theorem mw_59 : Cond.laysFinal "OrielChart" "OrielChart" "code" "LOrielChart$Code;" ∈ GW := gw_mem (inT2 _ (List.mem_of_getElem? (i := 77) rfl)) rfl
theorem mw_60 : Cond.laysFinal "OrielChart" "OrielChart" "flow" "LOrielChart$Flow;" ∈ GW := gw_mem (inT2 _ (List.mem_of_getElem? (i := 79) rfl)) rfl
theorem mw_61 : Cond.laysFinal "OrielChart" "OrielChart" "ranks" "LOrielChart$Ranks;" ∈ GW := gw_mem (inT2 _ (List.mem_of_getElem? (i := 81) rfl)) rfl
theorem mw_62 : Cond.laysFinal "OrielChart" "OrielChart" "lives" "LOrielChart$Lives;" ∈ GW := gw_mem (inT2 _ (List.mem_of_getElem? (i := 83) rfl)) rfl
theorem mw_63 : Cond.laysFinal "OrielChart" "OrielChart" "reduction" "LOrielChart$Reduction;" ∈ GW := gw_mem (inT2 _ (List.mem_of_getElem? (i := 85) rfl)) rfl
theorem mw_64 : Cond.laysFinal "OrielChart" "OrielChart" "picture" "LOrielChart$Picture;" ∈ GW := gw_mem (inT2 _ (List.mem_of_getElem? (i := 87) rfl)) rfl
theorem mw_65 : Cond.lays "OrielChartModel" "OrielChartModel" "thrown" "I" ∈ GW := gw_mem (inT5 _ (List.mem_of_getElem? (i := 194) rfl)) rfl
theorem mw_66 : Cond.lays "OrielChartModel" "OrielChartModel" "many" "I" ∈ GW := gw_mem (inT5 _ (List.mem_of_getElem? (i := 196) rfl)) rfl
theorem mw_67 : Cond.laysFinal "OrielChartModel" "OrielChartModel" "kind" "[I" ∈ GW := gw_mem (inT5 _ (List.mem_of_getElem? (i := 198) rfl)) rfl
theorem mw_68 : Cond.laysFinal "OrielChartModel" "OrielChartModel" "target" "[I" ∈ GW := gw_mem (inT5 _ (List.mem_of_getElem? (i := 200) rfl)) rfl
theorem mw_69 : Cond.laysFinal "OrielChartModel" "OrielChartModel" "sets" "[I" ∈ GW := gw_mem (inT5 _ (List.mem_of_getElem? (i := 202) rfl)) rfl
theorem mw_70 : Cond.laysFinal "OrielChartModel" "OrielChartModel" "uses" "[I" ∈ GW := gw_mem (inT5 _ (List.mem_of_getElem? (i := 204) rfl)) rfl
theorem mw_71 : Cond.lays "OrielChartModel" "OrielChartModel" "isLaid" "Z" ∈ GW := gw_mem (inT5 _ (List.mem_of_getElem? (i := 206) rfl)) rfl
theorem mw_72 : Cond.lays "OrielChartModel" "OrielChartModel" "blocks" "I" ∈ GW := gw_mem (inT5 _ (List.mem_of_getElem? (i := 208) rfl)) rfl
theorem mw_73 : Cond.lays "OrielChartModel" "OrielChartModel" "edges" "I" ∈ GW := gw_mem (inT5 _ (List.mem_of_getElem? (i := 210) rfl)) rfl
theorem mw_74 : Cond.laysFinal "OrielChartModel" "OrielChartModel" "blockOf" "[I" ∈ GW := gw_mem (inT5 _ (List.mem_of_getElem? (i := 212) rfl)) rfl
theorem mw_75 : Cond.laysFinal "OrielChartModel" "OrielChartModel" "first" "[I" ∈ GW := gw_mem (inT5 _ (List.mem_of_getElem? (i := 214) rfl)) rfl
theorem mw_76 : Cond.laysFinal "OrielChartModel" "OrielChartModel" "from" "[I" ∈ GW := gw_mem (inT5 _ (List.mem_of_getElem? (i := 216) rfl)) rfl
theorem mw_77 : Cond.laysFinal "OrielChartModel" "OrielChartModel" "to" "[I" ∈ GW := gw_mem (inT5 _ (List.mem_of_getElem? (i := 218) rfl)) rfl
theorem mw_78 : Cond.lays "OrielChartModel" "OrielChartModel" "reached" "J" ∈ GW := gw_mem (inT5 _ (List.mem_of_getElem? (i := 220) rfl)) rfl
theorem mw_79 : Cond.laysFinal "OrielChartModel" "OrielChartModel" "spared" "[J" ∈ GW := gw_mem (inT5 _ (List.mem_of_getElem? (i := 222) rfl)) rfl
theorem mw_80 : Cond.laysFinal "OrielChartModel" "OrielChartModel" "loop" "[J" ∈ GW := gw_mem (inT5 _ (List.mem_of_getElem? (i := 224) rfl)) rfl
theorem mw_81 : Cond.laysFinal "OrielChartModel" "OrielChartModel" "live" "[I" ∈ GW := gw_mem (inT5 _ (List.mem_of_getElem? (i := 226) rfl)) rfl
theorem mw_82 : Cond.laysFinal "OrielChartModel" "OrielChartModel" "goes" "[J" ∈ GW := gw_mem (inT5 _ (List.mem_of_getElem? (i := 228) rfl)) rfl
theorem mw_83 : Cond.laysFinal "OrielChartModel" "OrielChartModel" "endsIn" "[I" ∈ GW := gw_mem (inT5 _ (List.mem_of_getElem? (i := 230) rfl)) rfl
theorem mw_84 : Cond.laysFinal "OrielChartModel" "OrielChartModel" "rule" "[I" ∈ GW := gw_mem (inT5 _ (List.mem_of_getElem? (i := 232) rfl)) rfl
theorem mw_85 : Cond.laysFinal "OrielChartModel" "OrielChartModel" "ruled" "[I" ∈ GW := gw_mem (inT5 _ (List.mem_of_getElem? (i := 234) rfl)) rfl
theorem mw_86 : Cond.lays "OrielChartModel" "OrielChartModel" "steps" "I" ∈ GW := gw_mem (inT5 _ (List.mem_of_getElem? (i := 236) rfl)) rfl
theorem mw_87 : Cond.lays "OrielChartModel" "OrielChartModel" "nodes" "J" ∈ GW := gw_mem (inT5 _ (List.mem_of_getElem? (i := 238) rfl)) rfl
theorem mw_88 : Cond.laysFinal "OrielChartModel" "OrielChartModel" "state" "[I" ∈ GW := gw_mem (inT6 _ (List.mem_of_getElem? (i := 0) rfl)) rfl
theorem mw_89 : Cond.laysFinal "OrielChartModel" "OrielChartModel" "came" "[I" ∈ GW := gw_mem (inT6 _ (List.mem_of_getElem? (i := 2) rfl)) rfl
theorem mw_90 : Cond.lays "OrielChartModel" "OrielChartModel" "met" "I" ∈ GW := gw_mem (inT6 _ (List.mem_of_getElem? (i := 4) rfl)) rfl
theorem mw_91 : Cond.laysFinal "OrielChartModel" "OrielChartModel" "isTurned" "[Z" ∈ GW := gw_mem (inT6 _ (List.mem_of_getElem? (i := 6) rfl)) rfl
theorem mw_92 : Cond.laysFinal "OrielChartModel" "OrielChartModel" "layer" "[I" ∈ GW := gw_mem (inT6 _ (List.mem_of_getElem? (i := 8) rfl)) rfl
theorem mw_93 : Cond.lays "OrielChartModel" "OrielChartModel" "layers" "I" ∈ GW := gw_mem (inT6 _ (List.mem_of_getElem? (i := 10) rfl)) rfl
theorem mw_94 : Cond.lays "OrielChartModel" "OrielChartModel" "order" "[[I" ∈ GW := gw_mem (inT6 _ (List.mem_of_getElem? (i := 12) rfl)) rfl
theorem mw_95 : Cond.lays "OrielChartModel" "OrielChartModel" "swept" "I" ∈ GW := gw_mem (inT6 _ (List.mem_of_getElem? (i := 14) rfl)) rfl
theorem mw_96 : Cond.lays "OrielChartModel" "OrielChartModel" "sum" "J" ∈ GW := gw_mem (inT6 _ (List.mem_of_getElem? (i := 16) rfl)) rfl
set_option maxRecDepth 20000 in
theorem inGX0 : ∀ w ∈ u_ws RX0 TX0 5, w ∈ GW := List.forall_mem_cons.mpr ⟨mw_0, List.forall_mem_cons.mpr ⟨mw_1, List.forall_mem_cons.mpr ⟨mw_2, List.forall_mem_cons.mpr ⟨mw_3, List.forall_mem_cons.mpr ⟨mw_4, fun _ h => absurd h List.not_mem_nil⟩⟩⟩⟩⟩
set_option maxRecDepth 20000 in
theorem inGX1 : ∀ w ∈ u_ws RX1 TX1 11, w ∈ GW := List.forall_mem_cons.mpr ⟨mw_5, List.forall_mem_cons.mpr ⟨mw_6, List.forall_mem_cons.mpr ⟨mw_7, List.forall_mem_cons.mpr ⟨mw_8, List.forall_mem_cons.mpr ⟨mw_9, List.forall_mem_cons.mpr ⟨mw_10, List.forall_mem_cons.mpr ⟨mw_11, List.forall_mem_cons.mpr ⟨mw_12, List.forall_mem_cons.mpr ⟨mw_13, List.forall_mem_cons.mpr ⟨mw_14, List.forall_mem_cons.mpr ⟨mw_15, fun _ h => absurd h List.not_mem_nil⟩⟩⟩⟩⟩⟩⟩⟩⟩⟩⟩
set_option maxRecDepth 20000 in
theorem inGX2 : ∀ w ∈ u_ws RX2 TX2 3, w ∈ GW := List.forall_mem_cons.mpr ⟨mw_16, List.forall_mem_cons.mpr ⟨mw_17, List.forall_mem_cons.mpr ⟨mw_18, fun _ h => absurd h List.not_mem_nil⟩⟩⟩
set_option maxRecDepth 20000 in
theorem inGX3 : ∀ w ∈ u_ws RX3 TX3 16, w ∈ GW := List.forall_mem_cons.mpr ⟨mw_19, List.forall_mem_cons.mpr ⟨mw_20, List.forall_mem_cons.mpr ⟨mw_21, List.forall_mem_cons.mpr ⟨mw_22, List.forall_mem_cons.mpr ⟨mw_23, List.forall_mem_cons.mpr ⟨mw_24, List.forall_mem_cons.mpr ⟨mw_25, List.forall_mem_cons.mpr ⟨mw_26, List.forall_mem_cons.mpr ⟨mw_27, List.forall_mem_cons.mpr ⟨mw_28, List.forall_mem_cons.mpr ⟨mw_29, List.forall_mem_cons.mpr ⟨mw_30, List.forall_mem_cons.mpr ⟨mw_31, List.forall_mem_cons.mpr ⟨mw_32, List.forall_mem_cons.mpr ⟨mw_33, List.forall_mem_cons.mpr ⟨mw_34, fun _ h => absurd h List.not_mem_nil⟩⟩⟩⟩⟩⟩⟩⟩⟩⟩⟩⟩⟩⟩⟩⟩
set_option maxRecDepth 20000 in
theorem inGX4 : ∀ w ∈ u_ws RX4 TX4 7, w ∈ GW := List.forall_mem_cons.mpr ⟨mw_35, List.forall_mem_cons.mpr ⟨mw_36, List.forall_mem_cons.mpr ⟨mw_37, List.forall_mem_cons.mpr ⟨mw_38, List.forall_mem_cons.mpr ⟨mw_39, List.forall_mem_cons.mpr ⟨mw_40, List.forall_mem_cons.mpr ⟨mw_41, fun _ h => absurd h List.not_mem_nil⟩⟩⟩⟩⟩⟩⟩
set_option maxRecDepth 20000 in
theorem inGX5 : ∀ w ∈ u_ws RX5 TX5 8, w ∈ GW := List.forall_mem_cons.mpr ⟨mw_42, List.forall_mem_cons.mpr ⟨mw_43, List.forall_mem_cons.mpr ⟨mw_44, List.forall_mem_cons.mpr ⟨mw_45, List.forall_mem_cons.mpr ⟨mw_46, List.forall_mem_cons.mpr ⟨mw_47, List.forall_mem_cons.mpr ⟨mw_48, List.forall_mem_cons.mpr ⟨mw_49, fun _ h => absurd h List.not_mem_nil⟩⟩⟩⟩⟩⟩⟩⟩
set_option maxRecDepth 20000 in
theorem inGX6 : ∀ w ∈ u_ws RX6 TX6 9, w ∈ GW := List.forall_mem_cons.mpr ⟨mw_50, List.forall_mem_cons.mpr ⟨mw_51, List.forall_mem_cons.mpr ⟨mw_52, List.forall_mem_cons.mpr ⟨mw_53, List.forall_mem_cons.mpr ⟨mw_54, List.forall_mem_cons.mpr ⟨mw_55, List.forall_mem_cons.mpr ⟨mw_56, List.forall_mem_cons.mpr ⟨mw_57, List.forall_mem_cons.mpr ⟨mw_58, fun _ h => absurd h List.not_mem_nil⟩⟩⟩⟩⟩⟩⟩⟩⟩
set_option maxRecDepth 20000 in
theorem inGX7 : ∀ w ∈ u_ws RX7 TX7 6, w ∈ GW := List.forall_mem_cons.mpr ⟨mw_59, List.forall_mem_cons.mpr ⟨mw_60, List.forall_mem_cons.mpr ⟨mw_61, List.forall_mem_cons.mpr ⟨mw_62, List.forall_mem_cons.mpr ⟨mw_63, List.forall_mem_cons.mpr ⟨mw_64, fun _ h => absurd h List.not_mem_nil⟩⟩⟩⟩⟩⟩
set_option maxRecDepth 20000 in
theorem inGX8 : ∀ w ∈ u_ws RX8 TX8 32, w ∈ GW := List.forall_mem_cons.mpr ⟨mw_65, List.forall_mem_cons.mpr ⟨mw_66, List.forall_mem_cons.mpr ⟨mw_67, List.forall_mem_cons.mpr ⟨mw_68, List.forall_mem_cons.mpr ⟨mw_69, List.forall_mem_cons.mpr ⟨mw_70, List.forall_mem_cons.mpr ⟨mw_71, List.forall_mem_cons.mpr ⟨mw_72, List.forall_mem_cons.mpr ⟨mw_73, List.forall_mem_cons.mpr ⟨mw_74, List.forall_mem_cons.mpr ⟨mw_75, List.forall_mem_cons.mpr ⟨mw_76, List.forall_mem_cons.mpr ⟨mw_77, List.forall_mem_cons.mpr ⟨mw_78, List.forall_mem_cons.mpr ⟨mw_79, List.forall_mem_cons.mpr ⟨mw_80, List.forall_mem_cons.mpr ⟨mw_81, List.forall_mem_cons.mpr ⟨mw_82, List.forall_mem_cons.mpr ⟨mw_83, List.forall_mem_cons.mpr ⟨mw_84, List.forall_mem_cons.mpr ⟨mw_85, List.forall_mem_cons.mpr ⟨mw_86, List.forall_mem_cons.mpr ⟨mw_87, List.forall_mem_cons.mpr ⟨mw_88, List.forall_mem_cons.mpr ⟨mw_89, List.forall_mem_cons.mpr ⟨mw_90, List.forall_mem_cons.mpr ⟨mw_91, List.forall_mem_cons.mpr ⟨mw_92, List.forall_mem_cons.mpr ⟨mw_93, List.forall_mem_cons.mpr ⟨mw_94, List.forall_mem_cons.mpr ⟨mw_95, List.forall_mem_cons.mpr ⟨mw_96, fun _ h => absurd h List.not_mem_nil⟩⟩⟩⟩⟩⟩⟩⟩⟩⟩⟩⟩⟩⟩⟩⟩⟩⟩⟩⟩⟩⟩⟩⟩⟩⟩⟩⟩⟩⟩⟩⟩
abbrev TY (cI cJ cZ : ClassId) : List (ClassId × FieldType) := [(cI, .int), (cJ, .long), (cZ, .boolean)]
theorem vp_no0 {i : Int32} {n : Nat} (h : i < 0) : ¬ vp_in i n := fun z => z (Or.inl h)
theorem vp_no1 {i : Int32} {n : Nat} (hn : n < 2 ^ 31) (h0 : ¬ i < 0) (h : nI n ≤ i) : ¬ vp_in i n := fun z => by
  rw [vp_in_iff] at z
  rw [Int32.le_iff_toInt_le, nI_toInt hn] at h
  omega
theorem vp_yes {i : Int32} {n : Nat} (hn : n < 2 ^ 31) (h0 : ¬ i < 0) (h : ¬ nI n ≤ i) : vp_in i n := by
  rw [vp_in_iff]
  rw [Int32.lt_iff_toInt_lt, Int32.toInt_zero] at h0
  rw [Int32.le_iff_toInt_le, nI_toInt hn] at h
  omega
theorem lushr0 (y : Int32) : ((0 : Int64).toUInt64 >>> (y.toInt64.toUInt64 &&& Int64.toUInt64 63)).toInt64 = 0 := by
  have h : ∀ z : UInt64, ((0 : Int64).toUInt64 >>> z) = 0 := fun z => by
    apply UInt64.toNat_inj.mp
    rw [UInt64.toNat_shiftRight]
    show (0 : Nat) >>> _ = 0
    exact Nat.zero_shiftRight _
  rw [h]
  rfl
theorem lshr0 (y : Int32) : (0 : Int64) >>> (y.toInt64 &&& 63) = 0 := by
  apply Int64.toBitVec_inj.mp
  simp [Int64.toBitVec_shiftRight]
theorem zand (y : Int64) : 0 &&& y = 0 := by
  apply Int64.toBitVec_inj.mp
  simp
theorem putcI {f9 f : Nat → Int32} {n : Nat} {i v : Int32} (hf : f = fun _ => v) (h1 : vp_in i n → f9 = upd f i.toNatClampNeg v) (h2 : ¬ vp_in i n → f9 = f) : f9 = fun _ => v := by
  by_cases h : vp_in i n
  · rw [h1 h, hf]; funext j; simp [upd]
  · rw [h2 h, hf]
theorem putcL {f9 f : Nat → Int64} {n : Nat} {i : Int32} {v : Int64} (hf : f = fun _ => v) (h1 : vp_in i n → f9 = vp_updL f i.toNatClampNeg v) (h2 : ¬ vp_in i n → f9 = f) : f9 = fun _ => v := by
  by_cases h : vp_in i n
  · rw [h1 h, hf]; funext j; simp [vp_updL]
  · rw [h2 h, hf]
theorem set_same {w : va_W} {q0 : Nat} {e : Nat × va_E} (hq : w[q0]? = some e) : w.set q0 e = w := by
  obtain ⟨h, e9⟩ := List.getElem?_eq_some_iff.mp hq
  apply List.ext_getElem?
  intro j
  by_cases hj : j = q0
  · subst hj
    rw [List.getElem?_set_self h, hq]
  · rw [List.getElem?_set_ne (Ne.symm hj)]
set_option maxHeartbeats 4000000 in
set_option maxRecDepth 100000 in
theorem c_at (l : Launch) (D : va_G) (cI cJ cZ : ClassId) (w : va_W) (q0 a n : Nat) (f : Nat → Int32) (i : Int32) (hq : w[q0]? = some (a, .inl (cI, n, .inl f))) (hn : n < 2 ^ 31) : CT l D (TY cI cJ cZ) yX7_at (.code yX7_at cX7_at 2 (some Jvm.ClassFile.FieldType.int)) 0 0 0 w [.ref a, .int i] (QI D (TY cI cJ cZ) (fun r u => (vp_in i n → r = f i.toNatClampNeg) ∧ (¬ vp_in i n → r = 0) ∧ u = w)) := by
  refine ent (by decide) (Nat.le_of_ble_eq_true rfl) ?_
  intro p e s m below meth c ls A hx hb hr hg hown hml hlocks hnm hP hK hD hS hA hN hl
  have hl : lv_has ls 2 [(0, .ref a), (1, .int i)] := hl
  refine lv_aload_n hx hb dX7_at_0 rfl (lv_at hl 0 rfl) ?_
  refine lv_ifnull hx hb dX7_at_1 ?_
  refine lv_iload_n hx hb dX7_at_4 rfl (lv_at hl 1 rfl) ?_
  refine lv_if_lt (tgt := 20) hx hb dX7_at_5 (by decide) (fun c_5 => ?_) (fun c_5 => ?_)
  · refine lv_iconst (v := 0) hx hb dX7_at_20 (by decide) ?_
    exact W.iret (v := 0) hx hb hr (fun t ht hW => ⟨⟨0, w, rfl, ⟨fun h => absurd h (vp_no0 c_5), fun _ => rfl, rfl⟩, ⟨by rw [ht]; exact hP, va_K.moved hW.alike hK, hD⟩⟩, hS.F ht⟩) hS.2.2 dX7_at_21
  · refine lv_iload_n hx hb dX7_at_8 rfl (lv_at hl 1 rfl) ?_
    refine lv_aload_n hx hb dX7_at_9 rfl (lv_at hl 0 rfl) ?_
    refine va_alen (v := (nI n)) hx hb hK hP q0 0 hq rfl rfl dX7_at_10 ?_
    refine lv_icmp_ge (tgt := 20) hx hb dX7_at_11 (by decide) (fun c_11 => ?_) (fun c_11 => ?_)
    · refine lv_iconst (v := 0) hx hb dX7_at_20 (by decide) ?_
      exact W.iret (v := 0) hx hb hr (fun t ht hW => ⟨⟨0, w, rfl, ⟨fun h => absurd h (vp_no1 hn c_5 c_11), fun _ => rfl, rfl⟩, ⟨by rw [ht]; exact hP, va_K.moved hW.alike hK, hD⟩⟩, hS.F ht⟩) hS.2.2 dX7_at_21
    · refine lv_aload_n hx hb dX7_at_14 rfl (lv_at hl 0 rfl) ?_
      refine lv_iload_n hx hb dX7_at_15 rfl (lv_at hl 1 rfl) ?_
      refine va_iald hx hb hK hP q0 0 hq rfl (vp_yes hn c_5 c_11) dX7_at_16 ?_
      refine lv_goto (tgt := 21) hx hb dX7_at_17 (by decide) ?_
      exact W.iret (v := (f (i : Int32).toNatClampNeg)) hx hb hr (fun t ht hW => ⟨⟨(f (i : Int32).toNatClampNeg), w, rfl, ⟨fun _ => rfl, fun h => absurd (vp_yes hn c_5 c_11) h, rfl⟩, ⟨by rw [ht]; exact hP, va_K.moved hW.alike hK, hD⟩⟩, hS.F ht⟩) hS.2.2 dX7_at_21
set_option maxHeartbeats 4000000 in
set_option maxRecDepth 100000 in
theorem c_atL (l : Launch) (D : va_G) (cI cJ cZ : ClassId) (w : va_W) (q0 a n : Nat) (f : Nat → Int64) (i : Int32) (hq : w[q0]? = some (a, .inl (cJ, n, .inr (.inl f)))) (hn : n < 2 ^ 31) : CT l D (TY cI cJ cZ) yX7_at_ (.code yX7_at_ cX7_at_ 2 (some Jvm.ClassFile.FieldType.long)) 0 0 0 w [.ref a, .int i] (QL D (TY cI cJ cZ) (fun r u => (vp_in i n → r = f i.toNatClampNeg) ∧ (¬ vp_in i n → r = 0) ∧ u = w)) := by
  refine ent (by decide) (Nat.le_of_ble_eq_true rfl) ?_
  intro p e s m below meth c ls A hx hb hr hg hown hml hlocks hnm hP hK hD hS hA hN hl
  have hl : lv_has ls 2 [(0, .ref a), (1, .int i)] := hl
  refine lv_aload_n hx hb dX7_at__0 rfl (lv_at hl 0 rfl) ?_
  refine lv_ifnull hx hb dX7_at__1 ?_
  refine lv_iload_n hx hb dX7_at__4 rfl (lv_at hl 1 rfl) ?_
  refine lv_if_lt (tgt := 20) hx hb dX7_at__5 (by decide) (fun c_5 => ?_) (fun c_5 => ?_)
  · refine lv_lconst (v := 0) hx hb dX7_at__20 (by decide) ?_
    exact W.lret (v := 0) hx hb hr (fun t ht hW => ⟨⟨0, w, rfl, ⟨fun h => absurd h (vp_no0 c_5), fun _ => rfl, rfl⟩, ⟨by rw [ht]; exact hP, va_K.moved hW.alike hK, hD⟩⟩, hS.F ht⟩) hS.2.2 dX7_at__21
  · refine lv_iload_n hx hb dX7_at__8 rfl (lv_at hl 1 rfl) ?_
    refine lv_aload_n hx hb dX7_at__9 rfl (lv_at hl 0 rfl) ?_
    refine va_alen (v := (nI n)) hx hb hK hP q0 1 hq rfl rfl dX7_at__10 ?_
    refine lv_icmp_ge (tgt := 20) hx hb dX7_at__11 (by decide) (fun c_11 => ?_) (fun c_11 => ?_)
    · refine lv_lconst (v := 0) hx hb dX7_at__20 (by decide) ?_
      exact W.lret (v := 0) hx hb hr (fun t ht hW => ⟨⟨0, w, rfl, ⟨fun h => absurd h (vp_no1 hn c_5 c_11), fun _ => rfl, rfl⟩, ⟨by rw [ht]; exact hP, va_K.moved hW.alike hK, hD⟩⟩, hS.F ht⟩) hS.2.2 dX7_at__21
    · refine lv_aload_n hx hb dX7_at__14 rfl (lv_at hl 0 rfl) ?_
      refine lv_iload_n hx hb dX7_at__15 rfl (lv_at hl 1 rfl) ?_
      refine va_lald hx hb hK hP q0 1 hq rfl (vp_yes hn c_5 c_11) dX7_at__16 ?_
      refine lv_goto (tgt := 21) hx hb dX7_at__17 (by decide) ?_
      exact W.lret (v := (f (i : Int32).toNatClampNeg)) hx hb hr (fun t ht hW => ⟨⟨(f (i : Int32).toNatClampNeg), w, rfl, ⟨fun _ => rfl, fun h => absurd (vp_yes hn c_5 c_11) h, rfl⟩, ⟨by rw [ht]; exact hP, va_K.moved hW.alike hK, hD⟩⟩, hS.F ht⟩) hS.2.2 dX7_at__21
set_option maxHeartbeats 4000000 in
set_option maxRecDepth 100000 in
theorem c_put (l : Launch) (D : va_G) (cI cJ cZ : ClassId) (w : va_W) (q0 a n : Nat) (f : Nat → Int32) (i : Int32) (v : Int32) (hq : w[q0]? = some (a, .inl (cI, n, .inl f))) (hn : n < 2 ^ 31) : CT l D (TY cI cJ cZ) yX7_put (.code yX7_put cX7_put 3 (none : Option FieldType)) 0 0 0 w [.ref a, .int i, .int v] (QV D (TY cI cJ cZ) (fun z => ∃ f9, z = w.set q0 (a, .inl (cI, n, .inl f9)) ∧ (vp_in i n → f9 = upd f i.toNatClampNeg v) ∧ (¬ vp_in i n → f9 = f))) := by
  refine ent (by decide) (Nat.le_of_ble_eq_true rfl) ?_
  intro p e s m below meth c ls A hx hb hr hg hown hml hlocks hnm hP hK hD hS hA hN hl
  have hl : lv_has ls 3 [(0, .ref a), (1, .int i), (2, .int v)] := hl
  refine lv_aload_n hx hb dX7_put_0 rfl (lv_at hl 0 rfl) ?_
  refine lv_ifnull hx hb dX7_put_1 ?_
  refine lv_iload_n hx hb dX7_put_4 rfl (lv_at hl 1 rfl) ?_
  refine lv_if_lt (tgt := 18) hx hb dX7_put_5 (by decide) (fun c_5 => ?_) (fun c_5 => ?_)
  · exact W.vret hx hb hr (fun t ht hW => ⟨⟨w, rfl, ⟨f, (set_same hq).symm, fun h => absurd h (vp_no0 c_5), fun _ => rfl⟩, ⟨by rw [ht]; exact hP, va_K.moved hW.alike hK, hD⟩⟩, hS.F ht⟩) hS.2.2 dX7_put_18
  · refine lv_iload_n hx hb dX7_put_8 rfl (lv_at hl 1 rfl) ?_
    refine lv_aload_n hx hb dX7_put_9 rfl (lv_at hl 0 rfl) ?_
    refine va_alen (v := (nI n)) hx hb hK hP q0 0 hq rfl rfl dX7_put_10 ?_
    refine lv_icmp_ge (tgt := 18) hx hb dX7_put_11 (by decide) (fun c_11 => ?_) (fun c_11 => ?_)
    · exact W.vret hx hb hr (fun t ht hW => ⟨⟨w, rfl, ⟨f, (set_same hq).symm, fun h => absurd h (vp_no1 hn c_5 c_11), fun _ => rfl⟩, ⟨by rw [ht]; exact hP, va_K.moved hW.alike hK, hD⟩⟩, hS.F ht⟩) hS.2.2 dX7_put_18
    · refine lv_aload_n hx hb dX7_put_14 rfl (lv_at hl 0 rfl) ?_
      refine lv_iload_n hx hb dX7_put_15 rfl (lv_at hl 1 rfl) ?_
      refine lv_iload_n hx hb dX7_put_16 rfl (lv_at hl 2 rfl) ?_
      refine va_iast hx hb hK hP hD hS q0 0 hq rfl (vp_yes hn c_5 c_11) dX7_put_17 (fun H locs hP hD hS => ?_)
      have hP : va_P D vwCl (w.set q0 (a, .inl (cI, n, .inl (upd f (i : Int32).toNatClampNeg v)))) H := hP
      have hD : va_D A (w.set q0 (a, .inl (cI, n, .inl (upd f (i : Int32).toNatClampNeg v)))) := hD
      exact W.vret hx hb hr (fun t ht hW => ⟨⟨(w.set q0 (a, .inl (cI, n, .inl (upd f (i : Int32).toNatClampNeg v)))), rfl, ⟨_, rfl, fun _ => rfl, fun h => absurd (vp_yes hn c_5 c_11) h⟩, ⟨by rw [ht]; exact hP, va_K.moved hW.alike hK, hD⟩⟩, hS.F ht⟩) hS.2.2 dX7_put_18
set_option maxHeartbeats 4000000 in
set_option maxRecDepth 100000 in
theorem c_putL (l : Launch) (D : va_G) (cI cJ cZ : ClassId) (w : va_W) (q0 a n : Nat) (f : Nat → Int64) (i : Int32) (v : Int64) (hq : w[q0]? = some (a, .inl (cJ, n, .inr (.inl f)))) (hn : n < 2 ^ 31) : CT l D (TY cI cJ cZ) yX7_put_ (.code yX7_put_ cX7_put_ 4 (none : Option FieldType)) 0 0 0 w [.ref a, .int i, .long v] (QV D (TY cI cJ cZ) (fun z => ∃ f9, z = w.set q0 (a, .inl (cJ, n, .inr (.inl f9))) ∧ (vp_in i n → f9 = vp_updL f i.toNatClampNeg v) ∧ (¬ vp_in i n → f9 = f))) := by
  refine ent (by decide) (Nat.le_of_ble_eq_true rfl) ?_
  intro p e s m below meth c ls A hx hb hr hg hown hml hlocks hnm hP hK hD hS hA hN hl
  have hl : lv_has ls 4 [(0, .ref a), (1, .int i), (2, .long v)] := hl
  refine lv_aload_n hx hb dX7_put__0 rfl (lv_at hl 0 rfl) ?_
  refine lv_ifnull hx hb dX7_put__1 ?_
  refine lv_iload_n hx hb dX7_put__4 rfl (lv_at hl 1 rfl) ?_
  refine lv_if_lt (tgt := 18) hx hb dX7_put__5 (by decide) (fun c_5 => ?_) (fun c_5 => ?_)
  · exact W.vret hx hb hr (fun t ht hW => ⟨⟨w, rfl, ⟨f, (set_same hq).symm, fun h => absurd h (vp_no0 c_5), fun _ => rfl⟩, ⟨by rw [ht]; exact hP, va_K.moved hW.alike hK, hD⟩⟩, hS.F ht⟩) hS.2.2 dX7_put__18
  · refine lv_iload_n hx hb dX7_put__8 rfl (lv_at hl 1 rfl) ?_
    refine lv_aload_n hx hb dX7_put__9 rfl (lv_at hl 0 rfl) ?_
    refine va_alen (v := (nI n)) hx hb hK hP q0 1 hq rfl rfl dX7_put__10 ?_
    refine lv_icmp_ge (tgt := 18) hx hb dX7_put__11 (by decide) (fun c_11 => ?_) (fun c_11 => ?_)
    · exact W.vret hx hb hr (fun t ht hW => ⟨⟨w, rfl, ⟨f, (set_same hq).symm, fun h => absurd h (vp_no1 hn c_5 c_11), fun _ => rfl⟩, ⟨by rw [ht]; exact hP, va_K.moved hW.alike hK, hD⟩⟩, hS.F ht⟩) hS.2.2 dX7_put__18
    · refine lv_aload_n hx hb dX7_put__14 rfl (lv_at hl 0 rfl) ?_
      refine lv_iload_n hx hb dX7_put__15 rfl (lv_at hl 1 rfl) ?_
      refine lv_lload_n hx hb dX7_put__16 rfl (lv_at hl 2 rfl) ?_
      refine va_last hx hb hK hP hD hS q0 1 hq rfl (vp_yes hn c_5 c_11) dX7_put__17 (fun H locs hP hD hS => ?_)
      have hP : va_P D vwCl (w.set q0 (a, .inl (cJ, n, .inr (.inl (vp_updL f (i : Int32).toNatClampNeg v))))) H := hP
      have hD : va_D A (w.set q0 (a, .inl (cJ, n, .inr (.inl (vp_updL f (i : Int32).toNatClampNeg v))))) := hD
      exact W.vret hx hb hr (fun t ht hW => ⟨⟨(w.set q0 (a, .inl (cJ, n, .inr (.inl (vp_updL f (i : Int32).toNatClampNeg v))))), rfl, ⟨_, rfl, fun _ => rfl, fun h => absurd (vp_yes hn c_5 c_11) h⟩, ⟨by rw [ht]; exact hP, va_K.moved hW.alike hK, hD⟩⟩, hS.F ht⟩) hS.2.2 dX7_put__18
set_option maxHeartbeats 4000000 in
set_option maxRecDepth 100000 in
theorem c_has0 (l : Launch) (D : va_G) (cI cJ cZ : ClassId) (w : va_W) (i : Int32) : CT l D (TY cI cJ cZ) yX7_has (.code yX7_has cX7_has 3 (some Jvm.ClassFile.FieldType.boolean)) 0 0 0 w [.long 0, .int i] (QI D (TY cI cJ cZ) (fun r u => r = 0 ∧ u = w)) := by
  refine ent (by decide) (Nat.le_of_ble_eq_true rfl) ?_
  intro p e s m below meth c ls A hx hb hr hg hown hml hlocks hnm hP hK hD hS hA hN hl
  have hl : lv_has ls 3 [(0, .long 0), (2, .int i)] := hl
  refine lv_lload_n hx hb dX7_has_0 rfl (lv_at hl 0 rfl) ?_
  refine lv_iload_n hx hb dX7_has_1 rfl (lv_at hl 1 rfl) ?_
  refine lv_lushr (v := 0) hx hb dX7_has_2 (lushr0 _) ?_
  refine lv_lconst (v := 1) hx hb dX7_has_3 (by decide) ?_
  refine lv_land hx hb dX7_has_4 ?_
  refine lv_topl (fun v_1 ev_1 => ?_)
  obtain rfl : v_1 = (0 : Int64) := ev_1.trans (by decide)
  refine lv_lconst (v := 0) hx hb dX7_has_5 (by decide) ?_
  refine W.lcmp hx hb dX7_has_6 ?_
  refine lv_topi (fun v_2 ev_2 => ?_)
  obtain rfl : v_2 = (0 : Int32) := ev_2.trans (by decide)
  refine lv_if_eq (tgt := 14) hx hb dX7_has_7 (by decide) (fun c_7 => ?_) (fun c_7 => absurd (by decide) c_7)
  refine lv_iconst (v := 0) hx hb dX7_has_14 (by decide) ?_
  exact W.zret (v := 0) hx hb hr rfl (fun t ht hW => ⟨⟨0, w, rfl, ⟨rfl, rfl⟩, ⟨by rw [ht]; exact hP, va_K.moved hW.alike hK, hD⟩⟩, hS.F ht⟩) hS.2.2 dX7_has_15
set_option maxHeartbeats 4000000 in
set_option maxRecDepth 100000 in
theorem c_bit (l : Launch) (D : va_G) (cI cJ cZ : ClassId) (w : va_W) (i : Int32) : CT l D (TY cI cJ cZ) yX7_bit (.code yX7_bit cX7_bit 1 (some Jvm.ClassFile.FieldType.long)) 0 0 0 w [.int i] (QL D (TY cI cJ cZ) (fun r u => u = w)) := by
  refine ent (by decide) (Nat.le_of_ble_eq_true rfl) ?_
  intro p e s m below meth c ls A hx hb hr hg hown hml hlocks hnm hP hK hD hS hA hN hl
  have hl : lv_has ls 1 [(0, .int i)] := hl
  refine lv_lconst (v := 1) hx hb dX7_bit_0 (by decide) ?_
  refine lv_iload_n hx hb dX7_bit_1 rfl (lv_at hl 0 rfl) ?_
  refine lv_lshl hx hb dX7_bit_2 rfl ?_
  refine lv_topl (fun v_1 ev_1 => ?_)
  exact W.lret (v := v_1) hx hb hr (fun t ht hW => ⟨⟨v_1, w, rfl, rfl, ⟨by rw [ht]; exact hP, va_K.moved hW.alike hK, hD⟩⟩, hS.F ht⟩) hS.2.2 dX7_bit_3
set_option maxHeartbeats 4000000 in
set_option maxRecDepth 100000 in
theorem c_jumps (l : Launch) (D : va_G) (cI cJ cZ : ClassId) (w : va_W) (k : Int32) : CT l D (TY cI cJ cZ) yX7_jumps (.code yX7_jumps cX7_jumps 1 (some Jvm.ClassFile.FieldType.boolean)) 0 0 0 w [.int k] (QI D (TY cI cJ cZ) (fun r u => (r = 1 ∧ (k = 1 ∨ k = 2) ∨ r = 0 ∧ ¬ k = 1 ∧ ¬ k = 2) ∧ u = w)) := by
  refine ent (by decide) (Nat.le_of_ble_eq_true rfl) ?_
  intro p e s m below meth c ls A hx hb hr hg hown hml hlocks hnm hP hK hD hS hA hN hl
  have hl : lv_has ls 1 [(0, .int k)] := hl
  refine lv_iload_n hx hb dX7_jumps_0 rfl (lv_at hl 0 rfl) ?_
  refine lv_iconst (v := 1) hx hb dX7_jumps_1 (by decide) ?_
  refine lv_icmp_eq (tgt := 10) hx hb dX7_jumps_2 (by decide) (fun c_2 => ?_) (fun c_2 => ?_)
  · refine lv_iconst (v := 1) hx hb dX7_jumps_10 (by decide) ?_
    refine lv_goto (tgt := 15) hx hb dX7_jumps_11 (by decide) ?_
    exact W.zret (v := 1) hx hb hr rfl (fun t ht hW => ⟨⟨1, w, rfl, ⟨by first | exact Or.inl ⟨rfl, Or.inl c_2⟩ | exact Or.inl ⟨rfl, Or.inl (Classical.not_not.mp c_2)⟩ | exact Or.inl ⟨rfl, Or.inr (Classical.not_not.mp c_7)⟩ | exact Or.inl ⟨rfl, Or.inr c_7⟩ | exact Or.inr ⟨rfl, c_2, c_7⟩, rfl⟩, ⟨by rw [ht]; exact hP, va_K.moved hW.alike hK, hD⟩⟩, hS.F ht⟩) hS.2.2 dX7_jumps_15
  · refine lv_iload_n hx hb dX7_jumps_5 rfl (lv_at hl 0 rfl) ?_
    refine lv_iconst (v := 2) hx hb dX7_jumps_6 (by decide) ?_
    refine lv_icmp_ne (tgt := 14) hx hb dX7_jumps_7 (by decide) (fun c_7 => ?_) (fun c_7 => ?_)
    · refine lv_iconst (v := 0) hx hb dX7_jumps_14 (by decide) ?_
      exact W.zret (v := 0) hx hb hr rfl (fun t ht hW => ⟨⟨0, w, rfl, ⟨by first | exact Or.inl ⟨rfl, Or.inl c_2⟩ | exact Or.inl ⟨rfl, Or.inl (Classical.not_not.mp c_2)⟩ | exact Or.inl ⟨rfl, Or.inr (Classical.not_not.mp c_7)⟩ | exact Or.inl ⟨rfl, Or.inr c_7⟩ | exact Or.inr ⟨rfl, c_2, c_7⟩, rfl⟩, ⟨by rw [ht]; exact hP, va_K.moved hW.alike hK, hD⟩⟩, hS.F ht⟩) hS.2.2 dX7_jumps_15
    · refine lv_iconst (v := 1) hx hb dX7_jumps_10 (by decide) ?_
      refine lv_goto (tgt := 15) hx hb dX7_jumps_11 (by decide) ?_
      exact W.zret (v := 1) hx hb hr rfl (fun t ht hW => ⟨⟨1, w, rfl, ⟨by first | exact Or.inl ⟨rfl, Or.inl c_2⟩ | exact Or.inl ⟨rfl, Or.inl (Classical.not_not.mp c_2)⟩ | exact Or.inl ⟨rfl, Or.inr (Classical.not_not.mp c_7)⟩ | exact Or.inl ⟨rfl, Or.inr c_7⟩ | exact Or.inr ⟨rfl, c_2, c_7⟩, rfl⟩, ⟨by rw [ht]; exact hP, va_K.moved hW.alike hK, hD⟩⟩, hS.F ht⟩) hS.2.2 dX7_jumps_15
set_option maxHeartbeats 4000000 in
set_option maxRecDepth 100000 in
theorem c_isTarget (l : Launch) (D : va_G) (cI cJ cZ : ClassId) (w : va_W) (k : Int32) : CT l D (TY cI cJ cZ) yX7_isTarget (.code yX7_isTarget cX7_isTarget 1 (some Jvm.ClassFile.FieldType.boolean)) 0 0 0 w [.int k] (QI D (TY cI cJ cZ) (fun r u => (r = 1 ∧ ¬ k < 0 ∧ ¬ 40 < k ∨ r = 0 ∧ (k < 0 ∨ 40 < k)) ∧ u = w)) := by
  refine ent (by decide) (Nat.le_of_ble_eq_true rfl) ?_
  intro p e s m below meth c ls A hx hb hr hg hown hml hlocks hnm hP hK hD hS hA hN hl
  have hl : lv_has ls 1 [(0, .int k)] := hl
  refine lv_iload_n hx hb dX7_isTarget_0 rfl (lv_at hl 0 rfl) ?_
  refine lv_if_lt (tgt := 14) hx hb dX7_isTarget_1 (by decide) (fun c_1 => ?_) (fun c_1 => ?_)
  · refine lv_iconst (v := 0) hx hb dX7_isTarget_14 (by decide) ?_
    exact W.zret (v := 0) hx hb hr rfl (fun t ht hW => ⟨⟨0, w, rfl, ⟨by first | exact Or.inr ⟨rfl, Or.inl c_1⟩ | exact Or.inr ⟨rfl, Or.inr c_7⟩ | exact Or.inl ⟨rfl, c_1, c_7⟩, rfl⟩, ⟨by rw [ht]; exact hP, va_K.moved hW.alike hK, hD⟩⟩, hS.F ht⟩) hS.2.2 dX7_isTarget_15
  · refine lv_iload_n hx hb dX7_isTarget_4 rfl (lv_at hl 0 rfl) ?_
    refine lv_bipush (v := 40) hx hb dX7_isTarget_5 (by decide) ?_
    refine lv_icmp_gt (tgt := 14) hx hb dX7_isTarget_7 (by decide) (fun c_7 => ?_) (fun c_7 => ?_)
    · refine lv_iconst (v := 0) hx hb dX7_isTarget_14 (by decide) ?_
      exact W.zret (v := 0) hx hb hr rfl (fun t ht hW => ⟨⟨0, w, rfl, ⟨by first | exact Or.inr ⟨rfl, Or.inl c_1⟩ | exact Or.inr ⟨rfl, Or.inr c_7⟩ | exact Or.inl ⟨rfl, c_1, c_7⟩, rfl⟩, ⟨by rw [ht]; exact hP, va_K.moved hW.alike hK, hD⟩⟩, hS.F ht⟩) hS.2.2 dX7_isTarget_15
    · refine lv_iconst (v := 1) hx hb dX7_isTarget_10 (by decide) ?_
      refine lv_goto (tgt := 15) hx hb dX7_isTarget_11 (by decide) ?_
      exact W.zret (v := 1) hx hb hr rfl (fun t ht hW => ⟨⟨1, w, rfl, ⟨by first | exact Or.inr ⟨rfl, Or.inl c_1⟩ | exact Or.inr ⟨rfl, Or.inr c_7⟩ | exact Or.inl ⟨rfl, c_1, c_7⟩, rfl⟩, ⟨by rw [ht]; exact hP, va_K.moved hW.alike hK, hD⟩⟩, hS.F ht⟩) hS.2.2 dX7_isTarget_15
end
section
theorem dX1_leadersOf_0 : decode cX1_leadersOf 0 = .ok (.lconst 1, 1) := by decide +kernel
theorem dX1_leadersOf_1 : decode cX1_leadersOf 1 = .ok (.lstore_n 1, 1) := by decide +kernel
theorem dX1_leadersOf_2 : decode cX1_leadersOf 2 = .ok (.iconst 0, 1) := by decide +kernel
theorem dX1_leadersOf_3 : decode cX1_leadersOf 3 = .ok (.istore_n 3, 1) := by decide +kernel
theorem dX1_leadersOf_4 : decode cX1_leadersOf 4 = .ok (.iload_n 3, 1) := by decide +kernel
theorem dX1_leadersOf_5 : decode cX1_leadersOf 5 = .ok (.aload_n 0, 1) := by decide +kernel
theorem dX1_leadersOf_6 : decode cX1_leadersOf 6 = .ok (.getfield 34, 3) := by decide +kernel
theorem dX1_leadersOf_9 : decode cX1_leadersOf 9 = .ok (.if_icmp .ge 55, 3) := by decide +kernel
theorem dX1_leadersOf_64 : decode cX1_leadersOf 64 = .ok (.lload_n 1, 1) := by decide +kernel
theorem dX1_leadersOf_65 : decode cX1_leadersOf 65 = .ok (.lreturn, 1) := by decide +kernel
theorem dX1_cut_0 : decode cX1_cut 0 = .ok (.aload_n 0, 1) := by decide +kernel
theorem dX1_cut_1 : decode cX1_cut 1 = .ok (.iconst 0, 1) := by decide +kernel
theorem dX1_cut_2 : decode cX1_cut 2 = .ok (.putfield 51, 3) := by decide +kernel
theorem dX1_cut_5 : decode cX1_cut 5 = .ok (.iconst 0, 1) := by decide +kernel
theorem dX1_cut_6 : decode cX1_cut 6 = .ok (.istore 4, 2) := by decide +kernel
theorem dX1_cut_8 : decode cX1_cut 8 = .ok (.iload 4, 2) := by decide +kernel
theorem dX1_cut_10 : decode cX1_cut 10 = .ok (.iload_n 1, 1) := by decide +kernel
theorem dX1_cut_11 : decode cX1_cut 11 = .ok (.if_icmp .ge 71, 3) := by decide +kernel
theorem dX1_cut_82 : decode cX1_cut 82 = .ok (.return_, 1) := by decide +kernel
theorem dX1_part_0 : decode cX1_part 0 = .ok (.aload_n 0, 1) := by decide +kernel
theorem dX1_part_1 : decode cX1_part 1 = .ok (.aload_n 1, 1) := by decide +kernel
theorem dX1_part_2 : decode cX1_part 2 = .ok (.getfield 34, 3) := by decide +kernel
theorem dX1_part_5 : decode cX1_part 5 = .ok (.aload_n 1, 1) := by decide +kernel
theorem dX1_part_6 : decode cX1_part 6 = .ok (.invokestatic 40, 3) := by decide +kernel
theorem dX1_part_9 : decode cX1_part 9 = .ok (.invokevirtual 44, 3) := by decide +kernel
theorem dX1_part_12 : decode cX1_part 12 = .ok (.aload_n 0, 1) := by decide +kernel
theorem dX1_part_13 : decode cX1_part 13 = .ok (.iconst 0, 1) := by decide +kernel
theorem dX1_part_14 : decode cX1_part 14 = .ok (.putfield 48, 3) := by decide +kernel
theorem dX1_part_17 : decode cX1_part 17 = .ok (.iconst 0, 1) := by decide +kernel
theorem dX1_part_18 : decode cX1_part 18 = .ok (.istore_n 2, 1) := by decide +kernel
theorem dX1_part_19 : decode cX1_part 19 = .ok (.iload_n 2, 1) := by decide +kernel
theorem dX1_part_20 : decode cX1_part 20 = .ok (.aload_n 0, 1) := by decide +kernel
theorem dX1_part_21 : decode cX1_part 21 = .ok (.getfield 51, 3) := by decide +kernel
theorem dX1_part_24 : decode cX1_part 24 = .ok (.if_icmp .ge 36, 3) := by decide +kernel
theorem dX1_part_60 : decode cX1_part 60 = .ok (.aload_n 0, 1) := by decide +kernel
theorem dX1_part_61 : decode cX1_part 61 = .ok (.getfield 27, 3) := by decide +kernel
theorem dX1_part_64 : decode cX1_part 64 = .ok (.aload_n 0, 1) := by decide +kernel
theorem dX1_part_65 : decode cX1_part 65 = .ok (.getfield 51, 3) := by decide +kernel
theorem dX1_part_68 : decode cX1_part 68 = .ok (.aload_n 0, 1) := by decide +kernel
theorem dX1_part_69 : decode cX1_part 69 = .ok (.getfield 48, 3) := by decide +kernel
theorem dX1_part_72 : decode cX1_part 72 = .ok (.invokestatic 54, 3) := by decide +kernel
theorem dX1_part_75 : decode cX1_part 75 = .ok (.aload_n 0, 1) := by decide +kernel
theorem dX1_part_76 : decode cX1_part 76 = .ok (.aload_n 0, 1) := by decide +kernel
theorem dX1_part_77 : decode cX1_part 77 = .ok (.getfield 51, 3) := by decide +kernel
theorem dX1_part_80 : decode cX1_part 80 = .ok (.ifCond .le 19, 3) := by decide +kernel
theorem dX1_part_99 : decode cX1_part 99 = .ok (.lconst 0, 1) := by decide +kernel
theorem dX1_part_100 : decode cX1_part 100 = .ok (.putfield 73, 3) := by decide +kernel
theorem dX1_part_103 : decode cX1_part 103 = .ok (.return_, 1) := by decide +kernel
theorem dX7_freshFlow_0 : decode cX7_freshFlow 0 = .ok (.aload_n 0, 1) := by decide +kernel
theorem dX7_freshFlow_1 : decode cX7_freshFlow 1 = .ok (.getfield 19, 3) := by decide +kernel
theorem dX7_freshFlow_4 : decode cX7_freshFlow 4 = .ok (.getfield 333, 3) := by decide +kernel
theorem dX7_freshFlow_7 : decode cX7_freshFlow 7 = .ok (.ifCond .ne 22, 3) := by decide +kernel
theorem dX7_freshFlow_10 : decode cX7_freshFlow 10 = .ok (.aload_n 0, 1) := by decide +kernel
theorem dX7_freshFlow_11 : decode cX7_freshFlow 11 = .ok (.getfield 19, 3) := by decide +kernel
theorem dX7_freshFlow_14 : decode cX7_freshFlow 14 = .ok (.aload_n 0, 1) := by decide +kernel
theorem dX7_freshFlow_15 : decode cX7_freshFlow 15 = .ok (.getfield 10, 3) := by decide +kernel
theorem dX7_freshFlow_18 : decode cX7_freshFlow 18 = .ok (.invokevirtual 337, 3) := by decide +kernel
theorem dX7_freshFlow_21 : decode cX7_freshFlow 21 = .ok (.aload_n 0, 1) := by decide +kernel
theorem dX7_freshFlow_22 : decode cX7_freshFlow 22 = .ok (.getfield 19, 3) := by decide +kernel
theorem dX7_freshFlow_25 : decode cX7_freshFlow 25 = .ok (.iconst 1, 1) := by decide +kernel
theorem dX7_freshFlow_26 : decode cX7_freshFlow 26 = .ok (.putfield 333, 3) := by decide +kernel
theorem dX7_freshFlow_29 : decode cX7_freshFlow 29 = .ok (.aload_n 0, 1) := by decide +kernel
theorem dX7_freshFlow_30 : decode cX7_freshFlow 30 = .ok (.getfield 19, 3) := by decide +kernel
theorem dX7_freshFlow_33 : decode cX7_freshFlow 33 = .ok (.areturn, 1) := by decide +kernel
theorem mw_97 : Cond.fieldLink RX1 51 "OrielChart$Flow" "blockCount" "I" ∈ GW := gw_mem (inT1 _ (List.mem_of_getElem? (i := 89) rfl)) rfl
theorem mw_98 : Cond.code yX1_leadersOf cX1_leadersOf 5 (some Jvm.ClassFile.FieldType.long) ∈ GW := gw_mem (inT2 _ (List.mem_of_getElem? (i := 108) rfl)) rfl
theorem mw_99 : Cond.methodLink RX1 40 yX1_leadersOf ∈ GW := gw_mem (inT2 _ (List.mem_of_getElem? (i := 106) rfl)) rfl
theorem mw_100 : Cond.static yX1_leadersOf ∈ GW := gw_mem (inT2 _ (List.mem_of_getElem? (i := 107) rfl)) rfl
theorem mw_101 : Cond.initialized RX1 ∈ GW := gw_mem (inT1 _ (List.mem_of_getElem? (i := 3) rfl)) rfl
theorem mw_102 : Cond.code yX1_cut cX1_cut 5 (none : Option FieldType) ∈ GW := gw_mem (inT2 _ (List.mem_of_getElem? (i := 121) rfl)) rfl
theorem mw_103 : Cond.methodLink RX1 44 yX1_cut ∈ GW := gw_mem (inT2 _ (List.mem_of_getElem? (i := 118) rfl)) rfl
theorem mw_104 : Cond.instanceMethod yX1_cut ∈ GW := gw_mem (inT2 _ (List.mem_of_getElem? (i := 120) rfl)) rfl
theorem mw_105 : Cond.selects RX1 yX1_cut yX1_cut ∈ GW := gw_mem (inTp (q := (yX1_cut, 11)) (List.mem_of_getElem? (i := 1) rfl)) rfl
theorem mw_106 : Cond.fieldLink RX1 48 "OrielChart$Flow" "edgeCount" "I" ∈ GW := gw_mem (inT1 _ (List.mem_of_getElem? (i := 95) rfl)) rfl
theorem mw_107 : Cond.fieldLink RX1 27 "OrielChart$Flow" "firstEdge" "[I" ∈ GW := gw_mem (inT1 _ (List.mem_of_getElem? (i := 83) rfl)) rfl
theorem mw_108 : Cond.code yX7_put cX7_put 3 (none : Option FieldType) ∈ GW := gw_mem (inT2 _ (List.mem_of_getElem? (i := 127) rfl)) rfl
theorem mw_109 : Cond.static yX7_put ∈ GW := gw_mem (inT2 _ (List.mem_of_getElem? (i := 126) rfl)) rfl
theorem mw_110 : Cond.initialized RX7 ∈ GW := gw_mem (inT1 _ (List.mem_of_getElem? (i := 1) rfl)) rfl
theorem mw_111 : Cond.fieldLink RX1 73 "OrielChart$Flow" "reached" "J" ∈ GW := gw_mem (inT1 _ (List.mem_of_getElem? (i := 101) rfl)) rfl
theorem mw_112 : Cond.fieldLink RX7 19 "OrielChart" "flow" "LOrielChart$Flow;" ∈ GW := gw_mem (inT2 _ (List.mem_of_getElem? (i := 72) rfl)) rfl
theorem mw_113 : Cond.fieldLink RX7 10 "OrielChart" "code" "LOrielChart$Code;" ∈ GW := gw_mem (inT2 _ (List.mem_of_getElem? (i := 71) rfl)) rfl
theorem mw_114 : Cond.code yX1_part cX1_part 3 (none : Option FieldType) ∈ GW := gw_mem (inT2 _ (List.mem_of_getElem? (i := 105) rfl)) rfl
theorem mw_115 : Cond.methodLink RX7 337 yX1_part ∈ GW := gw_mem (inT2 _ (List.mem_of_getElem? (i := 102) rfl)) rfl
theorem mw_116 : Cond.instanceMethod yX1_part ∈ GW := gw_mem (inT2 _ (List.mem_of_getElem? (i := 103) rfl)) rfl
theorem mw_117 : Cond.selects RX1 yX1_part yX1_part ∈ GW := gw_mem (inT2 _ (List.mem_of_getElem? (i := 104) rfl)) rfl
theorem pd_X1_leadersOf : yX1_leadersOf.cls ≠ "java/lang/invoke/MethodHandle" ∧ yX1_leadersOf.cls ≠ "java/lang/invoke/VarHandle" ∧ (parseMethodDescriptor yX1_leadersOf.desc).map (fun d => d.parameters.length) = some 1 := by decide +kernel
theorem pdv_X1_cut : yX1_cut.cls = RX1 ∧ yX1_cut.cls ≠ "java/lang/invoke/MethodHandle" ∧ yX1_cut.cls ≠ "java/lang/invoke/VarHandle" ∧ (parseMethodDescriptor yX1_cut.desc).map (fun d => d.parameters.length) = some 2 := by decide +kernel
theorem pd_X7_put : yX7_put.cls ≠ "java/lang/invoke/MethodHandle" ∧ yX7_put.cls ≠ "java/lang/invoke/VarHandle" ∧ (parseMethodDescriptor yX7_put.desc).map (fun d => d.parameters.length) = some 3 := by decide +kernel
theorem pdv_X1_part : yX1_part.cls = RX1 ∧ yX1_part.cls ≠ "java/lang/invoke/MethodHandle" ∧ yX1_part.cls ≠ "java/lang/invoke/VarHandle" ∧ (parseMethodDescriptor yX1_part.desc).map (fun d => d.parameters.length) = some 1 := by decide +kernel
def XW (ad : Nat → Nat) (cI cJ : ClassId) (n : Int32) (b : Nat → Int32) (F : Nat → Nat → Int32) (G : Nat → Nat → Int64) : va_W := [(ad 0, .inr (7, [.ref (ad 1), .ref (ad 2), .ref (ad 3), .ref (ad 4), .ref (ad 5), .ref (ad 6)])), (ad 1, .inr (0, [.ref (ad 8), .ref (ad 9), .ref (ad 10), .ref (ad 11), .int n])), (ad 2, .inr (1, [.ref (ad 12), .ref (ad 13), .ref (ad 14), .ref (ad 15), .ref (ad 16), .ref (ad 17), .ref (ad 18), .int 0, .int 0, .long 0, .int (b 0)])), (ad 3, .inr (4, [.ref (ad 19), .ref (ad 20), .ref (ad 21), .ref (ad 22), .int 0, .int (b 1), .int (b 2)])), (ad 4, .inr (2, [.ref (ad 23), .int 0, .int (b 3)])), (ad 5, .inr (5, [.ref (ad 24), .ref (ad 25), .ref (ad 26), .ref (ad 27), .ref (ad 28), .long 0, .int 0, .int (b 4)])), (ad 6, .inr (3, [.ref (ad 7), .ref (ad 34), .ref (ad 35), .ref (ad 36), .ref (ad 37), .ref (ad 38), .ref (ad 39), .ref (ad 40), .ref (ad 41), .ref (ad 42), .ref (ad 43), .ref (ad 44), .int 0, .int 0, .int (b 5), .int (b 6)])), (ad 7, .inr (6, [.ref (ad 29), .ref (ad 30), .ref (ad 31), .ref (ad 32), .ref (ad 33), .int 0, .int 0, .long 0, .long 0])), (ad 8, .inl (cI, 40, .inl (F 8))), (ad 9, .inl (cI, 40, .inl (F 9))), (ad 10, .inl (cI, 40, .inl (F 10))), (ad 11, .inl (cI, 40, .inl (F 11))), (ad 12, .inl (cI, 40, .inl (F 12))), (ad 13, .inl (cI, 40, .inl (F 13))), (ad 14, .inl (cI, 40, .inl (F 14))), (ad 15, .inl (cI, 80, .inl (F 15))), (ad 16, .inl (cI, 80, .inl (F 16))), (ad 17, .inl (cI, 41, .inl (F 17))), (ad 18, .inl (cJ, 40, .inr (.inl (G 18)))), (ad 19, .inl (cJ, 40, .inr (.inl (G 19)))), (ad 20, .inl (cJ, 40, .inr (.inl (G 20)))), (ad 21, .inl (cJ, 40, .inr (.inl (G 21)))), (ad 22, .inl (cJ, 40, .inr (.inl (G 22)))), (ad 23, .inl (cI, 40, .inl (F 23))), (ad 24, .inl (cJ, 40, .inr (.inl (fun _ => 0)))), (ad 25, .inl (cI, 40, .inl (F 25))), (ad 26, .inl (cI, 120, .inl (F 26))), (ad 27, .inl (cI, 120, .inl (F 27))), (ad 28, .inl (cI, 41, .inl (F 28))), (ad 29, .inl (cI, 40, .inl (F 29))), (ad 30, .inl (cI, 80, .inl (F 30))), (ad 31, .inl (cI, 80, .inl (F 31))), (ad 32, .inl (cI, 40, .inl (F 32))), (ad 33, .inl (cI, 40, .inl (F 33))), (ad 34, .inl (cI, 40, .inl (F 34))), (ad 35, .inl (cI, 41, .inl (fun _ => 0))), (ad 36, .inl (cI, 80, .inl (F 36))), (ad 37, .inl (cI, 1600, .inl (F 37))), (ad 38, .inl (cI, 1600, .inl (F 38))), (ad 39, .inl (cI, 1600, .inl (F 39))), (ad 40, .inl (cI, 1600, .inl (F 40))), (ad 41, .inl (cI, 120, .inl (F 41))), (ad 42, .inl (cI, 120, .inl (F 42))), (ad 43, .inl (cI, 80, .inl (F 43))), (ad 44, .inl (cI, 80, .inl (F 44)))]
set_option maxHeartbeats 4000000 in
set_option maxRecDepth 100000 in
theorem c_leadersOf (l : Launch) (D : va_G) (cI cJ cZ : ClassId) (ad : Nat → Nat) (b : Nat → Int32) (F : Nat → Nat → Int32) (G : Nat → Nat → Int64) (R : va_W) : CT l D (TY cI cJ cZ) yX1_leadersOf (.code yX1_leadersOf cX1_leadersOf 5 (some Jvm.ClassFile.FieldType.long)) 1 0 0 (XW ad cI cJ 0 b F G ++ R) [.ref (ad 1)] (QL D (TY cI cJ cZ) (fun r u => r = 1 ∧ u = XW ad cI cJ 0 b F G ++ R)) := by
  refine ent (by decide) (Nat.le_of_ble_eq_true rfl) ?_
  intro p e s m below meth c ls A hx hb hr hg hown hml hlocks hnm hP hK hD hS hA hN hl
  have hl : lv_has ls 5 [(0, .ref (ad 1))] := hl
  refine lv_lconst (v := 1) hx hb dX1_leadersOf_0 (by decide) ?_
  refine lv_lstore_n (lv' := [(1, .long 1), (0, .ref (ad 1))]) hx hb dX1_leadersOf_1 rfl hl (by decide) rfl (fun ls hl => ?_)
  refine lv_iconst (v := 0) hx hb dX1_leadersOf_2 (by decide) ?_
  refine lv_istore_n (lv' := [(3, .int 0), (1, .long 1), (0, .ref (ad 1))]) hx hb dX1_leadersOf_3 rfl hl (by decide) rfl (fun ls hl => ?_)
  refine lv_iload_n hx hb dX1_leadersOf_4 rfl (lv_at hl 0 rfl) ?_
  refine lv_aload_n hx hb dX1_leadersOf_5 rfl (lv_at hl 2 rfl) ?_
  refine va_getN (D := D) (ci := 0) (v := .int 0) (C := RX0) (T := TX0) (N := 5) hx hb hg inGX0 hown hK hP 1 rfl rfl 4 (by decide) (hN.use nw_9) (fun _ h9 => h9) rfl dX1_leadersOf_6 ?_
  refine lv_icmp_ge (tgt := 64) hx hb dX1_leadersOf_9 (by decide) (fun c_9 => ?_) (fun c_9 => absurd (by decide) c_9)
  refine lv_lload_n hx hb dX1_leadersOf_64 rfl (lv_at hl 1 rfl) ?_
  exact W.lret (v := 1) hx hb hr (fun t ht hW => ⟨⟨1, (XW ad cI cJ 0 b F G ++ R), rfl, ⟨rfl, rfl⟩, ⟨by rw [ht]; exact hP, va_K.moved hW.alike hK, hD⟩⟩, hS.F ht⟩) hS.2.2 dX1_leadersOf_65
set_option maxHeartbeats 4000000 in
set_option maxRecDepth 100000 in
theorem c_cut (l : Launch) (D : va_G) (cI cJ cZ : ClassId) (ad : Nat → Nat) (b : Nat → Int32) (F : Nat → Nat → Int32) (G : Nat → Nat → Int64) (R : va_W) (v : Int64) : CT l D (TY cI cJ cZ) yX1_cut (.code yX1_cut cX1_cut 5 (none : Option FieldType)) 1 0 0 (XW ad cI cJ 0 b F G ++ R) [.ref (ad 2), .int 0, .long v] (QV D (TY cI cJ cZ) (fun u => u = XW ad cI cJ 0 b F G ++ R)) := by
  refine ent (by decide) (Nat.le_of_ble_eq_true rfl) ?_
  intro p e s m below meth c ls A hx hb hr hg hown hml hlocks hnm hP hK hD hS hA hN hl
  have hl : lv_has ls 5 [(0, .ref (ad 2)), (1, .int 0), (2, .long v)] := hl
  refine lv_aload_n hx hb dX1_cut_0 rfl (lv_at hl 0 rfl) ?_
  refine lv_iconst (v := 0) hx hb dX1_cut_1 (by decide) ?_
  refine va_put (D := D) (ci := 1) (v := .int 0) (C := RX1) (T := TX1) (N := 11) hx hb hg inGX1 tyX1 tyX1_ok nmX1 hown hK hP hD hS 2 rfl rfl 7 (by decide) (hg _ mw_97) (fun _ h9 => h9) rfl (tyX1_ok 7 (by decide)) rfl rfl (Nat.le_of_ble_eq_true rfl) dX1_cut_2 (fun H locs hP hD hS => ?_)
  have hP : va_P D vwCl (XW ad cI cJ 0 b F G ++ R) H := hP
  have hD : va_D A (XW ad cI cJ 0 b F G ++ R) := hD
  refine lv_iconst (v := 0) hx hb dX1_cut_5 (by decide) ?_
  refine lv_istore (lv' := [(4, .int 0), (0, .ref (ad 2)), (1, .int 0), (2, .long v)]) hx hb dX1_cut_6 hl (by decide) rfl (fun ls hl => ?_)
  refine lv_iload hx hb dX1_cut_8 (lv_at hl 0 rfl) ?_
  refine lv_iload_n hx hb dX1_cut_10 rfl (lv_at hl 2 rfl) ?_
  refine lv_icmp_ge (tgt := 82) hx hb dX1_cut_11 (by decide) (fun c_11 => ?_) (fun c_11 => absurd (by decide) c_11)
  exact W.vret hx hb hr (fun t ht hW => ⟨⟨(XW ad cI cJ 0 b F G ++ R), rfl, rfl, ⟨by rw [ht]; exact hP, va_K.moved hW.alike hK, hD⟩⟩, hS.F ht⟩) hS.2.2 dX1_cut_82
set_option maxHeartbeats 4000000 in
set_option maxRecDepth 100000 in
theorem c_part (l : Launch) (D : va_G) (cI cJ cZ : ClassId) (ad : Nat → Nat) (b : Nat → Int32) (F : Nat → Nat → Int32) (G : Nat → Nat → Int64) (R : va_W) : CT l D (TY cI cJ cZ) yX1_part (.code yX1_part cX1_part 3 (none : Option FieldType)) 2 0 0 (XW ad cI cJ 0 b F G ++ R) [.ref (ad 2), .ref (ad 1)] (QV D (TY cI cJ cZ) (fun u => ∃ F' G', u = XW ad cI cJ 0 b F' G' ++ R)) := by
  refine ent (by decide) (Nat.le_of_ble_eq_true rfl) ?_
  intro p e s m below meth c ls A hx hb hr hg hown hml hlocks hnm hP hK hD hS hA hN hl
  have hl : lv_has ls 3 [(0, .ref (ad 2)), (1, .ref (ad 1))] := hl
  refine lv_aload_n hx hb dX1_part_0 rfl (lv_at hl 0 rfl) ?_
  refine lv_aload_n hx hb dX1_part_1 rfl (lv_at hl 1 rfl) ?_
  refine va_getN (D := D) (ci := 0) (v := .int 0) (C := RX0) (T := TX0) (N := 5) hx hb hg inGX0 hown hK hP 1 rfl rfl 4 (by decide) (hN.use nw_9) (fun _ h9 => h9) rfl dX1_part_2 ?_
  refine lv_aload_n hx hb dX1_part_5 rfl (lv_at hl 1 rfl) ?_
  refine kL (rS hx hb hml hown hg hN hK hP hD (c_leadersOf l D cI cJ cZ ad b F G R) mw_98 mw_99 mw_100 mw_101 pd_X1_leadersOf ⟨Nat.le_of_ble_eq_true rfl, Nat.le_of_ble_eq_true rfl⟩ rfl hl.1 rfl (Nat.le_of_ble_eq_true rfl) dX1_part_6 ⟨Nat.le_of_ble_eq_true rfl, Nat.le_of_ble_eq_true rfl⟩) hD hS hA (fun r_1 u_1 H locs hp hP hD hS => ?_)
  obtain ⟨rfl, rfl⟩ := hp
  refine kV (rV (q0 := 2) (ci := 1) hx hb hml hown hg hN hK hP hD (c_cut l D cI cJ cZ ad b F G R 1) mw_102 mw_103 mw_104 mw_105 mw_101 pdv_X1_cut ⟨Nat.le_of_ble_eq_true rfl, Nat.le_of_ble_eq_true rfl⟩ rfl rfl rfl hl.1 rfl (Nat.le_of_ble_eq_true rfl) dX1_part_9 ⟨Nat.le_of_ble_eq_true rfl, Nat.le_of_ble_eq_true rfl⟩) hD hS hA (fun u_2 H locs hp hP hD hS => ?_)
  obtain rfl := hp
  refine lv_aload_n hx hb dX1_part_12 rfl (lv_at hl 0 rfl) ?_
  refine lv_iconst (v := 0) hx hb dX1_part_13 (by decide) ?_
  refine va_put (D := D) (ci := 1) (v := .int 0) (C := RX1) (T := TX1) (N := 11) hx hb hg inGX1 tyX1 tyX1_ok nmX1 hown hK hP hD hS 2 rfl rfl 8 (by decide) (hg _ mw_106) (fun _ h9 => h9) rfl (tyX1_ok 8 (by decide)) rfl rfl (Nat.le_of_ble_eq_true rfl) dX1_part_14 (fun H locs hP hD hS => ?_)
  have hP : va_P D vwCl (XW ad cI cJ 0 b F G ++ R) H := hP
  have hD : va_D A (XW ad cI cJ 0 b F G ++ R) := hD
  refine lv_iconst (v := 0) hx hb dX1_part_17 (by decide) ?_
  refine lv_istore_n (lv' := [(2, .int 0), (0, .ref (ad 2)), (1, .ref (ad 1))]) hx hb dX1_part_18 rfl hl (by decide) rfl (fun ls hl => ?_)
  refine lv_iload_n hx hb dX1_part_19 rfl (lv_at hl 0 rfl) ?_
  refine lv_aload_n hx hb dX1_part_20 rfl (lv_at hl 1 rfl) ?_
  refine va_get (D := D) (ci := 1) (v := .int 0) (C := RX1) (T := TX1) (N := 11) hx hb hg inGX1 hown hK hP 2 rfl rfl 7 (by decide) (hg _ mw_97) (fun _ h9 => h9) rfl dX1_part_21 ?_
  refine lv_icmp_ge (tgt := 60) hx hb dX1_part_24 (by decide) (fun c_24 => ?_) (fun c_24 => absurd (by decide) c_24)
  refine lv_aload_n hx hb dX1_part_60 rfl (lv_at hl 1 rfl) ?_
  refine va_get (D := D) (ci := 1) (v := .ref (ad 17)) (C := RX1) (T := TX1) (N := 11) hx hb hg inGX1 hown hK hP 2 rfl rfl 5 (by decide) (hg _ mw_107) (fun _ h9 => h9) rfl dX1_part_61 ?_
  refine lv_aload_n hx hb dX1_part_64 rfl (lv_at hl 1 rfl) ?_
  refine va_get (D := D) (ci := 1) (v := .int 0) (C := RX1) (T := TX1) (N := 11) hx hb hg inGX1 hown hK hP 2 rfl rfl 7 (by decide) (hg _ mw_97) (fun _ h9 => h9) rfl dX1_part_65 ?_
  refine lv_aload_n hx hb dX1_part_68 rfl (lv_at hl 1 rfl) ?_
  refine va_get (D := D) (ci := 1) (v := .int 0) (C := RX1) (T := TX1) (N := 11) hx hb hg inGX1 hown hK hP 2 rfl rfl 8 (by decide) (hg _ mw_106) (fun _ h9 => h9) rfl dX1_part_69 ?_
  refine kV (rSN hx hb hml hown hg hN hK hP hD (c_put l D cI cJ cZ (XW ad cI cJ 0 b F G ++ R) 17 (ad 17) 41 (F 17) 0 0 rfl (by decide)) mw_108 nw_69 mw_109 mw_110 pd_X7_put ⟨Nat.le_of_ble_eq_true rfl, Nat.le_of_ble_eq_true rfl⟩ rfl hl.1 rfl (Nat.le_of_ble_eq_true rfl) dX1_part_72 ⟨Nat.le_of_ble_eq_true rfl, Nat.le_of_ble_eq_true rfl⟩) hD hS hA (fun u_3 H locs hp hP hD hS => ?_)
  obtain ⟨f_4, rfl, hp1, hp2⟩ := hp
  have hP : va_P D vwCl (XW ad cI cJ 0 b (va_up F 17 f_4) G ++ R) H := hP
  have hD : va_D A (XW ad cI cJ 0 b (va_up F 17 f_4) G ++ R) := hD
  refine lv_aload_n hx hb dX1_part_75 rfl (lv_at hl 1 rfl) ?_
  refine lv_aload_n hx hb dX1_part_76 rfl (lv_at hl 1 rfl) ?_
  refine va_get (D := D) (ci := 1) (v := .int 0) (C := RX1) (T := TX1) (N := 11) hx hb hg inGX1 hown hK hP 2 rfl rfl 7 (by decide) (hg _ mw_97) (fun _ h9 => h9) rfl dX1_part_77 ?_
  refine lv_if_le (tgt := 99) hx hb dX1_part_80 (by decide) (fun c_80 => ?_) (fun c_80 => absurd (by decide) c_80)
  refine lv_lconst (v := 0) hx hb dX1_part_99 (by decide) ?_
  refine va_put (D := D) (ci := 1) (v := .long 0) (C := RX1) (T := TX1) (N := 11) hx hb hg inGX1 tyX1 tyX1_ok nmX1 hown hK hP hD hS 2 rfl rfl 9 (by decide) (hg _ mw_111) (fun _ h9 => h9) rfl (tyX1_ok 9 (by decide)) rfl rfl (Nat.le_of_ble_eq_true rfl) dX1_part_100 (fun H locs hP hD hS => ?_)
  have hP : va_P D vwCl (XW ad cI cJ 0 b (va_up F 17 f_4) G ++ R) H := hP
  have hD : va_D A (XW ad cI cJ 0 b (va_up F 17 f_4) G ++ R) := hD
  exact W.vret hx hb hr (fun t ht hW => ⟨⟨(XW ad cI cJ 0 b (va_up F 17 f_4) G ++ R), rfl, ⟨_, _, rfl⟩, ⟨by rw [ht]; exact hP, va_K.moved hW.alike hK, hD⟩⟩, hS.F ht⟩) hS.2.2 dX1_part_103
set_option maxHeartbeats 4000000 in
set_option maxRecDepth 100000 in
theorem c_freshFlow (l : Launch) (D : va_G) (cI cJ cZ : ClassId) (ad : Nat → Nat) (b : Nat → Int32) (F : Nat → Nat → Int32) (G : Nat → Nat → Int64) (R : va_W) : CT l D (TY cI cJ cZ) yX7_freshFlow (.code yX7_freshFlow cX7_freshFlow 1 (some (Jvm.ClassFile.FieldType.object "OrielChart$Flow"))) 3 0 0 (XW ad cI cJ 0 b F G ++ R) [.ref (ad 0)] (QR D (TY cI cJ cZ) (fun r u => r = ad 2 ∧ ∃ b' F' G', u = XW ad cI cJ 0 b' F' G' ++ R ∧ ∀ k, k ≠ 0 → b' k = b k)) := by
  refine ent (by decide) (Nat.le_of_ble_eq_true rfl) ?_
  intro p e s m below meth c ls A hx hb hr hg hown hml hlocks hnm hP hK hD hS hA hN hl
  have hl : lv_has ls 1 [(0, .ref (ad 0))] := hl
  refine lv_aload_n hx hb dX7_freshFlow_0 rfl (lv_at hl 0 rfl) ?_
  refine va_get (D := D) (ci := 7) (v := .ref (ad 2)) (C := RX7) (T := TX7) (N := 6) hx hb hg inGX7 hown hK hP 0 rfl rfl 1 (by decide) (hg _ mw_112) (fun _ h9 => h9) rfl dX7_freshFlow_1 ?_
  refine va_getN (D := D) (ci := 1) (v := .int (b 0)) (C := RX1) (T := TX1) (N := 11) hx hb hg inGX1 hown hK hP 2 rfl rfl 10 (by decide) (hN.use nw_36) (fun _ h9 => h9) rfl dX7_freshFlow_4 ?_
  refine lv_if_ne (tgt := 29) hx hb dX7_freshFlow_7 (by decide) (fun c_7 => ?_) (fun c_7 => ?_)
  · refine lv_aload_n hx hb dX7_freshFlow_29 rfl (lv_at hl 0 rfl) ?_
    refine va_get (D := D) (ci := 7) (v := .ref (ad 2)) (C := RX7) (T := TX7) (N := 6) hx hb hg inGX7 hown hK hP 0 rfl rfl 1 (by decide) (hg _ mw_112) (fun _ h9 => h9) rfl dX7_freshFlow_30 ?_
    exact W.aret (v := .ref (ad 2)) hx hb hr (Or.inl ⟨_, rfl⟩) (Or.inr ⟨_, rfl⟩) (fun t ht hW => ⟨⟨(XW ad cI cJ 0 b F G ++ R), (ad 2), rfl, trivial, ⟨rfl, b, F, G, rfl, fun _ _ => rfl⟩, ⟨by rw [ht]; exact hP, va_K.moved hW.alike hK, hD⟩⟩, hS.F ht⟩) hS.2.2 dX7_freshFlow_33
  · refine lv_aload_n hx hb dX7_freshFlow_10 rfl (lv_at hl 0 rfl) ?_
    refine va_get (D := D) (ci := 7) (v := .ref (ad 2)) (C := RX7) (T := TX7) (N := 6) hx hb hg inGX7 hown hK hP 0 rfl rfl 1 (by decide) (hg _ mw_112) (fun _ h9 => h9) rfl dX7_freshFlow_11 ?_
    refine lv_aload_n hx hb dX7_freshFlow_14 rfl (lv_at hl 0 rfl) ?_
    refine va_get (D := D) (ci := 7) (v := .ref (ad 1)) (C := RX7) (T := TX7) (N := 6) hx hb hg inGX7 hown hK hP 0 rfl rfl 0 (by decide) (hg _ mw_113) (fun _ h9 => h9) rfl dX7_freshFlow_15 ?_
    refine kV (rV (q0 := 2) (ci := 1) hx hb hml hown hg hN hK hP hD (c_part l D cI cJ cZ ad b F G R) mw_114 mw_115 mw_116 mw_117 mw_101 pdv_X1_part ⟨Nat.le_of_ble_eq_true rfl, Nat.le_of_ble_eq_true rfl⟩ rfl rfl rfl hl.1 rfl (Nat.le_of_ble_eq_true rfl) dX7_freshFlow_18 ⟨Nat.le_of_ble_eq_true rfl, Nat.le_of_ble_eq_true rfl⟩) hD hS hA (fun u_1 H locs hp hP hD hS => ?_)
    obtain ⟨F_3, G_4, rfl⟩ := hp
    refine lv_aload_n hx hb dX7_freshFlow_21 rfl (lv_at hl 0 rfl) ?_
    refine va_get (D := D) (ci := 7) (v := .ref (ad 2)) (C := RX7) (T := TX7) (N := 6) hx hb hg inGX7 hown hK hP 0 rfl rfl 1 (by decide) (hg _ mw_112) (fun _ h9 => h9) rfl dX7_freshFlow_22 ?_
    refine lv_iconst (v := 1) hx hb dX7_freshFlow_25 (by decide) ?_
    refine va_putN (D := D) (ci := 1) (v := .int 1) (C := RX1) (T := TX1) (N := 11) hx hb hg inGX1 tyX1 tyX1_ok nmX1 hown hK hP hD hS 2 rfl rfl 10 (by decide) (hN.use nw_36) (fun _ h9 => h9) rfl (tyX1_ok 10 (by decide)) rfl rfl (Nat.le_of_ble_eq_true rfl) dX7_freshFlow_26 (fun H locs hP hD hS => ?_)
    have hP : va_P D vwCl (XW ad cI cJ 0 (va_up b 0 1) F_3 G_4 ++ R) H := hP
    have hD : va_D A (XW ad cI cJ 0 (va_up b 0 1) F_3 G_4 ++ R) := hD
    refine lv_aload_n hx hb dX7_freshFlow_29 rfl (lv_at hl 0 rfl) ?_
    refine va_get (D := D) (ci := 7) (v := .ref (ad 2)) (C := RX7) (T := TX7) (N := 6) hx hb hg inGX7 hown hK hP 0 rfl rfl 1 (by decide) (hg _ mw_112) (fun _ h9 => h9) rfl dX7_freshFlow_30 ?_
    exact W.aret (v := .ref (ad 2)) hx hb hr (Or.inl ⟨_, rfl⟩) (Or.inr ⟨_, rfl⟩) (fun t ht hW => ⟨⟨(XW ad cI cJ 0 (va_up b 0 1) F_3 G_4 ++ R), (ad 2), rfl, trivial, ⟨rfl, _, _, _, rfl, fun k hk => by simp [va_up, hk]⟩, ⟨by rw [ht]; exact hP, va_K.moved hW.alike hK, hD⟩⟩, hS.F ht⟩) hS.2.2 dX7_freshFlow_33
end
section
theorem dX4_sortEdges_0 : decode cX4_sortEdges 0 = .ok (.iconst 0, 1) := by decide +kernel
theorem dX4_sortEdges_1 : decode cX4_sortEdges 1 = .ok (.istore_n 2, 1) := by decide +kernel
theorem dX4_sortEdges_2 : decode cX4_sortEdges 2 = .ok (.iload_n 2, 1) := by decide +kernel
theorem dX4_sortEdges_3 : decode cX4_sortEdges 3 = .ok (.bipush 40, 2) := by decide +kernel
theorem dX4_sortEdges_5 : decode cX4_sortEdges 5 = .ok (.if_icmp .ge 18, 3) := by decide +kernel
theorem dX4_sortEdges_8 : decode cX4_sortEdges 8 = .ok (.aload_n 0, 1) := by decide +kernel
theorem dX4_sortEdges_9 : decode cX4_sortEdges 9 = .ok (.getfield 21, 3) := by decide +kernel
theorem dX4_sortEdges_12 : decode cX4_sortEdges 12 = .ok (.iload_n 2, 1) := by decide +kernel
theorem dX4_sortEdges_13 : decode cX4_sortEdges 13 = .ok (.lconst 0, 1) := by decide +kernel
theorem dX4_sortEdges_14 : decode cX4_sortEdges 14 = .ok (.invokestatic 38, 3) := by decide +kernel
theorem dX4_sortEdges_17 : decode cX4_sortEdges 17 = .ok (.iinc 2 1, 3) := by decide +kernel
theorem dX4_sortEdges_20 : decode cX4_sortEdges 20 = .ok (.goto (-18), 3) := by decide +kernel
theorem dX4_sortEdges_23 : decode cX4_sortEdges 23 = .ok (.iconst 0, 1) := by decide +kernel
theorem dX4_sortEdges_24 : decode cX4_sortEdges 24 = .ok (.istore_n 2, 1) := by decide +kernel
theorem dX4_sortEdges_25 : decode cX4_sortEdges 25 = .ok (.iload_n 2, 1) := by decide +kernel
theorem dX4_sortEdges_26 : decode cX4_sortEdges 26 = .ok (.aload_n 1, 1) := by decide +kernel
theorem dX4_sortEdges_27 : decode cX4_sortEdges 27 = .ok (.getfield 78, 3) := by decide +kernel
theorem dX4_sortEdges_30 : decode cX4_sortEdges 30 = .ok (.if_icmp .ge 99, 3) := by decide +kernel
theorem dX4_sortEdges_129 : decode cX4_sortEdges 129 = .ok (.return_, 1) := by decide +kernel
theorem dX4_rank_0 : decode cX4_rank 0 = .ok (.iconst 0, 1) := by decide +kernel
theorem dX4_rank_1 : decode cX4_rank 1 = .ok (.istore_n 2, 1) := by decide +kernel
theorem dX4_rank_2 : decode cX4_rank 2 = .ok (.iload_n 2, 1) := by decide +kernel
theorem dX4_rank_3 : decode cX4_rank 3 = .ok (.bipush 40, 2) := by decide +kernel
theorem dX4_rank_5 : decode cX4_rank 5 = .ok (.if_icmp .ge 55, 3) := by decide +kernel
theorem dX4_rank_8 : decode cX4_rank 8 = .ok (.aload_n 0, 1) := by decide +kernel
theorem dX4_rank_9 : decode cX4_rank 9 = .ok (.getfield 9, 3) := by decide +kernel
theorem dX4_rank_12 : decode cX4_rank 12 = .ok (.iload_n 2, 1) := by decide +kernel
theorem dX4_rank_13 : decode cX4_rank 13 = .ok (.aload_n 1, 1) := by decide +kernel
theorem dX4_rank_14 : decode cX4_rank 14 = .ok (.getfield 24, 3) := by decide +kernel
theorem dX4_rank_17 : decode cX4_rank 17 = .ok (.iload_n 2, 1) := by decide +kernel
theorem dX4_rank_18 : decode cX4_rank 18 = .ok (.invokestatic 30, 3) := by decide +kernel
theorem dX4_rank_21 : decode cX4_rank 21 = .ok (.ifCond .eq 11, 3) := by decide +kernel
theorem dX4_rank_32 : decode cX4_rank 32 = .ok (.lconst 0, 1) := by decide +kernel
theorem dX4_rank_33 : decode cX4_rank 33 = .ok (.invokestatic 38, 3) := by decide +kernel
theorem dX4_rank_36 : decode cX4_rank 36 = .ok (.aload_n 0, 1) := by decide +kernel
theorem dX4_rank_37 : decode cX4_rank 37 = .ok (.getfield 18, 3) := by decide +kernel
theorem dX4_rank_40 : decode cX4_rank 40 = .ok (.iload_n 2, 1) := by decide +kernel
theorem dX4_rank_41 : decode cX4_rank 41 = .ok (.lconst 0, 1) := by decide +kernel
theorem dX4_rank_42 : decode cX4_rank 42 = .ok (.invokestatic 38, 3) := by decide +kernel
theorem dX4_rank_45 : decode cX4_rank 45 = .ok (.aload_n 0, 1) := by decide +kernel
theorem dX4_rank_46 : decode cX4_rank 46 = .ok (.getfield 15, 3) := by decide +kernel
theorem dX4_rank_49 : decode cX4_rank 49 = .ok (.iload_n 2, 1) := by decide +kernel
theorem dX4_rank_50 : decode cX4_rank 50 = .ok (.lconst 0, 1) := by decide +kernel
theorem dX4_rank_51 : decode cX4_rank 51 = .ok (.invokestatic 38, 3) := by decide +kernel
theorem dX4_rank_54 : decode cX4_rank 54 = .ok (.iinc 2 1, 3) := by decide +kernel
theorem dX4_rank_57 : decode cX4_rank 57 = .ok (.goto (-55), 3) := by decide +kernel
theorem dX4_rank_60 : decode cX4_rank 60 = .ok (.aload_n 0, 1) := by decide +kernel
theorem dX4_rank_61 : decode cX4_rank 61 = .ok (.aload_n 1, 1) := by decide +kernel
theorem dX4_rank_62 : decode cX4_rank 62 = .ok (.invokevirtual 42, 3) := by decide +kernel
theorem dX4_rank_65 : decode cX4_rank 65 = .ok (.aload_n 0, 1) := by decide +kernel
theorem dX4_rank_66 : decode cX4_rank 66 = .ok (.iconst 0, 1) := by decide +kernel
theorem dX4_rank_67 : decode cX4_rank 67 = .ok (.putfield 46, 3) := by decide +kernel
theorem dX4_rank_70 : decode cX4_rank 70 = .ok (.aload_n 0, 1) := by decide +kernel
theorem dX4_rank_71 : decode cX4_rank 71 = .ok (.iconst 1, 1) := by decide +kernel
theorem dX4_rank_72 : decode cX4_rank 72 = .ok (.putfield 50, 3) := by decide +kernel
theorem dX4_rank_75 : decode cX4_rank 75 = .ok (.iconst 0, 1) := by decide +kernel
theorem dX4_rank_76 : decode cX4_rank 76 = .ok (.istore_n 2, 1) := by decide +kernel
theorem dX4_rank_77 : decode cX4_rank 77 = .ok (.iload_n 2, 1) := by decide +kernel
theorem dX4_rank_78 : decode cX4_rank 78 = .ok (.aload_n 1, 1) := by decide +kernel
theorem dX4_rank_79 : decode cX4_rank 79 = .ok (.getfield 54, 3) := by decide +kernel
theorem dX4_rank_82 : decode cX4_rank 82 = .ok (.if_icmp .ge 42, 3) := by decide +kernel
theorem dX4_rank_124 : decode cX4_rank 124 = .ok (.return_, 1) := by decide +kernel
theorem dX7_freshRanks_0 : decode cX7_freshRanks 0 = .ok (.aload_n 0, 1) := by decide +kernel
theorem dX7_freshRanks_1 : decode cX7_freshRanks 1 = .ok (.getfield 26, 3) := by decide +kernel
theorem dX7_freshRanks_4 : decode cX7_freshRanks 4 = .ok (.getfield 334, 3) := by decide +kernel
theorem dX7_freshRanks_7 : decode cX7_freshRanks 7 = .ok (.ifCond .ne 22, 3) := by decide +kernel
theorem dX7_freshRanks_10 : decode cX7_freshRanks 10 = .ok (.aload_n 0, 1) := by decide +kernel
theorem dX7_freshRanks_11 : decode cX7_freshRanks 11 = .ok (.getfield 26, 3) := by decide +kernel
theorem dX7_freshRanks_14 : decode cX7_freshRanks 14 = .ok (.aload_n 0, 1) := by decide +kernel
theorem dX7_freshRanks_15 : decode cX7_freshRanks 15 = .ok (.invokevirtual 123, 3) := by decide +kernel
theorem dX7_freshRanks_18 : decode cX7_freshRanks 18 = .ok (.invokevirtual 341, 3) := by decide +kernel
theorem dX7_freshRanks_21 : decode cX7_freshRanks 21 = .ok (.aload_n 0, 1) := by decide +kernel
theorem dX7_freshRanks_22 : decode cX7_freshRanks 22 = .ok (.getfield 26, 3) := by decide +kernel
theorem dX7_freshRanks_25 : decode cX7_freshRanks 25 = .ok (.iconst 1, 1) := by decide +kernel
theorem dX7_freshRanks_26 : decode cX7_freshRanks 26 = .ok (.putfield 334, 3) := by decide +kernel
theorem dX7_freshRanks_29 : decode cX7_freshRanks 29 = .ok (.aload_n 0, 1) := by decide +kernel
theorem dX7_freshRanks_30 : decode cX7_freshRanks 30 = .ok (.getfield 26, 3) := by decide +kernel
theorem dX7_freshRanks_33 : decode cX7_freshRanks 33 = .ok (.areturn, 1) := by decide +kernel
theorem dX2_passUp_0 : decode cX2_passUp 0 = .ok (.iconst 0, 1) := by decide +kernel
theorem dX2_passUp_1 : decode cX2_passUp 1 = .ok (.istore_n 3, 1) := by decide +kernel
theorem dX2_passUp_2 : decode cX2_passUp 2 = .ok (.aload_n 2, 1) := by decide +kernel
theorem dX2_passUp_3 : decode cX2_passUp 3 = .ok (.getfield 27, 3) := by decide +kernel
theorem dX2_passUp_6 : decode cX2_passUp 6 = .ok (.iconst 1, 1) := by decide +kernel
theorem dX2_passUp_7 : decode cX2_passUp 7 = .ok (.isub, 1) := by decide +kernel
theorem dX2_passUp_8 : decode cX2_passUp 8 = .ok (.istore 4, 2) := by decide +kernel
theorem dX2_passUp_10 : decode cX2_passUp 10 = .ok (.iload 4, 2) := by decide +kernel
theorem dX2_passUp_12 : decode cX2_passUp 12 = .ok (.ifCond .lt 106, 3) := by decide +kernel
theorem dX2_passUp_118 : decode cX2_passUp 118 = .ok (.iload_n 3, 1) := by decide +kernel
theorem dX2_passUp_119 : decode cX2_passUp 119 = .ok (.ireturn, 1) := by decide +kernel
theorem dX2_follow_0 : decode cX2_follow 0 = .ok (.iconst 0, 1) := by decide +kernel
theorem dX2_follow_1 : decode cX2_follow 1 = .ok (.istore_n 3, 1) := by decide +kernel
theorem dX2_follow_2 : decode cX2_follow 2 = .ok (.iload_n 3, 1) := by decide +kernel
theorem dX2_follow_3 : decode cX2_follow 3 = .ok (.bipush 40, 2) := by decide +kernel
theorem dX2_follow_5 : decode cX2_follow 5 = .ok (.if_icmp .ge 18, 3) := by decide +kernel
theorem dX2_follow_8 : decode cX2_follow 8 = .ok (.aload_n 0, 1) := by decide +kernel
theorem dX2_follow_9 : decode cX2_follow 9 = .ok (.getfield 9, 3) := by decide +kernel
theorem dX2_follow_12 : decode cX2_follow 12 = .ok (.iload_n 3, 1) := by decide +kernel
theorem dX2_follow_13 : decode cX2_follow 13 = .ok (.iconst 0, 1) := by decide +kernel
theorem dX2_follow_14 : decode cX2_follow 14 = .ok (.invokestatic 15, 3) := by decide +kernel
theorem dX2_follow_17 : decode cX2_follow 17 = .ok (.iinc 3 1, 3) := by decide +kernel
theorem dX2_follow_20 : decode cX2_follow 20 = .ok (.goto (-18), 3) := by decide +kernel
theorem dX2_follow_23 : decode cX2_follow 23 = .ok (.iconst 1, 1) := by decide +kernel
theorem dX2_follow_24 : decode cX2_follow 24 = .ok (.istore_n 3, 1) := by decide +kernel
theorem dX2_follow_25 : decode cX2_follow 25 = .ok (.iconst 0, 1) := by decide +kernel
theorem dX2_follow_26 : decode cX2_follow 26 = .ok (.istore 4, 2) := by decide +kernel
theorem dX2_follow_28 : decode cX2_follow 28 = .ok (.iload 4, 2) := by decide +kernel
theorem dX2_follow_30 : decode cX2_follow 30 = .ok (.bipush 40, 2) := by decide +kernel
theorem dX2_follow_32 : decode cX2_follow 32 = .ok (.if_icmp .gt 20, 3) := by decide +kernel
theorem dX2_follow_35 : decode cX2_follow 35 = .ok (.iload_n 3, 1) := by decide +kernel
theorem dX2_follow_36 : decode cX2_follow 36 = .ok (.ifCond .eq 16, 3) := by decide +kernel
theorem dX2_follow_39 : decode cX2_follow 39 = .ok (.aload_n 0, 1) := by decide +kernel
theorem dX2_follow_40 : decode cX2_follow 40 = .ok (.aload_n 1, 1) := by decide +kernel
theorem dX2_follow_41 : decode cX2_follow 41 = .ok (.aload_n 2, 1) := by decide +kernel
theorem dX2_follow_42 : decode cX2_follow 42 = .ok (.invokevirtual 19, 3) := by decide +kernel
theorem dX2_follow_45 : decode cX2_follow 45 = .ok (.istore_n 3, 1) := by decide +kernel
theorem dX2_follow_46 : decode cX2_follow 46 = .ok (.iinc 4 1, 3) := by decide +kernel
theorem dX2_follow_49 : decode cX2_follow 49 = .ok (.goto (-21), 3) := by decide +kernel
theorem dX2_follow_52 : decode cX2_follow 52 = .ok (.aload_n 0, 1) := by decide +kernel
theorem dX2_follow_53 : decode cX2_follow 53 = .ok (.iconst 0, 1) := by decide +kernel
theorem dX2_follow_54 : decode cX2_follow 54 = .ok (.putfield 23, 3) := by decide +kernel
theorem dX2_follow_57 : decode cX2_follow 57 = .ok (.iconst 0, 1) := by decide +kernel
theorem dX2_follow_58 : decode cX2_follow 58 = .ok (.istore 4, 2) := by decide +kernel
theorem dX2_follow_60 : decode cX2_follow 60 = .ok (.iload 4, 2) := by decide +kernel
theorem dX2_follow_62 : decode cX2_follow 62 = .ok (.aload_n 2, 1) := by decide +kernel
theorem dX2_follow_63 : decode cX2_follow 63 = .ok (.getfield 27, 3) := by decide +kernel
theorem dX2_follow_66 : decode cX2_follow 66 = .ok (.if_icmp .ge 38, 3) := by decide +kernel
theorem dX2_follow_104 : decode cX2_follow 104 = .ok (.return_, 1) := by decide +kernel
theorem dX5_findEntries_0 : decode cX5_findEntries 0 = .ok (.lconst 0, 1) := by decide +kernel
theorem dX5_findEntries_1 : decode cX5_findEntries 1 = .ok (.lstore_n 1, 1) := by decide +kernel
theorem dX5_findEntries_2 : decode cX5_findEntries 2 = .ok (.bipush 40, 2) := by decide +kernel
theorem dX5_findEntries_4 : decode cX5_findEntries 4 = .ok (.invokestatic 72, 3) := by decide +kernel
theorem dX5_findEntries_7 : decode cX5_findEntries 7 = .ok (.lconst 1, 1) := by decide +kernel
theorem dX5_findEntries_8 : decode cX5_findEntries 8 = .ok (.lor, 1) := by decide +kernel
theorem dX5_findEntries_9 : decode cX5_findEntries 9 = .ok (.lstore_n 3, 1) := by decide +kernel
theorem dX5_findEntries_10 : decode cX5_findEntries 10 = .ok (.iconst 0, 1) := by decide +kernel
theorem dX5_findEntries_11 : decode cX5_findEntries 11 = .ok (.istore 5, 2) := by decide +kernel
theorem dX5_findEntries_13 : decode cX5_findEntries 13 = .ok (.iload 5, 2) := by decide +kernel
theorem dX5_findEntries_15 : decode cX5_findEntries 15 = .ok (.bipush 40, 2) := by decide +kernel
theorem dX5_findEntries_17 : decode cX5_findEntries 17 = .ok (.if_icmp .ge 32, 3) := by decide +kernel
theorem dX5_findEntries_20 : decode cX5_findEntries 20 = .ok (.aload_n 0, 1) := by decide +kernel
theorem dX5_findEntries_21 : decode cX5_findEntries 21 = .ok (.getfield 9, 3) := by decide +kernel
theorem dX5_findEntries_24 : decode cX5_findEntries 24 = .ok (.iload 5, 2) := by decide +kernel
theorem dX5_findEntries_26 : decode cX5_findEntries 26 = .ok (.invokestatic 46, 3) := by decide +kernel
theorem dX5_findEntries_29 : decode cX5_findEntries 29 = .ok (.lstore 6, 2) := by decide +kernel
theorem dX5_findEntries_31 : decode cX5_findEntries 31 = .ok (.lload_n 3, 1) := by decide +kernel
theorem dX5_findEntries_32 : decode cX5_findEntries 32 = .ok (.lload_n 1, 1) := by decide +kernel
theorem dX5_findEntries_33 : decode cX5_findEntries 33 = .ok (.lload 6, 2) := by decide +kernel
theorem dX5_findEntries_35 : decode cX5_findEntries 35 = .ok (.land, 1) := by decide +kernel
theorem dX5_findEntries_36 : decode cX5_findEntries 36 = .ok (.lor, 1) := by decide +kernel
theorem dX5_findEntries_37 : decode cX5_findEntries 37 = .ok (.lstore_n 3, 1) := by decide +kernel
theorem dX5_findEntries_38 : decode cX5_findEntries 38 = .ok (.lload_n 1, 1) := by decide +kernel
theorem dX5_findEntries_39 : decode cX5_findEntries 39 = .ok (.lload 6, 2) := by decide +kernel
theorem dX5_findEntries_41 : decode cX5_findEntries 41 = .ok (.lor, 1) := by decide +kernel
theorem dX5_findEntries_42 : decode cX5_findEntries 42 = .ok (.lstore_n 1, 1) := by decide +kernel
theorem dX5_findEntries_43 : decode cX5_findEntries 43 = .ok (.iinc 5 1, 3) := by decide +kernel
theorem dX5_findEntries_46 : decode cX5_findEntries 46 = .ok (.goto (-33), 3) := by decide +kernel
theorem dX5_findEntries_49 : decode cX5_findEntries 49 = .ok (.lload_n 1, 1) := by decide +kernel
theorem dX5_findEntries_50 : decode cX5_findEntries 50 = .ok (.lload_n 3, 1) := by decide +kernel
theorem dX5_findEntries_51 : decode cX5_findEntries 51 = .ok (.ldc2_w 76, 3) := by decide +kernel
theorem dX5_findEntries_54 : decode cX5_findEntries 54 = .ok (.lxor, 1) := by decide +kernel
theorem dX5_findEntries_55 : decode cX5_findEntries 55 = .ok (.land, 1) := by decide +kernel
theorem dX5_findEntries_56 : decode cX5_findEntries 56 = .ok (.lstore 5, 2) := by decide +kernel
theorem dX5_findEntries_58 : decode cX5_findEntries 58 = .ok (.iconst 0, 1) := by decide +kernel
theorem dX5_findEntries_59 : decode cX5_findEntries 59 = .ok (.istore 7, 2) := by decide +kernel
theorem dX5_findEntries_61 : decode cX5_findEntries 61 = .ok (.iload 7, 2) := by decide +kernel
theorem dX5_findEntries_63 : decode cX5_findEntries 63 = .ok (.bipush 40, 2) := by decide +kernel
theorem dX5_findEntries_65 : decode cX5_findEntries 65 = .ok (.if_icmp .gt 19, 3) := by decide +kernel
theorem dX5_findEntries_68 : decode cX5_findEntries 68 = .ok (.aload_n 0, 1) := by decide +kernel
theorem dX5_findEntries_69 : decode cX5_findEntries 69 = .ok (.getfield 25, 3) := by decide +kernel
theorem dX5_findEntries_72 : decode cX5_findEntries 72 = .ok (.iload 7, 2) := by decide +kernel
theorem dX5_findEntries_74 : decode cX5_findEntries 74 = .ok (.iconst (-1), 1) := by decide +kernel
theorem dX5_findEntries_75 : decode cX5_findEntries 75 = .ok (.invokestatic 54, 3) := by decide +kernel
theorem dX5_findEntries_78 : decode cX5_findEntries 78 = .ok (.iinc 7 1, 3) := by decide +kernel
theorem dX5_findEntries_81 : decode cX5_findEntries 81 = .ok (.goto (-20), 3) := by decide +kernel
theorem dX5_findEntries_84 : decode cX5_findEntries 84 = .ok (.iconst 0, 1) := by decide +kernel
theorem dX5_findEntries_85 : decode cX5_findEntries 85 = .ok (.istore 7, 2) := by decide +kernel
theorem dX5_findEntries_87 : decode cX5_findEntries 87 = .ok (.iload 7, 2) := by decide +kernel
theorem dX5_findEntries_89 : decode cX5_findEntries 89 = .ok (.bipush 40, 2) := by decide +kernel
theorem dX5_findEntries_91 : decode cX5_findEntries 91 = .ok (.if_icmp .ge 67, 3) := by decide +kernel
theorem dX5_findEntries_94 : decode cX5_findEntries 94 = .ok (.aload_n 0, 1) := by decide +kernel
theorem dX5_findEntries_95 : decode cX5_findEntries 95 = .ok (.getfield 9, 3) := by decide +kernel
theorem dX5_findEntries_98 : decode cX5_findEntries 98 = .ok (.iload 7, 2) := by decide +kernel
theorem dX5_findEntries_100 : decode cX5_findEntries 100 = .ok (.invokestatic 46, 3) := by decide +kernel
theorem dX5_findEntries_103 : decode cX5_findEntries 103 = .ok (.lload 5, 2) := by decide +kernel
theorem dX5_findEntries_105 : decode cX5_findEntries 105 = .ok (.land, 1) := by decide +kernel
theorem dX5_findEntries_106 : decode cX5_findEntries 106 = .ok (.lstore 8, 2) := by decide +kernel
theorem dX5_findEntries_108 : decode cX5_findEntries 108 = .ok (.iconst 0, 1) := by decide +kernel
theorem dX5_findEntries_109 : decode cX5_findEntries 109 = .ok (.istore 10, 2) := by decide +kernel
theorem dX5_findEntries_111 : decode cX5_findEntries 111 = .ok (.iload 10, 2) := by decide +kernel
theorem dX5_findEntries_113 : decode cX5_findEntries 113 = .ok (.bipush 40, 2) := by decide +kernel
theorem dX5_findEntries_115 : decode cX5_findEntries 115 = .ok (.if_icmp .ge 37, 3) := by decide +kernel
theorem dX5_findEntries_118 : decode cX5_findEntries 118 = .ok (.lload 8, 2) := by decide +kernel
theorem dX5_findEntries_120 : decode cX5_findEntries 120 = .ok (.lconst 0, 1) := by decide +kernel
theorem dX5_findEntries_121 : decode cX5_findEntries 121 = .ok (.lcmp, 1) := by decide +kernel
theorem dX5_findEntries_122 : decode cX5_findEntries 122 = .ok (.ifCond .eq 30, 3) := by decide +kernel
theorem dX5_findEntries_152 : decode cX5_findEntries 152 = .ok (.iinc 7 1, 3) := by decide +kernel
theorem dX5_findEntries_155 : decode cX5_findEntries 155 = .ok (.goto (-68), 3) := by decide +kernel
theorem dX5_findEntries_158 : decode cX5_findEntries 158 = .ok (.return_, 1) := by decide +kernel
theorem dX5_takeStep_0 : decode cX5_takeStep 0 = .ok (.aload_n 0, 1) := by decide +kernel
theorem dX5_takeStep_1 : decode cX5_takeStep 1 = .ok (.invokevirtual 61, 3) := by decide +kernel
theorem dX5_takeStep_4 : decode cX5_takeStep 4 = .ok (.iconst 0, 1) := by decide +kernel
theorem dX5_takeStep_5 : decode cX5_takeStep 5 = .ok (.istore_n 1, 1) := by decide +kernel
theorem dX5_takeStep_6 : decode cX5_takeStep 6 = .ok (.iload_n 1, 1) := by decide +kernel
theorem dX5_takeStep_7 : decode cX5_takeStep 7 = .ok (.bipush 40, 2) := by decide +kernel
theorem dX5_takeStep_9 : decode cX5_takeStep 9 = .ok (.if_icmp .ge 77, 3) := by decide +kernel
theorem dX5_takeStep_12 : decode cX5_takeStep 12 = .ok (.aload_n 0, 1) := by decide +kernel
theorem dX5_takeStep_13 : decode cX5_takeStep 13 = .ok (.getfield 34, 3) := by decide +kernel
theorem dX5_takeStep_16 : decode cX5_takeStep 16 = .ok (.iload_n 1, 1) := by decide +kernel
theorem dX5_takeStep_17 : decode cX5_takeStep 17 = .ok (.invokestatic 41, 3) := by decide +kernel
theorem dX5_takeStep_20 : decode cX5_takeStep 20 = .ok (.ifCond .eq 11, 3) := by decide +kernel
theorem dX5_takeStep_31 : decode cX5_takeStep 31 = .ok (.iconst (-1), 1) := by decide +kernel
theorem dX5_takeStep_32 : decode cX5_takeStep 32 = .ok (.istore_n 2, 1) := by decide +kernel
theorem dX5_takeStep_33 : decode cX5_takeStep 33 = .ok (.iload_n 2, 1) := by decide +kernel
theorem dX5_takeStep_34 : decode cX5_takeStep 34 = .ok (.iconst (-1), 1) := by decide +kernel
theorem dX5_takeStep_35 : decode cX5_takeStep 35 = .ok (.if_icmp .eq 45, 3) := by decide +kernel
theorem dX5_takeStep_80 : decode cX5_takeStep 80 = .ok (.iinc 1 1, 3) := by decide +kernel
theorem dX5_takeStep_83 : decode cX5_takeStep 83 = .ok (.goto (-77), 3) := by decide +kernel
theorem dX5_takeStep_86 : decode cX5_takeStep 86 = .ok (.iconst 0, 1) := by decide +kernel
theorem dX5_takeStep_87 : decode cX5_takeStep 87 = .ok (.ireturn, 1) := by decide +kernel
theorem dX5_reduce_0 : decode cX5_reduce 0 = .ok (.aload_n 0, 1) := by decide +kernel
theorem dX5_reduce_1 : decode cX5_reduce 1 = .ok (.aload_n 1, 1) := by decide +kernel
theorem dX5_reduce_2 : decode cX5_reduce 2 = .ok (.getfield 28, 3) := by decide +kernel
theorem dX5_reduce_5 : decode cX5_reduce 5 = .ok (.putfield 34, 3) := by decide +kernel
theorem dX5_reduce_8 : decode cX5_reduce 8 = .ok (.aload_n 0, 1) := by decide +kernel
theorem dX5_reduce_9 : decode cX5_reduce 9 = .ok (.iconst 0, 1) := by decide +kernel
theorem dX5_reduce_10 : decode cX5_reduce 10 = .ok (.putfield 37, 3) := by decide +kernel
theorem dX5_reduce_13 : decode cX5_reduce 13 = .ok (.iconst 0, 1) := by decide +kernel
theorem dX5_reduce_14 : decode cX5_reduce 14 = .ok (.istore_n 2, 1) := by decide +kernel
theorem dX5_reduce_15 : decode cX5_reduce 15 = .ok (.iload_n 2, 1) := by decide +kernel
theorem dX5_reduce_16 : decode cX5_reduce 16 = .ok (.bipush 40, 2) := by decide +kernel
theorem dX5_reduce_18 : decode cX5_reduce 18 = .ok (.if_icmp .ge 59, 3) := by decide +kernel
theorem dX5_reduce_21 : decode cX5_reduce 21 = .ok (.aload_n 0, 1) := by decide +kernel
theorem dX5_reduce_22 : decode cX5_reduce 22 = .ok (.getfield 34, 3) := by decide +kernel
theorem dX5_reduce_25 : decode cX5_reduce 25 = .ok (.iload_n 2, 1) := by decide +kernel
theorem dX5_reduce_26 : decode cX5_reduce 26 = .ok (.invokestatic 41, 3) := by decide +kernel
theorem dX5_reduce_29 : decode cX5_reduce 29 = .ok (.istore_n 3, 1) := by decide +kernel
theorem dX5_reduce_30 : decode cX5_reduce 30 = .ok (.aload_n 0, 1) := by decide +kernel
theorem dX5_reduce_31 : decode cX5_reduce 31 = .ok (.getfield 9, 3) := by decide +kernel
theorem dX5_reduce_34 : decode cX5_reduce 34 = .ok (.iload_n 2, 1) := by decide +kernel
theorem dX5_reduce_35 : decode cX5_reduce 35 = .ok (.iload_n 3, 1) := by decide +kernel
theorem dX5_reduce_36 : decode cX5_reduce 36 = .ok (.ifCond .eq 14, 3) := by decide +kernel
theorem dX5_reduce_50 : decode cX5_reduce 50 = .ok (.lconst 0, 1) := by decide +kernel
theorem dX5_reduce_51 : decode cX5_reduce 51 = .ok (.invokestatic 50, 3) := by decide +kernel
theorem dX5_reduce_54 : decode cX5_reduce 54 = .ok (.aload_n 0, 1) := by decide +kernel
theorem dX5_reduce_55 : decode cX5_reduce 55 = .ok (.getfield 15, 3) := by decide +kernel
theorem dX5_reduce_58 : decode cX5_reduce 58 = .ok (.iload_n 2, 1) := by decide +kernel
theorem dX5_reduce_59 : decode cX5_reduce 59 = .ok (.iload_n 3, 1) := by decide +kernel
theorem dX5_reduce_60 : decode cX5_reduce 60 = .ok (.ifCond .eq 7, 3) := by decide +kernel
theorem dX5_reduce_67 : decode cX5_reduce 67 = .ok (.iconst (-1), 1) := by decide +kernel
theorem dX5_reduce_68 : decode cX5_reduce 68 = .ok (.invokestatic 54, 3) := by decide +kernel
theorem dX5_reduce_71 : decode cX5_reduce 71 = .ok (.iinc 2 1, 3) := by decide +kernel
theorem dX5_reduce_74 : decode cX5_reduce 74 = .ok (.goto (-59), 3) := by decide +kernel
theorem dX5_reduce_77 : decode cX5_reduce 77 = .ok (.iconst 1, 1) := by decide +kernel
theorem dX5_reduce_78 : decode cX5_reduce 78 = .ok (.istore_n 2, 1) := by decide +kernel
theorem dX5_reduce_79 : decode cX5_reduce 79 = .ok (.iconst 0, 1) := by decide +kernel
theorem dX5_reduce_80 : decode cX5_reduce 80 = .ok (.istore_n 3, 1) := by decide +kernel
theorem dX5_reduce_81 : decode cX5_reduce 81 = .ok (.iload_n 3, 1) := by decide +kernel
theorem dX5_reduce_82 : decode cX5_reduce 82 = .ok (.bipush 120, 2) := by decide +kernel
theorem dX5_reduce_84 : decode cX5_reduce 84 = .ok (.if_icmp .ge 18, 3) := by decide +kernel
theorem dX5_reduce_87 : decode cX5_reduce 87 = .ok (.iload_n 2, 1) := by decide +kernel
theorem dX5_reduce_88 : decode cX5_reduce 88 = .ok (.ifCond .eq 14, 3) := by decide +kernel
theorem dX5_reduce_91 : decode cX5_reduce 91 = .ok (.aload_n 0, 1) := by decide +kernel
theorem dX5_reduce_92 : decode cX5_reduce 92 = .ok (.invokevirtual 57, 3) := by decide +kernel
theorem dX5_reduce_95 : decode cX5_reduce 95 = .ok (.istore_n 2, 1) := by decide +kernel
theorem dX5_reduce_96 : decode cX5_reduce 96 = .ok (.iinc 3 1, 3) := by decide +kernel
theorem dX5_reduce_99 : decode cX5_reduce 99 = .ok (.goto (-18), 3) := by decide +kernel
theorem dX5_reduce_102 : decode cX5_reduce 102 = .ok (.return_, 1) := by decide +kernel
theorem mw_118 : Cond.fieldLink RX4 21 "OrielChart$Ranks" "onward" "[J" ∈ GW := gw_mem (inT1 _ (List.mem_of_getElem? (i := 138) rfl)) rfl
theorem mw_119 : Cond.code yX7_put_ cX7_put_ 4 (none : Option FieldType) ∈ GW := gw_mem (inT2 _ (List.mem_of_getElem? (i := 130) rfl)) rfl
theorem mw_120 : Cond.static yX7_put_ ∈ GW := gw_mem (inT2 _ (List.mem_of_getElem? (i := 129) rfl)) rfl
theorem mw_121 : Cond.code yX4_sortEdges cX4_sortEdges 5 (none : Option FieldType) ∈ GW := gw_mem (inT2 _ (List.mem_of_getElem? (i := 184) rfl)) rfl
theorem mw_122 : Cond.methodLink RX4 42 yX4_sortEdges ∈ GW := gw_mem (inT2 _ (List.mem_of_getElem? (i := 181) rfl)) rfl
theorem mw_123 : Cond.instanceMethod yX4_sortEdges ∈ GW := gw_mem (inT2 _ (List.mem_of_getElem? (i := 183) rfl)) rfl
theorem mw_124 : Cond.selects RX4 yX4_sortEdges yX4_sortEdges ∈ GW := gw_mem (inTp (q := (yX4_sortEdges, 7)) (List.mem_of_getElem? (i := 5) rfl)) rfl
theorem mw_125 : Cond.initialized RX4 ∈ GW := gw_mem (inT1 _ (List.mem_of_getElem? (i := 4) rfl)) rfl
theorem mw_126 : Cond.fieldLink RX4 46 "OrielChart$Ranks" "loopCount" "I" ∈ GW := gw_mem (inT1 _ (List.mem_of_getElem? (i := 139) rfl)) rfl
theorem mw_127 : Cond.fieldLink RX4 50 "OrielChart$Ranks" "tame" "Z" ∈ GW := gw_mem (inT1 _ (List.mem_of_getElem? (i := 141) rfl)) rfl
theorem mw_128 : Cond.fieldLink RX4 9 "OrielChart$Ranks" "ruled" "[J" ∈ GW := gw_mem (inT1 _ (List.mem_of_getElem? (i := 134) rfl)) rfl
theorem mw_129 : Cond.code yX7_has cX7_has 3 (some Jvm.ClassFile.FieldType.boolean) ∈ GW := gw_mem (inT2 _ (List.mem_of_getElem? (i := 124) rfl)) rfl
theorem mw_130 : Cond.static yX7_has ∈ GW := gw_mem (inT2 _ (List.mem_of_getElem? (i := 123) rfl)) rfl
theorem mw_131 : Cond.fieldLink RX4 18 "OrielChart$Ranks" "previous" "[J" ∈ GW := gw_mem (inT1 _ (List.mem_of_getElem? (i := 137) rfl)) rfl
theorem mw_132 : Cond.fieldLink RX4 15 "OrielChart$Ranks" "loop" "[J" ∈ GW := gw_mem (inT1 _ (List.mem_of_getElem? (i := 135) rfl)) rfl
theorem mw_133 : Cond.fieldLink RX7 26 "OrielChart" "ranks" "LOrielChart$Ranks;" ∈ GW := gw_mem (inT2 _ (List.mem_of_getElem? (i := 73) rfl)) rfl
theorem mw_134 : Cond.code yX7_freshFlow cX7_freshFlow 1 (some (Jvm.ClassFile.FieldType.object "OrielChart$Flow")) ∈ GW := gw_mem (inT2 _ (List.mem_of_getElem? (i := 101) rfl)) rfl
theorem mw_135 : Cond.methodLink RX7 123 yX7_freshFlow ∈ GW := gw_mem (inT2 _ (List.mem_of_getElem? (i := 98) rfl)) rfl
theorem mw_136 : Cond.instanceMethod yX7_freshFlow ∈ GW := gw_mem (inT2 _ (List.mem_of_getElem? (i := 100) rfl)) rfl
theorem mw_137 : Cond.selects RX7 yX7_freshFlow yX7_freshFlow ∈ GW := gw_mem (inTp (q := (yX7_freshFlow, 6)) (List.mem_of_getElem? (i := 0) rfl)) rfl
theorem mw_138 : Cond.code yX4_rank cX4_rank 3 (none : Option FieldType) ∈ GW := gw_mem (inT2 _ (List.mem_of_getElem? (i := 172) rfl)) rfl
theorem mw_139 : Cond.methodLink RX7 341 yX4_rank ∈ GW := gw_mem (inT2 _ (List.mem_of_getElem? (i := 169) rfl)) rfl
theorem mw_140 : Cond.instanceMethod yX4_rank ∈ GW := gw_mem (inT2 _ (List.mem_of_getElem? (i := 170) rfl)) rfl
theorem mw_141 : Cond.selects RX4 yX4_rank yX4_rank ∈ GW := gw_mem (inT2 _ (List.mem_of_getElem? (i := 171) rfl)) rfl
theorem mw_142 : Cond.code yX2_passUp cX2_passUp 7 (some Jvm.ClassFile.FieldType.boolean) ∈ GW := gw_mem (inT2 _ (List.mem_of_getElem? (i := 215) rfl)) rfl
theorem mw_143 : Cond.methodLink RX2 19 yX2_passUp ∈ GW := gw_mem (inT2 _ (List.mem_of_getElem? (i := 212) rfl)) rfl
theorem mw_144 : Cond.instanceMethod yX2_passUp ∈ GW := gw_mem (inT2 _ (List.mem_of_getElem? (i := 214) rfl)) rfl
theorem mw_145 : Cond.selects RX2 yX2_passUp yX2_passUp ∈ GW := gw_mem (inTp (q := (yX2_passUp, 3)) (List.mem_of_getElem? (i := 8) rfl)) rfl
theorem mw_146 : Cond.initialized RX2 ∈ GW := gw_mem (inT1 _ (List.mem_of_getElem? (i := 5) rfl)) rfl
theorem mw_147 : Cond.fieldLink RX2 23 "OrielChart$Lives" "vainCount" "I" ∈ GW := gw_mem (inT1 _ (List.mem_of_getElem? (i := 167) rfl)) rfl
theorem mw_148 : Cond.fieldLink RX2 9 "OrielChart$Lives" "live" "[I" ∈ GW := gw_mem (inT1 _ (List.mem_of_getElem? (i := 165) rfl)) rfl
theorem mw_149 : Cond.code yX7_bit cX7_bit 1 (some Jvm.ClassFile.FieldType.long) ∈ GW := gw_mem (inT2 _ (List.mem_of_getElem? (i := 114) rfl)) rfl
theorem mw_150 : Cond.static yX7_bit ∈ GW := gw_mem (inT2 _ (List.mem_of_getElem? (i := 113) rfl)) rfl
theorem mw_151 : Cond.constantLong RX5 76 (-1) ∈ GW := gw_mem (inT3 _ (List.mem_of_getElem? (i := 24) rfl)) rfl
theorem mw_152 : Cond.fieldLink RX5 9 "OrielChart$Reduction" "next" "[J" ∈ GW := gw_mem (inT1 _ (List.mem_of_getElem? (i := 183) rfl)) rfl
theorem mw_153 : Cond.code yX7_at_ cX7_at_ 2 (some Jvm.ClassFile.FieldType.long) ∈ GW := gw_mem (inT2 _ (List.mem_of_getElem? (i := 141) rfl)) rfl
theorem mw_154 : Cond.static yX7_at_ ∈ GW := gw_mem (inT2 _ (List.mem_of_getElem? (i := 140) rfl)) rfl
theorem mw_155 : Cond.fieldLink RX5 25 "OrielChart$Reduction" "entry" "[I" ∈ GW := gw_mem (inT1 _ (List.mem_of_getElem? (i := 190) rfl)) rfl
theorem mw_156 : Cond.code yX5_findEntries cX5_findEntries 11 (none : Option FieldType) ∈ GW := gw_mem (inT3 _ (List.mem_of_getElem? (i := 22) rfl)) rfl
theorem mw_157 : Cond.methodLink RX5 61 yX5_findEntries ∈ GW := gw_mem (inT3 _ (List.mem_of_getElem? (i := 19) rfl)) rfl
theorem mw_158 : Cond.instanceMethod yX5_findEntries ∈ GW := gw_mem (inT3 _ (List.mem_of_getElem? (i := 21) rfl)) rfl
theorem mw_159 : Cond.selects RX5 yX5_findEntries yX5_findEntries ∈ GW := gw_mem (inTp (q := (yX5_findEntries, 8)) (List.mem_of_getElem? (i := 13) rfl)) rfl
theorem mw_160 : Cond.initialized RX5 ∈ GW := gw_mem (inT1 _ (List.mem_of_getElem? (i := 6) rfl)) rfl
theorem mw_161 : Cond.fieldLink RX5 34 "OrielChart$Reduction" "nodes" "J" ∈ GW := gw_mem (inT1 _ (List.mem_of_getElem? (i := 191) rfl)) rfl
theorem mw_162 : Cond.fieldLink RX5 37 "OrielChart$Reduction" "stepCount" "I" ∈ GW := gw_mem (inT1 _ (List.mem_of_getElem? (i := 193) rfl)) rfl
theorem mw_163 : Cond.code yX5_takeStep cX5_takeStep 3 (some Jvm.ClassFile.FieldType.boolean) ∈ GW := gw_mem (inT3 _ (List.mem_of_getElem? (i := 18) rfl)) rfl
theorem mw_164 : Cond.methodLink RX5 57 yX5_takeStep ∈ GW := gw_mem (inT3 _ (List.mem_of_getElem? (i := 15) rfl)) rfl
theorem mw_165 : Cond.instanceMethod yX5_takeStep ∈ GW := gw_mem (inT3 _ (List.mem_of_getElem? (i := 17) rfl)) rfl
theorem mw_166 : Cond.selects RX5 yX5_takeStep yX5_takeStep ∈ GW := gw_mem (inTp (q := (yX5_takeStep, 8)) (List.mem_of_getElem? (i := 12) rfl)) rfl
theorem mw_167 : Cond.fieldLink RX5 15 "OrielChart$Reduction" "home" "[I" ∈ GW := gw_mem (inT1 _ (List.mem_of_getElem? (i := 184) rfl)) rfl
theorem pd_X7_put_ : yX7_put_.cls ≠ "java/lang/invoke/MethodHandle" ∧ yX7_put_.cls ≠ "java/lang/invoke/VarHandle" ∧ (parseMethodDescriptor yX7_put_.desc).map (fun d => d.parameters.length) = some 3 := by decide +kernel
theorem pdv_X4_sortEdges : yX4_sortEdges.cls = RX4 ∧ yX4_sortEdges.cls ≠ "java/lang/invoke/MethodHandle" ∧ yX4_sortEdges.cls ≠ "java/lang/invoke/VarHandle" ∧ (parseMethodDescriptor yX4_sortEdges.desc).map (fun d => d.parameters.length) = some 1 := by decide +kernel
theorem pd_X7_has : yX7_has.cls ≠ "java/lang/invoke/MethodHandle" ∧ yX7_has.cls ≠ "java/lang/invoke/VarHandle" ∧ (parseMethodDescriptor yX7_has.desc).map (fun d => d.parameters.length) = some 2 := by decide +kernel
theorem pdv_X7_freshFlow : yX7_freshFlow.cls = RX7 ∧ yX7_freshFlow.cls ≠ "java/lang/invoke/MethodHandle" ∧ yX7_freshFlow.cls ≠ "java/lang/invoke/VarHandle" ∧ (parseMethodDescriptor yX7_freshFlow.desc).map (fun d => d.parameters.length) = some 0 := by decide +kernel
theorem pdv_X4_rank : yX4_rank.cls = RX4 ∧ yX4_rank.cls ≠ "java/lang/invoke/MethodHandle" ∧ yX4_rank.cls ≠ "java/lang/invoke/VarHandle" ∧ (parseMethodDescriptor yX4_rank.desc).map (fun d => d.parameters.length) = some 1 := by decide +kernel
theorem pdv_X2_passUp : yX2_passUp.cls = RX2 ∧ yX2_passUp.cls ≠ "java/lang/invoke/MethodHandle" ∧ yX2_passUp.cls ≠ "java/lang/invoke/VarHandle" ∧ (parseMethodDescriptor yX2_passUp.desc).map (fun d => d.parameters.length) = some 2 := by decide +kernel
theorem pd_X7_bit : yX7_bit.cls ≠ "java/lang/invoke/MethodHandle" ∧ yX7_bit.cls ≠ "java/lang/invoke/VarHandle" ∧ (parseMethodDescriptor yX7_bit.desc).map (fun d => d.parameters.length) = some 1 := by decide +kernel
theorem pd_X7_at_ : yX7_at_.cls ≠ "java/lang/invoke/MethodHandle" ∧ yX7_at_.cls ≠ "java/lang/invoke/VarHandle" ∧ (parseMethodDescriptor yX7_at_.desc).map (fun d => d.parameters.length) = some 2 := by decide +kernel
theorem pdv_X5_findEntries : yX5_findEntries.cls = RX5 ∧ yX5_findEntries.cls ≠ "java/lang/invoke/MethodHandle" ∧ yX5_findEntries.cls ≠ "java/lang/invoke/VarHandle" ∧ (parseMethodDescriptor yX5_findEntries.desc).map (fun d => d.parameters.length) = some 0 := by decide +kernel
theorem pdv_X5_takeStep : yX5_takeStep.cls = RX5 ∧ yX5_takeStep.cls ≠ "java/lang/invoke/MethodHandle" ∧ yX5_takeStep.cls ≠ "java/lang/invoke/VarHandle" ∧ (parseMethodDescriptor yX5_takeStep.desc).map (fun d => d.parameters.length) = some 0 := by decide +kernel
set_option maxHeartbeats 4000000 in
set_option maxRecDepth 100000 in
theorem c_sortEdges (l : Launch) (D : va_G) (cI cJ cZ : ClassId) (ad : Nat → Nat) (b : Nat → Int32) (F : Nat → Nat → Int32) (G : Nat → Nat → Int64) (R : va_W) : CT l D (TY cI cJ cZ) yX4_sortEdges (.code yX4_sortEdges cX4_sortEdges 5 (none : Option FieldType)) 1 0 0 (XW ad cI cJ 0 b F G ++ R) [.ref (ad 3), .ref (ad 2)] (QV D (TY cI cJ cZ) (fun u => ∃ F' G', u = XW ad cI cJ 0 b F' G' ++ R)) := by
  refine ent (by decide) (Nat.le_of_ble_eq_true rfl) ?_
  intro p e s m below meth c ls A hx hb hr hg hown hml hlocks hnm hP hK hD hS hA hN hl
  have hl : lv_has ls 5 [(0, .ref (ad 3)), (1, .ref (ad 2))] := hl
  refine lv_iconst (v := 0) hx hb dX4_sortEdges_0 (by decide) ?_
  refine lv_istore_n (lv' := [(2, .int 0), (0, .ref (ad 3)), (1, .ref (ad 2))]) hx hb dX4_sortEdges_1 rfl hl (by decide) rfl (fun ls hl => ?_)
  -- the loop at 2
  refine w_loop (σ := (Nat → Nat → Int32) × (Nat → Nat → Int64)) (fun (i : Nat) (u_1 : (Nat → Nat → Int32) × (Nat → Nat → Int64)) (H : Heap) (locs : List Loc) (ls : Array Slot) => (True) ∧ va_P D vwCl (XW ad cI cJ 0 b u_1.1 u_1.2 ++ R) H ∧ va_D A (XW ad cI cJ 0 b u_1.1 u_1.2 ++ R) ∧ va_S A s.heap H locs ∧ lv_has ls 5 [(0, .ref (ad 3)), (1, .ref (ad 2)), (2, .int (nI i))]) 40 (fun u_1 H locs ls hI => ?_) (fun i u_1 H locs ls hi hI ih => ?_) 0 (F, G) (Nat.zero_le _) ⟨trivial, hP, hD, hS, by rw [nI_0]; exact lv_sub hl [1, 2, 0] rfl⟩
  · obtain ⟨hF_1, hP, hD, hS, hl⟩ := hI
    have hP : va_P D vwCl (XW ad cI cJ 0 b u_1.1 u_1.2 ++ R) H := hP
    have hD : va_D A (XW ad cI cJ 0 b u_1.1 u_1.2 ++ R) := hD
    have hl : lv_has ls 5 [(0, .ref (ad 3)), (1, .ref (ad 2)), (2, .int (nI 40))] := hl
    refine lv_iload_n hx hb dX4_sortEdges_2 rfl (lv_at hl 2 rfl) ?_
    refine lv_bipush (v := 40) hx hb dX4_sortEdges_3 (by decide) ?_
    refine lv_icmp_ge (tgt := 23) hx hb dX4_sortEdges_5 (by decide) (fun c_5 => ?_) (fun c_5 => absurd (by decide) c_5)
    refine lv_iconst (v := 0) hx hb dX4_sortEdges_23 (by decide) ?_
    refine lv_istore_n (lv' := [(2, .int 0), (0, .ref (ad 3)), (1, .ref (ad 2))]) hx hb dX4_sortEdges_24 rfl hl (by decide) rfl (fun ls hl => ?_)
    refine lv_iload_n hx hb dX4_sortEdges_25 rfl (lv_at hl 0 rfl) ?_
    refine lv_aload_n hx hb dX4_sortEdges_26 rfl (lv_at hl 2 rfl) ?_
    refine va_getN (D := D) (ci := 1) (v := .int 0) (C := RX1) (T := TX1) (N := 11) hx hb hg inGX1 hown hK hP 2 rfl rfl 8 (by decide) (hN.use nw_30) (fun _ h9 => h9) rfl dX4_sortEdges_27 ?_
    refine lv_icmp_ge (tgt := 129) hx hb dX4_sortEdges_30 (by decide) (fun c_30 => ?_) (fun c_30 => absurd (by decide) c_30)
    exact W.vret hx hb hr (fun t ht hW => ⟨⟨(XW ad cI cJ 0 b u_1.1 u_1.2 ++ R), rfl, ⟨_, _, rfl⟩, ⟨by rw [ht]; exact hP, va_K.moved hW.alike hK, hD⟩⟩, hS.F ht⟩) hS.2.2 dX4_sortEdges_129
  · obtain ⟨hF_1, hP, hD, hS, hl⟩ := hI
    have hP : va_P D vwCl (XW ad cI cJ 0 b u_1.1 u_1.2 ++ R) H := hP
    have hD : va_D A (XW ad cI cJ 0 b u_1.1 u_1.2 ++ R) := hD
    have hl : lv_has ls 5 [(0, .ref (ad 3)), (1, .ref (ad 2)), (2, .int (nI i))] := hl
    refine lv_iload_n hx hb dX4_sortEdges_2 rfl (lv_at hl 2 rfl) ?_
    refine lv_bipush (v := 40) hx hb dX4_sortEdges_3 (by decide) ?_
    refine lv_icmp_ge (tgt := 23) hx hb dX4_sortEdges_5 (by decide) (fun c_5 => absurd c_5 (nI_ge hi (by decide))) (fun c_5 => ?_)
    refine lv_aload_n hx hb dX4_sortEdges_8 rfl (lv_at hl 0 rfl) ?_
    refine va_get (D := D) (ci := 4) (v := .ref (ad 22)) (C := RX4) (T := TX4) (N := 7) hx hb hg inGX4 hown hK hP 3 rfl rfl 3 (by decide) (hg _ mw_118) (fun _ h9 => h9) rfl dX4_sortEdges_9 ?_
    refine lv_iload_n hx hb dX4_sortEdges_12 rfl (lv_at hl 2 rfl) ?_
    refine lv_lconst (v := 0) hx hb dX4_sortEdges_13 (by decide) ?_
    refine kV (rSN hx hb hml hown hg hN hK hP hD (c_putL l D cI cJ cZ (XW ad cI cJ 0 b u_1.1 u_1.2 ++ R) 22 (ad 22) 40 (u_1.2 22) (nI i) 0 rfl (by decide)) mw_119 nw_76 mw_120 mw_110 pd_X7_put_ ⟨Nat.le_of_ble_eq_true rfl, Nat.le_of_ble_eq_true rfl⟩ rfl hl.1 rfl (Nat.le_of_ble_eq_true rfl) dX4_sortEdges_14 ⟨Nat.le_of_ble_eq_true rfl, Nat.le_of_ble_eq_true rfl⟩) hD hS hA (fun u_2 H locs hp hP hD hS => ?_)
    obtain ⟨f_3, rfl, hp1, hp2⟩ := hp
    have hP : va_P D vwCl (XW ad cI cJ 0 b u_1.1 (va_up u_1.2 22 f_3) ++ R) H := hP
    have hD : va_D A (XW ad cI cJ 0 b u_1.1 (va_up u_1.2 22 f_3) ++ R) := hD
    refine lv_iinc (v := nI (i + 1)) (lv' := [(2, .int (nI (i + 1))), (0, .ref (ad 3)), (1, .ref (ad 2))]) hx hb dX4_sortEdges_17 hl (k := 2) rfl (nI_1 i) (by decide) rfl (fun ls hl => ?_)
    refine lv_goto (tgt := 2) hx hb dX4_sortEdges_20 (by decide) ?_
    exact ih (u_1.1, (va_up u_1.2 22 f_3)) H locs ls ⟨trivial, hP, hD, hS, lv_sub hl [1, 2, 0] rfl⟩
set_option maxHeartbeats 4000000 in
set_option maxRecDepth 100000 in
theorem c_rank (l : Launch) (D : va_G) (cI cJ cZ : ClassId) (ad : Nat → Nat) (b : Nat → Int32) (F : Nat → Nat → Int32) (G : Nat → Nat → Int64) (R : va_W) : CT l D (TY cI cJ cZ) yX4_rank (.code yX4_rank cX4_rank 3 (none : Option FieldType)) 2 0 0 (XW ad cI cJ 0 b F G ++ R) [.ref (ad 3), .ref (ad 2)] (QV D (TY cI cJ cZ) (fun u => ∃ F' G', u = XW ad cI cJ 0 (va_up b 1 1) F' G' ++ R)) := by
  refine ent (by decide) (Nat.le_of_ble_eq_true rfl) ?_
  intro p e s m below meth c ls A hx hb hr hg hown hml hlocks hnm hP hK hD hS hA hN hl
  have hl : lv_has ls 3 [(0, .ref (ad 3)), (1, .ref (ad 2))] := hl
  refine lv_iconst (v := 0) hx hb dX4_rank_0 (by decide) ?_
  refine lv_istore_n (lv' := [(2, .int 0), (0, .ref (ad 3)), (1, .ref (ad 2))]) hx hb dX4_rank_1 rfl hl (by decide) rfl (fun ls hl => ?_)
  -- the loop at 2
  refine w_loop (σ := (Nat → Nat → Int32) × (Nat → Nat → Int64)) (fun (i : Nat) (u_1 : (Nat → Nat → Int32) × (Nat → Nat → Int64)) (H : Heap) (locs : List Loc) (ls : Array Slot) => (True) ∧ va_P D vwCl (XW ad cI cJ 0 b u_1.1 u_1.2 ++ R) H ∧ va_D A (XW ad cI cJ 0 b u_1.1 u_1.2 ++ R) ∧ va_S A s.heap H locs ∧ lv_has ls 3 [(0, .ref (ad 3)), (1, .ref (ad 2)), (2, .int (nI i))]) 40 (fun u_1 H locs ls hI => ?_) (fun i u_1 H locs ls hi hI ih => ?_) 0 (F, G) (Nat.zero_le _) ⟨trivial, hP, hD, hS, by rw [nI_0]; exact lv_sub hl [1, 2, 0] rfl⟩
  · obtain ⟨hF_1, hP, hD, hS, hl⟩ := hI
    have hP : va_P D vwCl (XW ad cI cJ 0 b u_1.1 u_1.2 ++ R) H := hP
    have hD : va_D A (XW ad cI cJ 0 b u_1.1 u_1.2 ++ R) := hD
    have hl : lv_has ls 3 [(0, .ref (ad 3)), (1, .ref (ad 2)), (2, .int (nI 40))] := hl
    refine lv_iload_n hx hb dX4_rank_2 rfl (lv_at hl 2 rfl) ?_
    refine lv_bipush (v := 40) hx hb dX4_rank_3 (by decide) ?_
    refine lv_icmp_ge (tgt := 60) hx hb dX4_rank_5 (by decide) (fun c_5 => ?_) (fun c_5 => absurd (by decide) c_5)
    refine lv_aload_n hx hb dX4_rank_60 rfl (lv_at hl 0 rfl) ?_
    refine lv_aload_n hx hb dX4_rank_61 rfl (lv_at hl 1 rfl) ?_
    refine kV (rV (q0 := 3) (ci := 4) hx hb hml hown hg hN hK hP hD (c_sortEdges l D cI cJ cZ ad b u_1.1 u_1.2 R) mw_121 mw_122 mw_123 mw_124 mw_125 pdv_X4_sortEdges ⟨Nat.le_of_ble_eq_true rfl, Nat.le_of_ble_eq_true rfl⟩ rfl rfl rfl hl.1 rfl (Nat.le_of_ble_eq_true rfl) dX4_rank_62 ⟨Nat.le_of_ble_eq_true rfl, Nat.le_of_ble_eq_true rfl⟩) hD hS hA (fun u_2 H locs hp hP hD hS => ?_)
    obtain ⟨F_4, G_5, rfl⟩ := hp
    refine lv_aload_n hx hb dX4_rank_65 rfl (lv_at hl 0 rfl) ?_
    refine lv_iconst (v := 0) hx hb dX4_rank_66 (by decide) ?_
    refine va_put (D := D) (ci := 4) (v := .int 0) (C := RX4) (T := TX4) (N := 7) hx hb hg inGX4 tyX4 tyX4_ok nmX4 hown hK hP hD hS 3 rfl rfl 4 (by decide) (hg _ mw_126) (fun _ h9 => h9) rfl (tyX4_ok 4 (by decide)) rfl rfl (Nat.le_of_ble_eq_true rfl) dX4_rank_67 (fun H locs hP hD hS => ?_)
    have hP : va_P D vwCl (XW ad cI cJ 0 b F_4 G_5 ++ R) H := hP
    have hD : va_D A (XW ad cI cJ 0 b F_4 G_5 ++ R) := hD
    refine lv_aload_n hx hb dX4_rank_70 rfl (lv_at hl 0 rfl) ?_
    refine lv_iconst (v := 1) hx hb dX4_rank_71 (by decide) ?_
    refine va_put (D := D) (ci := 4) (v := .int 1) (C := RX4) (T := TX4) (N := 7) hx hb hg inGX4 tyX4 tyX4_ok nmX4 hown hK hP hD hS 3 rfl rfl 5 (by decide) (hg _ mw_127) (fun _ h9 => h9) rfl (tyX4_ok 5 (by decide)) rfl rfl (Nat.le_of_ble_eq_true rfl) dX4_rank_72 (fun H locs hP hD hS => ?_)
    have hP : va_P D vwCl (XW ad cI cJ 0 (va_up b 1 1) F_4 G_5 ++ R) H := hP
    have hD : va_D A (XW ad cI cJ 0 (va_up b 1 1) F_4 G_5 ++ R) := hD
    refine lv_iconst (v := 0) hx hb dX4_rank_75 (by decide) ?_
    refine lv_istore_n (lv' := [(2, .int 0), (0, .ref (ad 3)), (1, .ref (ad 2))]) hx hb dX4_rank_76 rfl hl (by decide) rfl (fun ls hl => ?_)
    refine lv_iload_n hx hb dX4_rank_77 rfl (lv_at hl 0 rfl) ?_
    refine lv_aload_n hx hb dX4_rank_78 rfl (lv_at hl 2 rfl) ?_
    refine va_getN (D := D) (ci := 1) (v := .int 0) (C := RX1) (T := TX1) (N := 11) hx hb hg inGX1 hown hK hP 2 rfl rfl 7 (by decide) (hN.use nw_27) (fun _ h9 => h9) rfl dX4_rank_79 ?_
    refine lv_icmp_ge (tgt := 124) hx hb dX4_rank_82 (by decide) (fun c_82 => ?_) (fun c_82 => absurd (by decide) c_82)
    exact W.vret hx hb hr (fun t ht hW => ⟨⟨(XW ad cI cJ 0 (va_up b 1 1) F_4 G_5 ++ R), rfl, ⟨_, _, rfl⟩, ⟨by rw [ht]; exact hP, va_K.moved hW.alike hK, hD⟩⟩, hS.F ht⟩) hS.2.2 dX4_rank_124
  · obtain ⟨hF_1, hP, hD, hS, hl⟩ := hI
    have hP : va_P D vwCl (XW ad cI cJ 0 b u_1.1 u_1.2 ++ R) H := hP
    have hD : va_D A (XW ad cI cJ 0 b u_1.1 u_1.2 ++ R) := hD
    have hl : lv_has ls 3 [(0, .ref (ad 3)), (1, .ref (ad 2)), (2, .int (nI i))] := hl
    refine lv_iload_n hx hb dX4_rank_2 rfl (lv_at hl 2 rfl) ?_
    refine lv_bipush (v := 40) hx hb dX4_rank_3 (by decide) ?_
    refine lv_icmp_ge (tgt := 60) hx hb dX4_rank_5 (by decide) (fun c_5 => absurd c_5 (nI_ge hi (by decide))) (fun c_5 => ?_)
    refine lv_aload_n hx hb dX4_rank_8 rfl (lv_at hl 0 rfl) ?_
    refine va_get (D := D) (ci := 4) (v := .ref (ad 19)) (C := RX4) (T := TX4) (N := 7) hx hb hg inGX4 hown hK hP 3 rfl rfl 0 (by decide) (hg _ mw_128) (fun _ h9 => h9) rfl dX4_rank_9 ?_
    refine lv_iload_n hx hb dX4_rank_12 rfl (lv_at hl 2 rfl) ?_
    refine lv_aload_n hx hb dX4_rank_13 rfl (lv_at hl 1 rfl) ?_
    refine va_getN (D := D) (ci := 1) (v := .long 0) (C := RX1) (T := TX1) (N := 11) hx hb hg inGX1 hown hK hP 2 rfl rfl 9 (by decide) (hN.use nw_33) (fun _ h9 => h9) rfl dX4_rank_14 ?_
    refine lv_iload_n hx hb dX4_rank_17 rfl (lv_at hl 2 rfl) ?_
    refine kI (rSN hx hb hml hown hg hN hK hP hD (c_has0 l D cI cJ cZ (XW ad cI cJ 0 b u_1.1 u_1.2 ++ R) (nI i)) mw_129 nw_73 mw_130 mw_110 pd_X7_has ⟨Nat.le_of_ble_eq_true rfl, Nat.le_of_ble_eq_true rfl⟩ rfl hl.1 rfl (Nat.le_of_ble_eq_true rfl) dX4_rank_18 ⟨Nat.le_of_ble_eq_true rfl, Nat.le_of_ble_eq_true rfl⟩) hD hS hA (fun r_6 u_6 H locs hp hP hD hS => ?_)
    obtain ⟨rfl, rfl⟩ := hp
    refine lv_if_eq (tgt := 32) hx hb dX4_rank_21 (by decide) (fun c_21 => ?_) (fun c_21 => absurd (by decide) c_21)
    refine lv_lconst (v := 0) hx hb dX4_rank_32 (by decide) ?_
    refine kV (rSN hx hb hml hown hg hN hK hP hD (c_putL l D cI cJ cZ (XW ad cI cJ 0 b u_1.1 u_1.2 ++ R) 19 (ad 19) 40 (u_1.2 19) (nI i) 0 rfl (by decide)) mw_119 nw_76 mw_120 mw_110 pd_X7_put_ ⟨Nat.le_of_ble_eq_true rfl, Nat.le_of_ble_eq_true rfl⟩ rfl hl.1 rfl (Nat.le_of_ble_eq_true rfl) dX4_rank_33 ⟨Nat.le_of_ble_eq_true rfl, Nat.le_of_ble_eq_true rfl⟩) hD hS hA (fun u_7 H locs hp hP hD hS => ?_)
    obtain ⟨f_8, rfl, hp1, hp2⟩ := hp
    have hP : va_P D vwCl (XW ad cI cJ 0 b u_1.1 (va_up u_1.2 19 f_8) ++ R) H := hP
    have hD : va_D A (XW ad cI cJ 0 b u_1.1 (va_up u_1.2 19 f_8) ++ R) := hD
    refine lv_aload_n hx hb dX4_rank_36 rfl (lv_at hl 0 rfl) ?_
    refine va_get (D := D) (ci := 4) (v := .ref (ad 21)) (C := RX4) (T := TX4) (N := 7) hx hb hg inGX4 hown hK hP 3 rfl rfl 2 (by decide) (hg _ mw_131) (fun _ h9 => h9) rfl dX4_rank_37 ?_
    refine lv_iload_n hx hb dX4_rank_40 rfl (lv_at hl 2 rfl) ?_
    refine lv_lconst (v := 0) hx hb dX4_rank_41 (by decide) ?_
    refine kV (rSN hx hb hml hown hg hN hK hP hD (c_putL l D cI cJ cZ (XW ad cI cJ 0 b u_1.1 (va_up u_1.2 19 f_8) ++ R) 21 (ad 21) 40 ((va_up u_1.2 19 f_8) 21) (nI i) 0 rfl (by decide)) mw_119 nw_76 mw_120 mw_110 pd_X7_put_ ⟨Nat.le_of_ble_eq_true rfl, Nat.le_of_ble_eq_true rfl⟩ rfl hl.1 rfl (Nat.le_of_ble_eq_true rfl) dX4_rank_42 ⟨Nat.le_of_ble_eq_true rfl, Nat.le_of_ble_eq_true rfl⟩) hD hS hA (fun u_9 H locs hp hP hD hS => ?_)
    obtain ⟨f_10, rfl, hp1, hp2⟩ := hp
    have hP : va_P D vwCl (XW ad cI cJ 0 b u_1.1 (va_up (va_up u_1.2 19 f_8) 21 f_10) ++ R) H := hP
    have hD : va_D A (XW ad cI cJ 0 b u_1.1 (va_up (va_up u_1.2 19 f_8) 21 f_10) ++ R) := hD
    refine lv_aload_n hx hb dX4_rank_45 rfl (lv_at hl 0 rfl) ?_
    refine va_get (D := D) (ci := 4) (v := .ref (ad 20)) (C := RX4) (T := TX4) (N := 7) hx hb hg inGX4 hown hK hP 3 rfl rfl 1 (by decide) (hg _ mw_132) (fun _ h9 => h9) rfl dX4_rank_46 ?_
    refine lv_iload_n hx hb dX4_rank_49 rfl (lv_at hl 2 rfl) ?_
    refine lv_lconst (v := 0) hx hb dX4_rank_50 (by decide) ?_
    refine kV (rSN hx hb hml hown hg hN hK hP hD (c_putL l D cI cJ cZ (XW ad cI cJ 0 b u_1.1 (va_up (va_up u_1.2 19 f_8) 21 f_10) ++ R) 20 (ad 20) 40 ((va_up (va_up u_1.2 19 f_8) 21 f_10) 20) (nI i) 0 rfl (by decide)) mw_119 nw_76 mw_120 mw_110 pd_X7_put_ ⟨Nat.le_of_ble_eq_true rfl, Nat.le_of_ble_eq_true rfl⟩ rfl hl.1 rfl (Nat.le_of_ble_eq_true rfl) dX4_rank_51 ⟨Nat.le_of_ble_eq_true rfl, Nat.le_of_ble_eq_true rfl⟩) hD hS hA (fun u_11 H locs hp hP hD hS => ?_)
    obtain ⟨f_12, rfl, hp1, hp2⟩ := hp
    have hP : va_P D vwCl (XW ad cI cJ 0 b u_1.1 (va_up (va_up (va_up u_1.2 19 f_8) 21 f_10) 20 f_12) ++ R) H := hP
    have hD : va_D A (XW ad cI cJ 0 b u_1.1 (va_up (va_up (va_up u_1.2 19 f_8) 21 f_10) 20 f_12) ++ R) := hD
    refine lv_iinc (v := nI (i + 1)) (lv' := [(2, .int (nI (i + 1))), (0, .ref (ad 3)), (1, .ref (ad 2))]) hx hb dX4_rank_54 hl (k := 2) rfl (nI_1 i) (by decide) rfl (fun ls hl => ?_)
    refine lv_goto (tgt := 2) hx hb dX4_rank_57 (by decide) ?_
    exact ih (u_1.1, (va_up (va_up (va_up u_1.2 19 f_8) 21 f_10) 20 f_12)) H locs ls ⟨trivial, hP, hD, hS, lv_sub hl [1, 2, 0] rfl⟩
set_option maxHeartbeats 4000000 in
set_option maxRecDepth 100000 in
theorem c_freshRanks (l : Launch) (D : va_G) (cI cJ cZ : ClassId) (ad : Nat → Nat) (b : Nat → Int32) (F : Nat → Nat → Int32) (G : Nat → Nat → Int64) (R : va_W) (hb2 : b 2 = 0) : CT l D (TY cI cJ cZ) yX7_freshRanks (.code yX7_freshRanks cX7_freshRanks 1 (some (Jvm.ClassFile.FieldType.object "OrielChart$Ranks"))) 4 0 0 (XW ad cI cJ 0 b F G ++ R) [.ref (ad 0)] (QR D (TY cI cJ cZ) (fun r u => r = ad 3 ∧ ∃ b' F' G', u = XW ad cI cJ 0 b' F' G' ++ R ∧ b' 1 = 1 ∧ ∀ k, k ≠ 0 → k ≠ 1 → k ≠ 2 → b' k = b k)) := by
  refine ent (by decide) (Nat.le_of_ble_eq_true rfl) ?_
  intro p e s m below meth c ls A hx hb hr hg hown hml hlocks hnm hP hK hD hS hA hN hl
  have hl : lv_has ls 1 [(0, .ref (ad 0))] := hl
  refine lv_aload_n hx hb dX7_freshRanks_0 rfl (lv_at hl 0 rfl) ?_
  refine va_get (D := D) (ci := 7) (v := .ref (ad 3)) (C := RX7) (T := TX7) (N := 6) hx hb hg inGX7 hown hK hP 0 rfl rfl 2 (by decide) (hg _ mw_133) (fun _ h9 => h9) rfl dX7_freshRanks_1 ?_
  refine va_getN (D := D) (ci := 4) (v := .int (b 2)) (C := RX4) (T := TX4) (N := 7) hx hb hg inGX4 hown hK hP 3 rfl rfl 6 (by decide) (hN.use nw_41) (fun _ h9 => h9) rfl dX7_freshRanks_4 ?_
  refine lv_if_ne (tgt := 29) hx hb dX7_freshRanks_7 (by decide) (fun c_7 => absurd hb2 c_7) (fun c_7 => ?_)
  refine lv_aload_n hx hb dX7_freshRanks_10 rfl (lv_at hl 0 rfl) ?_
  refine va_get (D := D) (ci := 7) (v := .ref (ad 3)) (C := RX7) (T := TX7) (N := 6) hx hb hg inGX7 hown hK hP 0 rfl rfl 2 (by decide) (hg _ mw_133) (fun _ h9 => h9) rfl dX7_freshRanks_11 ?_
  refine lv_aload_n hx hb dX7_freshRanks_14 rfl (lv_at hl 0 rfl) ?_
  refine kR (rV (q0 := 0) (ci := 7) hx hb hml hown hg hN hK hP hD (c_freshFlow l D cI cJ cZ ad b F G R) mw_134 mw_135 mw_136 mw_137 mw_110 pdv_X7_freshFlow ⟨Nat.le_of_ble_eq_true rfl, Nat.le_of_ble_eq_true rfl⟩ rfl rfl rfl hl.1 rfl (Nat.le_of_ble_eq_true rfl) dX7_freshRanks_15 ⟨Nat.le_of_ble_eq_true rfl, Nat.le_of_ble_eq_true rfl⟩) hD hS hA (fun r_1 u_1 H locs hp hP hD hS => ?_)
  obtain ⟨rfl, b_2, F_3, G_4, rfl, hb_2⟩ := hp
  refine kV (rV (q0 := 3) (ci := 4) hx hb hml hown hg hN hK hP hD (c_rank l D cI cJ cZ ad b_2 F_3 G_4 R) mw_138 mw_139 mw_140 mw_141 mw_125 pdv_X4_rank ⟨Nat.le_of_ble_eq_true rfl, Nat.le_of_ble_eq_true rfl⟩ rfl rfl rfl hl.1 rfl (Nat.le_of_ble_eq_true rfl) dX7_freshRanks_18 ⟨Nat.le_of_ble_eq_true rfl, Nat.le_of_ble_eq_true rfl⟩) hD hS hA (fun u_5 H locs hp hP hD hS => ?_)
  obtain ⟨F_7, G_8, rfl⟩ := hp
  refine lv_aload_n hx hb dX7_freshRanks_21 rfl (lv_at hl 0 rfl) ?_
  refine va_get (D := D) (ci := 7) (v := .ref (ad 3)) (C := RX7) (T := TX7) (N := 6) hx hb hg inGX7 hown hK hP 0 rfl rfl 2 (by decide) (hg _ mw_133) (fun _ h9 => h9) rfl dX7_freshRanks_22 ?_
  refine lv_iconst (v := 1) hx hb dX7_freshRanks_25 (by decide) ?_
  refine va_putN (D := D) (ci := 4) (v := .int 1) (C := RX4) (T := TX4) (N := 7) hx hb hg inGX4 tyX4 tyX4_ok nmX4 hown hK hP hD hS 3 rfl rfl 6 (by decide) (hN.use nw_41) (fun _ h9 => h9) rfl (tyX4_ok 6 (by decide)) rfl rfl (Nat.le_of_ble_eq_true rfl) dX7_freshRanks_26 (fun H locs hP hD hS => ?_)
  have hP : va_P D vwCl (XW ad cI cJ 0 (va_up (va_up b_2 1 1) 2 1) F_7 G_8 ++ R) H := hP
  have hD : va_D A (XW ad cI cJ 0 (va_up (va_up b_2 1 1) 2 1) F_7 G_8 ++ R) := hD
  refine lv_aload_n hx hb dX7_freshRanks_29 rfl (lv_at hl 0 rfl) ?_
  refine va_get (D := D) (ci := 7) (v := .ref (ad 3)) (C := RX7) (T := TX7) (N := 6) hx hb hg inGX7 hown hK hP 0 rfl rfl 2 (by decide) (hg _ mw_133) (fun _ h9 => h9) rfl dX7_freshRanks_30 ?_
  exact W.aret (v := .ref (ad 3)) hx hb hr (Or.inl ⟨_, rfl⟩) (Or.inr ⟨_, rfl⟩) (fun t ht hW => ⟨⟨(XW ad cI cJ 0 (va_up (va_up b_2 1 1) 2 1) F_7 G_8 ++ R), (ad 3), rfl, trivial, ⟨rfl, _, _, _, rfl, rfl, fun k h0 h1 h2 => by simp [va_up, h0, h1, h2, hb_2]⟩, ⟨by rw [ht]; exact hP, va_K.moved hW.alike hK, hD⟩⟩, hS.F ht⟩) hS.2.2 dX7_freshRanks_33
set_option maxHeartbeats 4000000 in
set_option maxRecDepth 100000 in
theorem c_passUp (l : Launch) (D : va_G) (cI cJ cZ : ClassId) (ad : Nat → Nat) (b : Nat → Int32) (F : Nat → Nat → Int32) (G : Nat → Nat → Int64) (R : va_W) : CT l D (TY cI cJ cZ) yX2_passUp (.code yX2_passUp cX2_passUp 7 (some Jvm.ClassFile.FieldType.boolean)) 0 0 0 (XW ad cI cJ 0 b F G ++ R) [.ref (ad 4), .ref (ad 1), .ref (ad 2)] (QI D (TY cI cJ cZ) (fun r u => r = 0 ∧ u = XW ad cI cJ 0 b F G ++ R)) := by
  refine ent (by decide) (Nat.le_of_ble_eq_true rfl) ?_
  intro p e s m below meth c ls A hx hb hr hg hown hml hlocks hnm hP hK hD hS hA hN hl
  have hl : lv_has ls 7 [(0, .ref (ad 4)), (1, .ref (ad 1)), (2, .ref (ad 2))] := hl
  refine lv_iconst (v := 0) hx hb dX2_passUp_0 (by decide) ?_
  refine lv_istore_n (lv' := [(3, .int 0), (0, .ref (ad 4)), (1, .ref (ad 1)), (2, .ref (ad 2))]) hx hb dX2_passUp_1 rfl hl (by decide) rfl (fun ls hl => ?_)
  refine lv_aload_n hx hb dX2_passUp_2 rfl (lv_at hl 3 rfl) ?_
  refine va_getN (D := D) (ci := 1) (v := .int 0) (C := RX1) (T := TX1) (N := 11) hx hb hg inGX1 hown hK hP 2 rfl rfl 7 (by decide) (hN.use nw_26) (fun _ h9 => h9) rfl dX2_passUp_3 ?_
  refine lv_iconst (v := 1) hx hb dX2_passUp_6 (by decide) ?_
  refine lv_isub hx hb dX2_passUp_7 ?_
  refine lv_topi (fun v_1 ev_1 => ?_)
  obtain rfl : v_1 = ((-1) : Int32) := ev_1.trans (by decide)
  refine lv_istore (lv' := [(4, .int (-1)), (3, .int 0), (0, .ref (ad 4)), (1, .ref (ad 1)), (2, .ref (ad 2))]) hx hb dX2_passUp_8 hl (by decide) rfl (fun ls hl => ?_)
  refine lv_iload hx hb dX2_passUp_10 (lv_at hl 0 rfl) ?_
  refine lv_if_lt (tgt := 118) hx hb dX2_passUp_12 (by decide) (fun c_12 => ?_) (fun c_12 => absurd (by decide) c_12)
  refine lv_iload_n hx hb dX2_passUp_118 rfl (lv_at hl 1 rfl) ?_
  exact W.zret (v := 0) hx hb hr rfl (fun t ht hW => ⟨⟨0, (XW ad cI cJ 0 b F G ++ R), rfl, ⟨rfl, rfl⟩, ⟨by rw [ht]; exact hP, va_K.moved hW.alike hK, hD⟩⟩, hS.F ht⟩) hS.2.2 dX2_passUp_119
set_option maxHeartbeats 4000000 in
set_option maxRecDepth 100000 in
theorem c_follow (l : Launch) (D : va_G) (cI cJ cZ : ClassId) (ad : Nat → Nat) (b : Nat → Int32) (F : Nat → Nat → Int32) (G : Nat → Nat → Int64) (R : va_W) : CT l D (TY cI cJ cZ) yX2_follow (.code yX2_follow cX2_follow 5 (none : Option FieldType)) 1 0 0 (XW ad cI cJ 0 b F G ++ R) [.ref (ad 4), .ref (ad 1), .ref (ad 2)] (QV D (TY cI cJ cZ) (fun u => ∃ F' G', u = XW ad cI cJ 0 b F' G' ++ R)) := by
  refine ent (by decide) (Nat.le_of_ble_eq_true rfl) ?_
  intro p e s m below meth c ls A hx hb hr hg hown hml hlocks hnm hP hK hD hS hA hN hl
  have hl : lv_has ls 5 [(0, .ref (ad 4)), (1, .ref (ad 1)), (2, .ref (ad 2))] := hl
  refine lv_iconst (v := 0) hx hb dX2_follow_0 (by decide) ?_
  refine lv_istore_n (lv' := [(3, .int 0), (0, .ref (ad 4)), (1, .ref (ad 1)), (2, .ref (ad 2))]) hx hb dX2_follow_1 rfl hl (by decide) rfl (fun ls hl => ?_)
  -- the loop at 2
  refine w_loop (σ := (Nat → Nat → Int32) × (Nat → Nat → Int64)) (fun (i : Nat) (u_1 : (Nat → Nat → Int32) × (Nat → Nat → Int64)) (H : Heap) (locs : List Loc) (ls : Array Slot) => (True) ∧ va_P D vwCl (XW ad cI cJ 0 b u_1.1 u_1.2 ++ R) H ∧ va_D A (XW ad cI cJ 0 b u_1.1 u_1.2 ++ R) ∧ va_S A s.heap H locs ∧ lv_has ls 5 [(0, .ref (ad 4)), (1, .ref (ad 1)), (2, .ref (ad 2)), (3, .int (nI i))]) 40 (fun u_1 H locs ls hI => ?_) (fun i u_1 H locs ls hi hI ih => ?_) 0 (F, G) (Nat.zero_le _) ⟨trivial, hP, hD, hS, by rw [nI_0]; exact lv_sub hl [1, 2, 3, 0] rfl⟩
  · obtain ⟨hF_1, hP, hD, hS, hl⟩ := hI
    have hP : va_P D vwCl (XW ad cI cJ 0 b u_1.1 u_1.2 ++ R) H := hP
    have hD : va_D A (XW ad cI cJ 0 b u_1.1 u_1.2 ++ R) := hD
    have hl : lv_has ls 5 [(0, .ref (ad 4)), (1, .ref (ad 1)), (2, .ref (ad 2)), (3, .int (nI 40))] := hl
    refine lv_iload_n hx hb dX2_follow_2 rfl (lv_at hl 3 rfl) ?_
    refine lv_bipush (v := 40) hx hb dX2_follow_3 (by decide) ?_
    refine lv_icmp_ge (tgt := 23) hx hb dX2_follow_5 (by decide) (fun c_5 => ?_) (fun c_5 => absurd (by decide) c_5)
    refine lv_iconst (v := 1) hx hb dX2_follow_23 (by decide) ?_
    refine lv_istore_n (lv' := [(3, .int 1), (0, .ref (ad 4)), (1, .ref (ad 1)), (2, .ref (ad 2))]) hx hb dX2_follow_24 rfl hl (by decide) rfl (fun ls hl => ?_)
    refine lv_iconst (v := 0) hx hb dX2_follow_25 (by decide) ?_
    refine lv_istore (lv' := [(4, .int 0), (3, .int 1), (0, .ref (ad 4)), (1, .ref (ad 1)), (2, .ref (ad 2))]) hx hb dX2_follow_26 hl (by decide) rfl (fun ls hl => ?_)
    refine lv_iload hx hb dX2_follow_28 (lv_at hl 0 rfl) ?_
    refine lv_bipush (v := 40) hx hb dX2_follow_30 (by decide) ?_
    refine lv_icmp_gt (tgt := 52) hx hb dX2_follow_32 (by decide) (fun c_32 => absurd c_32 (by decide)) (fun c_32 => ?_)
    refine lv_iload_n hx hb dX2_follow_35 rfl (lv_at hl 1 rfl) ?_
    refine lv_if_eq (tgt := 52) hx hb dX2_follow_36 (by decide) (fun c_36 => absurd c_36 (by decide)) (fun c_36 => ?_)
    refine lv_aload_n hx hb dX2_follow_39 rfl (lv_at hl 2 rfl) ?_
    refine lv_aload_n hx hb dX2_follow_40 rfl (lv_at hl 3 rfl) ?_
    refine lv_aload_n hx hb dX2_follow_41 rfl (lv_at hl 4 rfl) ?_
    refine kI (rV (q0 := 4) (ci := 2) hx hb hml hown hg hN hK hP hD (c_passUp l D cI cJ cZ ad b u_1.1 u_1.2 R) mw_142 mw_143 mw_144 mw_145 mw_146 pdv_X2_passUp ⟨Nat.le_of_ble_eq_true rfl, Nat.le_of_ble_eq_true rfl⟩ rfl rfl rfl hl.1 rfl (Nat.le_of_ble_eq_true rfl) dX2_follow_42 ⟨Nat.le_of_ble_eq_true rfl, Nat.le_of_ble_eq_true rfl⟩) hD hS hA (fun r_2 u_2 H locs hp hP hD hS => ?_)
    obtain ⟨rfl, rfl⟩ := hp
    refine lv_istore_n (lv' := [(3, .int 0), (4, .int 0), (0, .ref (ad 4)), (1, .ref (ad 1)), (2, .ref (ad 2))]) hx hb dX2_follow_45 rfl hl (by decide) rfl (fun ls hl => ?_)
    refine lv_iinc (v := 1) (lv' := [(4, .int 1), (3, .int 0), (0, .ref (ad 4)), (1, .ref (ad 1)), (2, .ref (ad 2))]) hx hb dX2_follow_46 hl (k := 1) rfl (by decide) (by decide) rfl (fun ls hl => ?_)
    refine lv_goto (tgt := 28) hx hb dX2_follow_49 (by decide) ?_
    refine lv_iload hx hb dX2_follow_28 (lv_at hl 0 rfl) ?_
    refine lv_bipush (v := 40) hx hb dX2_follow_30 (by decide) ?_
    refine lv_icmp_gt (tgt := 52) hx hb dX2_follow_32 (by decide) (fun c_32 => absurd c_32 (by decide)) (fun c_32 => ?_)
    refine lv_iload_n hx hb dX2_follow_35 rfl (lv_at hl 1 rfl) ?_
    refine lv_if_eq (tgt := 52) hx hb dX2_follow_36 (by decide) (fun c_36 => ?_) (fun c_36 => absurd (by decide) c_36)
    refine lv_aload_n hx hb dX2_follow_52 rfl (lv_at hl 2 rfl) ?_
    refine lv_iconst (v := 0) hx hb dX2_follow_53 (by decide) ?_
    refine va_put (D := D) (ci := 2) (v := .int 0) (C := RX2) (T := TX2) (N := 3) hx hb hg inGX2 tyX2 tyX2_ok nmX2 hown hK hP hD hS 4 rfl rfl 1 (by decide) (hg _ mw_147) (fun _ h9 => h9) rfl (tyX2_ok 1 (by decide)) rfl rfl (Nat.le_of_ble_eq_true rfl) dX2_follow_54 (fun H locs hP hD hS => ?_)
    have hP : va_P D vwCl (XW ad cI cJ 0 b u_1.1 u_1.2 ++ R) H := hP
    have hD : va_D A (XW ad cI cJ 0 b u_1.1 u_1.2 ++ R) := hD
    refine lv_iconst (v := 0) hx hb dX2_follow_57 (by decide) ?_
    refine lv_istore (lv' := [(4, .int 0), (3, .int 0), (0, .ref (ad 4)), (1, .ref (ad 1)), (2, .ref (ad 2))]) hx hb dX2_follow_58 hl (by decide) rfl (fun ls hl => ?_)
    refine lv_iload hx hb dX2_follow_60 (lv_at hl 0 rfl) ?_
    refine lv_aload_n hx hb dX2_follow_62 rfl (lv_at hl 4 rfl) ?_
    refine va_getN (D := D) (ci := 1) (v := .int 0) (C := RX1) (T := TX1) (N := 11) hx hb hg inGX1 hown hK hP 2 rfl rfl 7 (by decide) (hN.use nw_26) (fun _ h9 => h9) rfl dX2_follow_63 ?_
    refine lv_icmp_ge (tgt := 104) hx hb dX2_follow_66 (by decide) (fun c_66 => ?_) (fun c_66 => absurd (by decide) c_66)
    exact W.vret hx hb hr (fun t ht hW => ⟨⟨(XW ad cI cJ 0 b u_1.1 u_1.2 ++ R), rfl, ⟨_, _, rfl⟩, ⟨by rw [ht]; exact hP, va_K.moved hW.alike hK, hD⟩⟩, hS.F ht⟩) hS.2.2 dX2_follow_104
  · obtain ⟨hF_1, hP, hD, hS, hl⟩ := hI
    have hP : va_P D vwCl (XW ad cI cJ 0 b u_1.1 u_1.2 ++ R) H := hP
    have hD : va_D A (XW ad cI cJ 0 b u_1.1 u_1.2 ++ R) := hD
    have hl : lv_has ls 5 [(0, .ref (ad 4)), (1, .ref (ad 1)), (2, .ref (ad 2)), (3, .int (nI i))] := hl
    refine lv_iload_n hx hb dX2_follow_2 rfl (lv_at hl 3 rfl) ?_
    refine lv_bipush (v := 40) hx hb dX2_follow_3 (by decide) ?_
    refine lv_icmp_ge (tgt := 23) hx hb dX2_follow_5 (by decide) (fun c_5 => absurd c_5 (nI_ge hi (by decide))) (fun c_5 => ?_)
    refine lv_aload_n hx hb dX2_follow_8 rfl (lv_at hl 0 rfl) ?_
    refine va_get (D := D) (ci := 2) (v := .ref (ad 23)) (C := RX2) (T := TX2) (N := 3) hx hb hg inGX2 hown hK hP 4 rfl rfl 0 (by decide) (hg _ mw_148) (fun _ h9 => h9) rfl dX2_follow_9 ?_
    refine lv_iload_n hx hb dX2_follow_12 rfl (lv_at hl 3 rfl) ?_
    refine lv_iconst (v := 0) hx hb dX2_follow_13 (by decide) ?_
    refine kV (rSN hx hb hml hown hg hN hK hP hD (c_put l D cI cJ cZ (XW ad cI cJ 0 b u_1.1 u_1.2 ++ R) 23 (ad 23) 40 (u_1.1 23) (nI i) 0 rfl (by decide)) mw_108 nw_79 mw_109 mw_110 pd_X7_put ⟨Nat.le_of_ble_eq_true rfl, Nat.le_of_ble_eq_true rfl⟩ rfl hl.1 rfl (Nat.le_of_ble_eq_true rfl) dX2_follow_14 ⟨Nat.le_of_ble_eq_true rfl, Nat.le_of_ble_eq_true rfl⟩) hD hS hA (fun u_3 H locs hp hP hD hS => ?_)
    obtain ⟨f_4, rfl, hp1, hp2⟩ := hp
    have hP : va_P D vwCl (XW ad cI cJ 0 b (va_up u_1.1 23 f_4) u_1.2 ++ R) H := hP
    have hD : va_D A (XW ad cI cJ 0 b (va_up u_1.1 23 f_4) u_1.2 ++ R) := hD
    refine lv_iinc (v := nI (i + 1)) (lv' := [(3, .int (nI (i + 1))), (0, .ref (ad 4)), (1, .ref (ad 1)), (2, .ref (ad 2))]) hx hb dX2_follow_17 hl (k := 3) rfl (nI_1 i) (by decide) rfl (fun ls hl => ?_)
    refine lv_goto (tgt := 2) hx hb dX2_follow_20 (by decide) ?_
    exact ih ((va_up u_1.1 23 f_4), u_1.2) H locs ls ⟨trivial, hP, hD, hS, lv_sub hl [1, 2, 3, 0] rfl⟩
set_option maxHeartbeats 4000000 in
set_option maxRecDepth 100000 in
theorem c_findEntries (l : Launch) (D : va_G) (cI cJ cZ : ClassId) (ad : Nat → Nat) (b : Nat → Int32) (F : Nat → Nat → Int32) (G : Nat → Nat → Int64) (R : va_W) : CT l D (TY cI cJ cZ) yX5_findEntries (.code yX5_findEntries cX5_findEntries 11 (none : Option FieldType)) 1 0 0 (XW ad cI cJ 0 b F G ++ R) [.ref (ad 5)] (QV D (TY cI cJ cZ) (fun u => ∃ F' G', u = XW ad cI cJ 0 b F' G' ++ R)) := by
  refine ent (by decide) (Nat.le_of_ble_eq_true rfl) ?_
  intro p e s m below meth c ls A hx hb hr hg hown hml hlocks hnm hP hK hD hS hA hN hl
  have hl : lv_has ls 11 [(0, .ref (ad 5))] := hl
  refine lv_lconst (v := 0) hx hb dX5_findEntries_0 (by decide) ?_
  refine lv_lstore_n (lv' := [(1, .long 0), (0, .ref (ad 5))]) hx hb dX5_findEntries_1 rfl hl (by decide) rfl (fun ls hl => ?_)
  refine lv_bipush (v := 40) hx hb dX5_findEntries_2 (by decide) ?_
  refine kL (rSN hx hb hml hown hg hN hK hP hD (c_bit l D cI cJ cZ (XW ad cI cJ 0 b F G ++ R) 40) mw_149 nw_87 mw_150 mw_110 pd_X7_bit ⟨Nat.le_of_ble_eq_true rfl, Nat.le_of_ble_eq_true rfl⟩ rfl hl.1 rfl (Nat.le_of_ble_eq_true rfl) dX5_findEntries_4 ⟨Nat.le_of_ble_eq_true rfl, Nat.le_of_ble_eq_true rfl⟩) hD hS hA (fun r_1 u_1 H locs hp hP hD hS => ?_)
  obtain rfl := hp
  refine lv_lconst (v := 1) hx hb dX5_findEntries_7 (by decide) ?_
  refine lv_lor hx hb dX5_findEntries_8 ?_
  refine lv_topl (fun v_2 ev_2 => ?_)
  refine lv_lstore_n (lv' := [(3, .long v_2), (1, .long 0), (0, .ref (ad 5))]) hx hb dX5_findEntries_9 rfl hl (by decide) rfl (fun ls hl => ?_)
  refine lv_iconst (v := 0) hx hb dX5_findEntries_10 (by decide) ?_
  refine lv_istore (lv' := [(5, .int 0), (3, .long v_2), (1, .long 0), (0, .ref (ad 5))]) hx hb dX5_findEntries_11 hl (by decide) rfl (fun ls hl => ?_)
  -- the loop at 13
  refine w_loop (σ := Int64 × Int64) (fun (i : Nat) (u_3 : Int64 × Int64) (H : Heap) (locs : List Loc) (ls : Array Slot) => (True) ∧ va_P D vwCl (XW ad cI cJ 0 b F G ++ R) H ∧ va_D A (XW ad cI cJ 0 b F G ++ R) ∧ va_S A s.heap H locs ∧ lv_has ls 11 [(0, .ref (ad 5)), (1, .long u_3.1), (3, .long u_3.2), (5, .int (nI i))]) 40 (fun u_3 H locs ls hI => ?_) (fun i u_3 H locs ls hi hI ih => ?_) 0 (0, v_2) (Nat.zero_le _) ⟨trivial, hP, hD, hS, by rw [nI_0]; exact lv_sub hl [3, 2, 1, 0] rfl⟩
  · obtain ⟨hF_3, hP, hD, hS, hl⟩ := hI
    have hP : va_P D vwCl (XW ad cI cJ 0 b F G ++ R) H := hP
    have hD : va_D A (XW ad cI cJ 0 b F G ++ R) := hD
    have hl : lv_has ls 11 [(0, .ref (ad 5)), (1, .long u_3.1), (3, .long u_3.2), (5, .int (nI 40))] := hl
    refine lv_iload hx hb dX5_findEntries_13 (lv_at hl 3 rfl) ?_
    refine lv_bipush (v := 40) hx hb dX5_findEntries_15 (by decide) ?_
    refine lv_icmp_ge (tgt := 49) hx hb dX5_findEntries_17 (by decide) (fun c_17 => ?_) (fun c_17 => absurd (by decide) c_17)
    refine lv_lload_n hx hb dX5_findEntries_49 rfl (lv_at hl 1 rfl) ?_
    refine lv_lload_n hx hb dX5_findEntries_50 rfl (lv_at hl 2 rfl) ?_
    refine lv_ldc2 (v := (-1)) hx hb hown (hg _ mw_151) dX5_findEntries_51 ?_
    refine lv_lxor hx hb dX5_findEntries_54 ?_
    refine lv_topl (fun v_4 ev_4 => ?_)
    refine lv_land hx hb dX5_findEntries_55 ?_
    refine lv_topl (fun v_5 ev_5 => ?_)
    refine lv_lstore (lv' := [(5, .long v_5), (0, .ref (ad 5)), (1, .long u_3.1), (3, .long u_3.2)]) hx hb dX5_findEntries_56 hl (by decide) rfl (fun ls hl => ?_)
    refine lv_iconst (v := 0) hx hb dX5_findEntries_58 (by decide) ?_
    refine lv_istore (lv' := [(7, .int 0), (5, .long v_5), (0, .ref (ad 5)), (1, .long u_3.1), (3, .long u_3.2)]) hx hb dX5_findEntries_59 hl (by decide) rfl (fun ls hl => ?_)
    -- the loop at 61
    refine w_loop (σ := (Nat → Nat → Int32) × (Nat → Nat → Int64)) (fun (i : Nat) (u_6 : (Nat → Nat → Int32) × (Nat → Nat → Int64)) (H : Heap) (locs : List Loc) (ls : Array Slot) => (True) ∧ va_P D vwCl (XW ad cI cJ 0 b u_6.1 u_6.2 ++ R) H ∧ va_D A (XW ad cI cJ 0 b u_6.1 u_6.2 ++ R) ∧ va_S A s.heap H locs ∧ lv_has ls 11 [(0, .ref (ad 5)), (1, .long u_3.1), (3, .long u_3.2), (5, .long v_5), (7, .int (nI i))]) 41 (fun u_6 H locs ls hI => ?_) (fun i u_6 H locs ls hi hI ih => ?_) 0 (F, G) (Nat.zero_le _) ⟨trivial, hP, hD, hS, by rw [nI_0]; exact lv_sub hl [2, 3, 4, 1, 0] rfl⟩
    · obtain ⟨hF_6, hP, hD, hS, hl⟩ := hI
      have hP : va_P D vwCl (XW ad cI cJ 0 b u_6.1 u_6.2 ++ R) H := hP
      have hD : va_D A (XW ad cI cJ 0 b u_6.1 u_6.2 ++ R) := hD
      have hl : lv_has ls 11 [(0, .ref (ad 5)), (1, .long u_3.1), (3, .long u_3.2), (5, .long v_5), (7, .int (nI 41))] := hl
      refine lv_iload hx hb dX5_findEntries_61 (lv_at hl 4 rfl) ?_
      refine lv_bipush (v := 40) hx hb dX5_findEntries_63 (by decide) ?_
      refine lv_icmp_gt (tgt := 84) hx hb dX5_findEntries_65 (by decide) (fun c_65 => ?_) (fun c_65 => absurd (by decide) c_65)
      refine lv_iconst (v := 0) hx hb dX5_findEntries_84 (by decide) ?_
      refine lv_istore (lv' := [(7, .int 0), (0, .ref (ad 5)), (1, .long u_3.1), (3, .long u_3.2), (5, .long v_5)]) hx hb dX5_findEntries_85 hl (by decide) rfl (fun ls hl => ?_)
      -- the loop at 87
      refine w_loop (σ := (Nat → Nat → Int32) × (Nat → Nat → Int64)) (fun (i : Nat) (u_7 : (Nat → Nat → Int32) × (Nat → Nat → Int64)) (H : Heap) (locs : List Loc) (ls : Array Slot) => (True) ∧ va_P D vwCl (XW ad cI cJ 0 b u_7.1 u_7.2 ++ R) H ∧ va_D A (XW ad cI cJ 0 b u_7.1 u_7.2 ++ R) ∧ va_S A s.heap H locs ∧ lv_has ls 11 [(0, .ref (ad 5)), (1, .long u_3.1), (3, .long u_3.2), (5, .long v_5), (7, .int (nI i))]) 40 (fun u_7 H locs ls hI => ?_) (fun i u_7 H locs ls hi hI ih => ?_) 0 (u_6.1, u_6.2) (Nat.zero_le _) ⟨trivial, hP, hD, hS, by rw [nI_0]; exact lv_sub hl [1, 2, 3, 4, 0] rfl⟩
      · obtain ⟨hF_7, hP, hD, hS, hl⟩ := hI
        have hP : va_P D vwCl (XW ad cI cJ 0 b u_7.1 u_7.2 ++ R) H := hP
        have hD : va_D A (XW ad cI cJ 0 b u_7.1 u_7.2 ++ R) := hD
        have hl : lv_has ls 11 [(0, .ref (ad 5)), (1, .long u_3.1), (3, .long u_3.2), (5, .long v_5), (7, .int (nI 40))] := hl
        refine lv_iload hx hb dX5_findEntries_87 (lv_at hl 4 rfl) ?_
        refine lv_bipush (v := 40) hx hb dX5_findEntries_89 (by decide) ?_
        refine lv_icmp_ge (tgt := 158) hx hb dX5_findEntries_91 (by decide) (fun c_91 => ?_) (fun c_91 => absurd (by decide) c_91)
        exact W.vret hx hb hr (fun t ht hW => ⟨⟨(XW ad cI cJ 0 b u_7.1 u_7.2 ++ R), rfl, ⟨_, _, rfl⟩, ⟨by rw [ht]; exact hP, va_K.moved hW.alike hK, hD⟩⟩, hS.F ht⟩) hS.2.2 dX5_findEntries_158
      · obtain ⟨hF_7, hP, hD, hS, hl⟩ := hI
        have hP : va_P D vwCl (XW ad cI cJ 0 b u_7.1 u_7.2 ++ R) H := hP
        have hD : va_D A (XW ad cI cJ 0 b u_7.1 u_7.2 ++ R) := hD
        have hl : lv_has ls 11 [(0, .ref (ad 5)), (1, .long u_3.1), (3, .long u_3.2), (5, .long v_5), (7, .int (nI i))] := hl
        refine lv_iload hx hb dX5_findEntries_87 (lv_at hl 4 rfl) ?_
        refine lv_bipush (v := 40) hx hb dX5_findEntries_89 (by decide) ?_
        refine lv_icmp_ge (tgt := 158) hx hb dX5_findEntries_91 (by decide) (fun c_91 => absurd c_91 (nI_ge hi (by decide))) (fun c_91 => ?_)
        refine lv_aload_n hx hb dX5_findEntries_94 rfl (lv_at hl 0 rfl) ?_
        refine va_get (D := D) (ci := 5) (v := .ref (ad 24)) (C := RX5) (T := TX5) (N := 8) hx hb hg inGX5 hown hK hP 5 rfl rfl 0 (by decide) (hg _ mw_152) (fun _ h9 => h9) rfl dX5_findEntries_95 ?_
        refine lv_iload hx hb dX5_findEntries_98 (lv_at hl 4 rfl) ?_
        refine kL (rSN hx hb hml hown hg hN hK hP hD (c_atL l D cI cJ cZ (XW ad cI cJ 0 b u_7.1 u_7.2 ++ R) 24 (ad 24) 40 (fun _ => 0) (nI i) rfl (by decide)) mw_153 nw_84 mw_154 mw_110 pd_X7_at_ ⟨Nat.le_of_ble_eq_true rfl, Nat.le_of_ble_eq_true rfl⟩ rfl hl.1 rfl (Nat.le_of_ble_eq_true rfl) dX5_findEntries_100 ⟨Nat.le_of_ble_eq_true rfl, Nat.le_of_ble_eq_true rfl⟩) hD hS hA (fun r_8 u_8 H locs hp hP hD hS => ?_)
        obtain ⟨hp1, hp2, rfl⟩ := hp
        obtain rfl : r_8 = 0 := (Classical.em (vp_in (nI i) 40)).elim hp1 hp2
        refine lv_lload hx hb dX5_findEntries_103 (lv_at hl 3 rfl) ?_
        refine lv_land hx hb dX5_findEntries_105 ?_
        refine lv_topl (fun v_9 ev_9 => ?_)
        obtain rfl : v_9 = (0 : Int64) := ev_9.trans (zand _)
        refine lv_lstore (lv' := [(8, .long 0), (0, .ref (ad 5)), (1, .long u_3.1), (3, .long u_3.2), (5, .long v_5), (7, .int (nI i))]) hx hb dX5_findEntries_106 hl (by decide) rfl (fun ls hl => ?_)
        refine lv_iconst (v := 0) hx hb dX5_findEntries_108 (by decide) ?_
        refine lv_istore (lv' := [(10, .int 0), (8, .long 0), (0, .ref (ad 5)), (1, .long u_3.1), (3, .long u_3.2), (5, .long v_5), (7, .int (nI i))]) hx hb dX5_findEntries_109 hl (by decide) rfl (fun ls hl => ?_)
        refine lv_iload hx hb dX5_findEntries_111 (lv_at hl 0 rfl) ?_
        refine lv_bipush (v := 40) hx hb dX5_findEntries_113 (by decide) ?_
        refine lv_icmp_ge (tgt := 152) hx hb dX5_findEntries_115 (by decide) (fun c_115 => absurd c_115 (by decide)) (fun c_115 => ?_)
        refine lv_lload hx hb dX5_findEntries_118 (lv_at hl 1 rfl) ?_
        refine lv_lconst (v := 0) hx hb dX5_findEntries_120 (by decide) ?_
        refine W.lcmp hx hb dX5_findEntries_121 ?_
        refine lv_topi (fun v_10 ev_10 => ?_)
        obtain rfl : v_10 = (0 : Int32) := ev_10.trans (by decide)
        refine lv_if_eq (tgt := 152) hx hb dX5_findEntries_122 (by decide) (fun c_122 => ?_) (fun c_122 => absurd (by decide) c_122)
        refine lv_iinc (v := nI (i + 1)) (lv' := [(7, .int (nI (i + 1))), (10, .int 0), (8, .long 0), (0, .ref (ad 5)), (1, .long u_3.1), (3, .long u_3.2), (5, .long v_5)]) hx hb dX5_findEntries_152 hl (k := 6) rfl (nI_1 i) (by decide) rfl (fun ls hl => ?_)
        refine lv_goto (tgt := 87) hx hb dX5_findEntries_155 (by decide) ?_
        exact ih (u_7.1, u_7.2) H locs ls ⟨trivial, hP, hD, hS, lv_sub hl [3, 4, 5, 6, 0] rfl⟩
    · obtain ⟨hF_6, hP, hD, hS, hl⟩ := hI
      have hP : va_P D vwCl (XW ad cI cJ 0 b u_6.1 u_6.2 ++ R) H := hP
      have hD : va_D A (XW ad cI cJ 0 b u_6.1 u_6.2 ++ R) := hD
      have hl : lv_has ls 11 [(0, .ref (ad 5)), (1, .long u_3.1), (3, .long u_3.2), (5, .long v_5), (7, .int (nI i))] := hl
      refine lv_iload hx hb dX5_findEntries_61 (lv_at hl 4 rfl) ?_
      refine lv_bipush (v := 40) hx hb dX5_findEntries_63 (by decide) ?_
      refine lv_icmp_gt (tgt := 84) hx hb dX5_findEntries_65 (by decide) (fun c_65 => absurd c_65 (nI_nlt (Nat.le_of_lt_succ hi) (by decide))) (fun c_65 => ?_)
      refine lv_aload_n hx hb dX5_findEntries_68 rfl (lv_at hl 0 rfl) ?_
      refine va_get (D := D) (ci := 5) (v := .ref (ad 28)) (C := RX5) (T := TX5) (N := 8) hx hb hg inGX5 hown hK hP 5 rfl rfl 4 (by decide) (hg _ mw_155) (fun _ h9 => h9) rfl dX5_findEntries_69 ?_
      refine lv_iload hx hb dX5_findEntries_72 (lv_at hl 4 rfl) ?_
      refine lv_iconst (v := (-1)) hx hb dX5_findEntries_74 (by decide) ?_
      refine kV (rSN hx hb hml hown hg hN hK hP hD (c_put l D cI cJ cZ (XW ad cI cJ 0 b u_6.1 u_6.2 ++ R) 28 (ad 28) 41 (u_6.1 28) (nI i) (-1) rfl (by decide)) mw_108 nw_86 mw_109 mw_110 pd_X7_put ⟨Nat.le_of_ble_eq_true rfl, Nat.le_of_ble_eq_true rfl⟩ rfl hl.1 rfl (Nat.le_of_ble_eq_true rfl) dX5_findEntries_75 ⟨Nat.le_of_ble_eq_true rfl, Nat.le_of_ble_eq_true rfl⟩) hD hS hA (fun u_11 H locs hp hP hD hS => ?_)
      obtain ⟨f_12, rfl, hp1, hp2⟩ := hp
      have hP : va_P D vwCl (XW ad cI cJ 0 b (va_up u_6.1 28 f_12) u_6.2 ++ R) H := hP
      have hD : va_D A (XW ad cI cJ 0 b (va_up u_6.1 28 f_12) u_6.2 ++ R) := hD
      refine lv_iinc (v := nI (i + 1)) (lv' := [(7, .int (nI (i + 1))), (0, .ref (ad 5)), (1, .long u_3.1), (3, .long u_3.2), (5, .long v_5)]) hx hb dX5_findEntries_78 hl (k := 4) rfl (nI_1 i) (by decide) rfl (fun ls hl => ?_)
      refine lv_goto (tgt := 61) hx hb dX5_findEntries_81 (by decide) ?_
      exact ih ((va_up u_6.1 28 f_12), u_6.2) H locs ls ⟨trivial, hP, hD, hS, lv_sub hl [1, 2, 3, 4, 0] rfl⟩
  · obtain ⟨hF_3, hP, hD, hS, hl⟩ := hI
    have hP : va_P D vwCl (XW ad cI cJ 0 b F G ++ R) H := hP
    have hD : va_D A (XW ad cI cJ 0 b F G ++ R) := hD
    have hl : lv_has ls 11 [(0, .ref (ad 5)), (1, .long u_3.1), (3, .long u_3.2), (5, .int (nI i))] := hl
    refine lv_iload hx hb dX5_findEntries_13 (lv_at hl 3 rfl) ?_
    refine lv_bipush (v := 40) hx hb dX5_findEntries_15 (by decide) ?_
    refine lv_icmp_ge (tgt := 49) hx hb dX5_findEntries_17 (by decide) (fun c_17 => absurd c_17 (nI_ge hi (by decide))) (fun c_17 => ?_)
    refine lv_aload_n hx hb dX5_findEntries_20 rfl (lv_at hl 0 rfl) ?_
    refine va_get (D := D) (ci := 5) (v := .ref (ad 24)) (C := RX5) (T := TX5) (N := 8) hx hb hg inGX5 hown hK hP 5 rfl rfl 0 (by decide) (hg _ mw_152) (fun _ h9 => h9) rfl dX5_findEntries_21 ?_
    refine lv_iload hx hb dX5_findEntries_24 (lv_at hl 3 rfl) ?_
    refine kL (rSN hx hb hml hown hg hN hK hP hD (c_atL l D cI cJ cZ (XW ad cI cJ 0 b F G ++ R) 24 (ad 24) 40 (fun _ => 0) (nI i) rfl (by decide)) mw_153 nw_84 mw_154 mw_110 pd_X7_at_ ⟨Nat.le_of_ble_eq_true rfl, Nat.le_of_ble_eq_true rfl⟩ rfl hl.1 rfl (Nat.le_of_ble_eq_true rfl) dX5_findEntries_26 ⟨Nat.le_of_ble_eq_true rfl, Nat.le_of_ble_eq_true rfl⟩) hD hS hA (fun r_13 u_13 H locs hp hP hD hS => ?_)
    obtain ⟨hp1, hp2, rfl⟩ := hp
    obtain rfl : r_13 = 0 := (Classical.em (vp_in (nI i) 40)).elim hp1 hp2
    refine lv_lstore (lv' := [(6, .long 0), (0, .ref (ad 5)), (1, .long u_3.1), (3, .long u_3.2), (5, .int (nI i))]) hx hb dX5_findEntries_29 hl (by decide) rfl (fun ls hl => ?_)
    refine lv_lload_n hx hb dX5_findEntries_31 rfl (lv_at hl 3 rfl) ?_
    refine lv_lload_n hx hb dX5_findEntries_32 rfl (lv_at hl 2 rfl) ?_
    refine lv_lload hx hb dX5_findEntries_33 (lv_at hl 0 rfl) ?_
    refine lv_land hx hb dX5_findEntries_35 ?_
    refine lv_topl (fun v_14 ev_14 => ?_)
    refine lv_lor hx hb dX5_findEntries_36 ?_
    refine lv_topl (fun v_15 ev_15 => ?_)
    refine lv_lstore_n (lv' := [(3, .long v_15), (6, .long 0), (0, .ref (ad 5)), (1, .long u_3.1), (5, .int (nI i))]) hx hb dX5_findEntries_37 rfl hl (by decide) rfl (fun ls hl => ?_)
    refine lv_lload_n hx hb dX5_findEntries_38 rfl (lv_at hl 3 rfl) ?_
    refine lv_lload hx hb dX5_findEntries_39 (lv_at hl 1 rfl) ?_
    refine lv_lor hx hb dX5_findEntries_41 ?_
    refine lv_topl (fun v_16 ev_16 => ?_)
    refine lv_lstore_n (lv' := [(1, .long v_16), (3, .long v_15), (6, .long 0), (0, .ref (ad 5)), (5, .int (nI i))]) hx hb dX5_findEntries_42 rfl hl (by decide) rfl (fun ls hl => ?_)
    refine lv_iinc (v := nI (i + 1)) (lv' := [(5, .int (nI (i + 1))), (1, .long v_16), (3, .long v_15), (6, .long 0), (0, .ref (ad 5))]) hx hb dX5_findEntries_43 hl (k := 4) rfl (nI_1 i) (by decide) rfl (fun ls hl => ?_)
    refine lv_goto (tgt := 13) hx hb dX5_findEntries_46 (by decide) ?_
    exact ih (v_16, v_15) H locs ls ⟨trivial, hP, hD, hS, lv_sub hl [4, 1, 2, 0] rfl⟩
set_option maxHeartbeats 4000000 in
set_option maxRecDepth 100000 in
theorem c_takeStep (l : Launch) (D : va_G) (cI cJ cZ : ClassId) (ad : Nat → Nat) (b : Nat → Int32) (F : Nat → Nat → Int32) (G : Nat → Nat → Int64) (R : va_W) : CT l D (TY cI cJ cZ) yX5_takeStep (.code yX5_takeStep cX5_takeStep 3 (some Jvm.ClassFile.FieldType.boolean)) 2 0 0 (XW ad cI cJ 0 b F G ++ R) [.ref (ad 5)] (QI D (TY cI cJ cZ) (fun r u => r = 0 ∧ ∃ F' G', u = XW ad cI cJ 0 b F' G' ++ R)) := by
  refine ent (by decide) (Nat.le_of_ble_eq_true rfl) ?_
  intro p e s m below meth c ls A hx hb hr hg hown hml hlocks hnm hP hK hD hS hA hN hl
  have hl : lv_has ls 3 [(0, .ref (ad 5))] := hl
  refine lv_aload_n hx hb dX5_takeStep_0 rfl (lv_at hl 0 rfl) ?_
  refine kV (rV (q0 := 5) (ci := 5) hx hb hml hown hg hN hK hP hD (c_findEntries l D cI cJ cZ ad b F G R) mw_156 mw_157 mw_158 mw_159 mw_160 pdv_X5_findEntries ⟨Nat.le_of_ble_eq_true rfl, Nat.le_of_ble_eq_true rfl⟩ rfl rfl rfl hl.1 rfl (Nat.le_of_ble_eq_true rfl) dX5_takeStep_1 ⟨Nat.le_of_ble_eq_true rfl, Nat.le_of_ble_eq_true rfl⟩) hD hS hA (fun u_1 H locs hp hP hD hS => ?_)
  obtain ⟨F_3, G_4, rfl⟩ := hp
  refine lv_iconst (v := 0) hx hb dX5_takeStep_4 (by decide) ?_
  refine lv_istore_n (lv' := [(1, .int 0), (0, .ref (ad 5))]) hx hb dX5_takeStep_5 rfl hl (by decide) rfl (fun ls hl => ?_)
  -- the loop at 6
  refine w_loop (σ := Unit) (fun (i : Nat) (u_5 : Unit) (H : Heap) (locs : List Loc) (ls : Array Slot) => (True) ∧ va_P D vwCl (XW ad cI cJ 0 b F_3 G_4 ++ R) H ∧ va_D A (XW ad cI cJ 0 b F_3 G_4 ++ R) ∧ va_S A s.heap H locs ∧ lv_has ls 3 [(0, .ref (ad 5)), (1, .int (nI i))]) 40 (fun u_5 H locs ls hI => ?_) (fun i u_5 H locs ls hi hI ih => ?_) 0 () (Nat.zero_le _) ⟨trivial, hP, hD, hS, by rw [nI_0]; exact lv_sub hl [1, 0] rfl⟩
  · obtain ⟨hF_5, hP, hD, hS, hl⟩ := hI
    have hP : va_P D vwCl (XW ad cI cJ 0 b F_3 G_4 ++ R) H := hP
    have hD : va_D A (XW ad cI cJ 0 b F_3 G_4 ++ R) := hD
    have hl : lv_has ls 3 [(0, .ref (ad 5)), (1, .int (nI 40))] := hl
    refine lv_iload_n hx hb dX5_takeStep_6 rfl (lv_at hl 1 rfl) ?_
    refine lv_bipush (v := 40) hx hb dX5_takeStep_7 (by decide) ?_
    refine lv_icmp_ge (tgt := 86) hx hb dX5_takeStep_9 (by decide) (fun c_9 => ?_) (fun c_9 => absurd (by decide) c_9)
    refine lv_iconst (v := 0) hx hb dX5_takeStep_86 (by decide) ?_
    exact W.zret (v := 0) hx hb hr rfl (fun t ht hW => ⟨⟨0, (XW ad cI cJ 0 b F_3 G_4 ++ R), rfl, ⟨rfl, _, _, rfl⟩, ⟨by rw [ht]; exact hP, va_K.moved hW.alike hK, hD⟩⟩, hS.F ht⟩) hS.2.2 dX5_takeStep_87
  · obtain ⟨hF_5, hP, hD, hS, hl⟩ := hI
    have hP : va_P D vwCl (XW ad cI cJ 0 b F_3 G_4 ++ R) H := hP
    have hD : va_D A (XW ad cI cJ 0 b F_3 G_4 ++ R) := hD
    have hl : lv_has ls 3 [(0, .ref (ad 5)), (1, .int (nI i))] := hl
    refine lv_iload_n hx hb dX5_takeStep_6 rfl (lv_at hl 1 rfl) ?_
    refine lv_bipush (v := 40) hx hb dX5_takeStep_7 (by decide) ?_
    refine lv_icmp_ge (tgt := 86) hx hb dX5_takeStep_9 (by decide) (fun c_9 => absurd c_9 (nI_ge hi (by decide))) (fun c_9 => ?_)
    refine lv_aload_n hx hb dX5_takeStep_12 rfl (lv_at hl 0 rfl) ?_
    refine va_get (D := D) (ci := 5) (v := .long 0) (C := RX5) (T := TX5) (N := 8) hx hb hg inGX5 hown hK hP 5 rfl rfl 5 (by decide) (hg _ mw_161) (fun _ h9 => h9) rfl dX5_takeStep_13 ?_
    refine lv_iload_n hx hb dX5_takeStep_16 rfl (lv_at hl 1 rfl) ?_
    refine kI (rSN hx hb hml hown hg hN hK hP hD (c_has0 l D cI cJ cZ (XW ad cI cJ 0 b F_3 G_4 ++ R) (nI i)) mw_129 nw_83 mw_130 mw_110 pd_X7_has ⟨Nat.le_of_ble_eq_true rfl, Nat.le_of_ble_eq_true rfl⟩ rfl hl.1 rfl (Nat.le_of_ble_eq_true rfl) dX5_takeStep_17 ⟨Nat.le_of_ble_eq_true rfl, Nat.le_of_ble_eq_true rfl⟩) hD hS hA (fun r_6 u_6 H locs hp hP hD hS => ?_)
    obtain ⟨rfl, rfl⟩ := hp
    refine lv_if_eq (tgt := 31) hx hb dX5_takeStep_20 (by decide) (fun c_20 => ?_) (fun c_20 => absurd (by decide) c_20)
    refine lv_iconst (v := (-1)) hx hb dX5_takeStep_31 (by decide) ?_
    refine lv_istore_n (lv' := [(2, .int (-1)), (0, .ref (ad 5)), (1, .int (nI i))]) hx hb dX5_takeStep_32 rfl hl (by decide) rfl (fun ls hl => ?_)
    refine lv_iload_n hx hb dX5_takeStep_33 rfl (lv_at hl 0 rfl) ?_
    refine lv_iconst (v := (-1)) hx hb dX5_takeStep_34 (by decide) ?_
    refine lv_icmp_eq (tgt := 80) hx hb dX5_takeStep_35 (by decide) (fun c_35 => ?_) (fun c_35 => absurd (by decide) c_35)
    refine lv_iinc (v := nI (i + 1)) (lv' := [(1, .int (nI (i + 1))), (2, .int (-1)), (0, .ref (ad 5))]) hx hb dX5_takeStep_80 hl (k := 2) rfl (nI_1 i) (by decide) rfl (fun ls hl => ?_)
    refine lv_goto (tgt := 6) hx hb dX5_takeStep_83 (by decide) ?_
    exact ih () H locs ls ⟨trivial, hP, hD, hS, lv_sub hl [2, 0] rfl⟩
set_option maxHeartbeats 4000000 in
set_option maxRecDepth 100000 in
theorem c_reduce (l : Launch) (D : va_G) (cI cJ cZ : ClassId) (ad : Nat → Nat) (b : Nat → Int32) (F : Nat → Nat → Int32) (G : Nat → Nat → Int64) (R : va_W) : CT l D (TY cI cJ cZ) yX5_reduce (.code yX5_reduce cX5_reduce 4 (none : Option FieldType)) 3 0 0 (XW ad cI cJ 0 b F G ++ R) [.ref (ad 5), .ref (ad 2)] (QV D (TY cI cJ cZ) (fun u => ∃ F' G', u = XW ad cI cJ 0 b F' G' ++ R)) := by
  refine ent (by decide) (Nat.le_of_ble_eq_true rfl) ?_
  intro p e s m below meth c ls A hx hb hr hg hown hml hlocks hnm hP hK hD hS hA hN hl
  have hl : lv_has ls 4 [(0, .ref (ad 5)), (1, .ref (ad 2))] := hl
  refine lv_aload_n hx hb dX5_reduce_0 rfl (lv_at hl 0 rfl) ?_
  refine lv_aload_n hx hb dX5_reduce_1 rfl (lv_at hl 1 rfl) ?_
  refine va_getN (D := D) (ci := 1) (v := .long 0) (C := RX1) (T := TX1) (N := 11) hx hb hg inGX1 hown hK hP 2 rfl rfl 9 (by decide) (hN.use nw_32) (fun _ h9 => h9) rfl dX5_reduce_2 ?_
  refine va_put (D := D) (ci := 5) (v := .long 0) (C := RX5) (T := TX5) (N := 8) hx hb hg inGX5 tyX5 tyX5_ok nmX5 hown hK hP hD hS 5 rfl rfl 5 (by decide) (hg _ mw_161) (fun _ h9 => h9) rfl (tyX5_ok 5 (by decide)) rfl rfl (Nat.le_of_ble_eq_true rfl) dX5_reduce_5 (fun H locs hP hD hS => ?_)
  have hP : va_P D vwCl (XW ad cI cJ 0 b F G ++ R) H := hP
  have hD : va_D A (XW ad cI cJ 0 b F G ++ R) := hD
  refine lv_aload_n hx hb dX5_reduce_8 rfl (lv_at hl 0 rfl) ?_
  refine lv_iconst (v := 0) hx hb dX5_reduce_9 (by decide) ?_
  refine va_put (D := D) (ci := 5) (v := .int 0) (C := RX5) (T := TX5) (N := 8) hx hb hg inGX5 tyX5 tyX5_ok nmX5 hown hK hP hD hS 5 rfl rfl 6 (by decide) (hg _ mw_162) (fun _ h9 => h9) rfl (tyX5_ok 6 (by decide)) rfl rfl (Nat.le_of_ble_eq_true rfl) dX5_reduce_10 (fun H locs hP hD hS => ?_)
  have hP : va_P D vwCl (XW ad cI cJ 0 b F G ++ R) H := hP
  have hD : va_D A (XW ad cI cJ 0 b F G ++ R) := hD
  refine lv_iconst (v := 0) hx hb dX5_reduce_13 (by decide) ?_
  refine lv_istore_n (lv' := [(2, .int 0), (0, .ref (ad 5)), (1, .ref (ad 2))]) hx hb dX5_reduce_14 rfl hl (by decide) rfl (fun ls hl => ?_)
  -- the loop at 15
  refine w_loop (σ := (Nat → Nat → Int32) × (Nat → Nat → Int64)) (fun (i : Nat) (u_1 : (Nat → Nat → Int32) × (Nat → Nat → Int64)) (H : Heap) (locs : List Loc) (ls : Array Slot) => (True) ∧ va_P D vwCl (XW ad cI cJ 0 b u_1.1 u_1.2 ++ R) H ∧ va_D A (XW ad cI cJ 0 b u_1.1 u_1.2 ++ R) ∧ va_S A s.heap H locs ∧ lv_has ls 4 [(0, .ref (ad 5)), (1, .ref (ad 2)), (2, .int (nI i))]) 40 (fun u_1 H locs ls hI => ?_) (fun i u_1 H locs ls hi hI ih => ?_) 0 (F, G) (Nat.zero_le _) ⟨trivial, hP, hD, hS, by rw [nI_0]; exact lv_sub hl [1, 2, 0] rfl⟩
  · obtain ⟨hF_1, hP, hD, hS, hl⟩ := hI
    have hP : va_P D vwCl (XW ad cI cJ 0 b u_1.1 u_1.2 ++ R) H := hP
    have hD : va_D A (XW ad cI cJ 0 b u_1.1 u_1.2 ++ R) := hD
    have hl : lv_has ls 4 [(0, .ref (ad 5)), (1, .ref (ad 2)), (2, .int (nI 40))] := hl
    refine lv_iload_n hx hb dX5_reduce_15 rfl (lv_at hl 2 rfl) ?_
    refine lv_bipush (v := 40) hx hb dX5_reduce_16 (by decide) ?_
    refine lv_icmp_ge (tgt := 77) hx hb dX5_reduce_18 (by decide) (fun c_18 => ?_) (fun c_18 => absurd (by decide) c_18)
    refine lv_iconst (v := 1) hx hb dX5_reduce_77 (by decide) ?_
    refine lv_istore_n (lv' := [(2, .int 1), (0, .ref (ad 5)), (1, .ref (ad 2))]) hx hb dX5_reduce_78 rfl hl (by decide) rfl (fun ls hl => ?_)
    refine lv_iconst (v := 0) hx hb dX5_reduce_79 (by decide) ?_
    refine lv_istore_n (lv' := [(3, .int 0), (2, .int 1), (0, .ref (ad 5)), (1, .ref (ad 2))]) hx hb dX5_reduce_80 rfl hl (by decide) rfl (fun ls hl => ?_)
    refine lv_iload_n hx hb dX5_reduce_81 rfl (lv_at hl 0 rfl) ?_
    refine lv_bipush (v := 120) hx hb dX5_reduce_82 (by decide) ?_
    refine lv_icmp_ge (tgt := 102) hx hb dX5_reduce_84 (by decide) (fun c_84 => absurd c_84 (by decide)) (fun c_84 => ?_)
    refine lv_iload_n hx hb dX5_reduce_87 rfl (lv_at hl 1 rfl) ?_
    refine lv_if_eq (tgt := 102) hx hb dX5_reduce_88 (by decide) (fun c_88 => absurd c_88 (by decide)) (fun c_88 => ?_)
    refine lv_aload_n hx hb dX5_reduce_91 rfl (lv_at hl 2 rfl) ?_
    refine kI (rV (q0 := 5) (ci := 5) hx hb hml hown hg hN hK hP hD (c_takeStep l D cI cJ cZ ad b u_1.1 u_1.2 R) mw_163 mw_164 mw_165 mw_166 mw_160 pdv_X5_takeStep ⟨Nat.le_of_ble_eq_true rfl, Nat.le_of_ble_eq_true rfl⟩ rfl rfl rfl hl.1 rfl (Nat.le_of_ble_eq_true rfl) dX5_reduce_92 ⟨Nat.le_of_ble_eq_true rfl, Nat.le_of_ble_eq_true rfl⟩) hD hS hA (fun r_2 u_2 H locs hp hP hD hS => ?_)
    obtain ⟨rfl, F_4, G_5, rfl⟩ := hp
    refine lv_istore_n (lv' := [(2, .int 0), (3, .int 0), (0, .ref (ad 5)), (1, .ref (ad 2))]) hx hb dX5_reduce_95 rfl hl (by decide) rfl (fun ls hl => ?_)
    refine lv_iinc (v := 1) (lv' := [(3, .int 1), (2, .int 0), (0, .ref (ad 5)), (1, .ref (ad 2))]) hx hb dX5_reduce_96 hl (k := 1) rfl (by decide) (by decide) rfl (fun ls hl => ?_)
    refine lv_goto (tgt := 81) hx hb dX5_reduce_99 (by decide) ?_
    refine lv_iload_n hx hb dX5_reduce_81 rfl (lv_at hl 0 rfl) ?_
    refine lv_bipush (v := 120) hx hb dX5_reduce_82 (by decide) ?_
    refine lv_icmp_ge (tgt := 102) hx hb dX5_reduce_84 (by decide) (fun c_84 => absurd c_84 (by decide)) (fun c_84 => ?_)
    refine lv_iload_n hx hb dX5_reduce_87 rfl (lv_at hl 1 rfl) ?_
    refine lv_if_eq (tgt := 102) hx hb dX5_reduce_88 (by decide) (fun c_88 => ?_) (fun c_88 => absurd (by decide) c_88)
    exact W.vret hx hb hr (fun t ht hW => ⟨⟨(XW ad cI cJ 0 b F_4 G_5 ++ R), rfl, ⟨_, _, rfl⟩, ⟨by rw [ht]; exact hP, va_K.moved hW.alike hK, hD⟩⟩, hS.F ht⟩) hS.2.2 dX5_reduce_102
  · obtain ⟨hF_1, hP, hD, hS, hl⟩ := hI
    have hP : va_P D vwCl (XW ad cI cJ 0 b u_1.1 u_1.2 ++ R) H := hP
    have hD : va_D A (XW ad cI cJ 0 b u_1.1 u_1.2 ++ R) := hD
    have hl : lv_has ls 4 [(0, .ref (ad 5)), (1, .ref (ad 2)), (2, .int (nI i))] := hl
    refine lv_iload_n hx hb dX5_reduce_15 rfl (lv_at hl 2 rfl) ?_
    refine lv_bipush (v := 40) hx hb dX5_reduce_16 (by decide) ?_
    refine lv_icmp_ge (tgt := 77) hx hb dX5_reduce_18 (by decide) (fun c_18 => absurd c_18 (nI_ge hi (by decide))) (fun c_18 => ?_)
    refine lv_aload_n hx hb dX5_reduce_21 rfl (lv_at hl 0 rfl) ?_
    refine va_get (D := D) (ci := 5) (v := .long 0) (C := RX5) (T := TX5) (N := 8) hx hb hg inGX5 hown hK hP 5 rfl rfl 5 (by decide) (hg _ mw_161) (fun _ h9 => h9) rfl dX5_reduce_22 ?_
    refine lv_iload_n hx hb dX5_reduce_25 rfl (lv_at hl 2 rfl) ?_
    refine kI (rSN hx hb hml hown hg hN hK hP hD (c_has0 l D cI cJ cZ (XW ad cI cJ 0 b u_1.1 u_1.2 ++ R) (nI i)) mw_129 nw_83 mw_130 mw_110 pd_X7_has ⟨Nat.le_of_ble_eq_true rfl, Nat.le_of_ble_eq_true rfl⟩ rfl hl.1 rfl (Nat.le_of_ble_eq_true rfl) dX5_reduce_26 ⟨Nat.le_of_ble_eq_true rfl, Nat.le_of_ble_eq_true rfl⟩) hD hS hA (fun r_6 u_6 H locs hp hP hD hS => ?_)
    obtain ⟨rfl, rfl⟩ := hp
    refine lv_istore_n (lv' := [(3, .int 0), (0, .ref (ad 5)), (1, .ref (ad 2)), (2, .int (nI i))]) hx hb dX5_reduce_29 rfl hl (by decide) rfl (fun ls hl => ?_)
    refine lv_aload_n hx hb dX5_reduce_30 rfl (lv_at hl 1 rfl) ?_
    refine va_get (D := D) (ci := 5) (v := .ref (ad 24)) (C := RX5) (T := TX5) (N := 8) hx hb hg inGX5 hown hK hP 5 rfl rfl 0 (by decide) (hg _ mw_152) (fun _ h9 => h9) rfl dX5_reduce_31 ?_
    refine lv_iload_n hx hb dX5_reduce_34 rfl (lv_at hl 3 rfl) ?_
    refine lv_iload_n hx hb dX5_reduce_35 rfl (lv_at hl 0 rfl) ?_
    refine lv_if_eq (tgt := 50) hx hb dX5_reduce_36 (by decide) (fun c_36 => ?_) (fun c_36 => absurd (by decide) c_36)
    refine lv_lconst (v := 0) hx hb dX5_reduce_50 (by decide) ?_
    refine kV (rSN hx hb hml hown hg hN hK hP hD (c_putL l D cI cJ cZ (XW ad cI cJ 0 b u_1.1 u_1.2 ++ R) 24 (ad 24) 40 (fun _ => 0) (nI i) 0 rfl (by decide)) mw_119 nw_85 mw_120 mw_110 pd_X7_put_ ⟨Nat.le_of_ble_eq_true rfl, Nat.le_of_ble_eq_true rfl⟩ rfl hl.1 rfl (Nat.le_of_ble_eq_true rfl) dX5_reduce_51 ⟨Nat.le_of_ble_eq_true rfl, Nat.le_of_ble_eq_true rfl⟩) hD hS hA (fun u_7 H locs hp hP hD hS => ?_)
    obtain ⟨f_8, rfl, hp1, hp2⟩ := hp
    obtain rfl : f_8 = (fun _ => 0) := putcL rfl hp1 hp2
    have hP : va_P D vwCl (XW ad cI cJ 0 b u_1.1 u_1.2 ++ R) H := hP
    have hD : va_D A (XW ad cI cJ 0 b u_1.1 u_1.2 ++ R) := hD
    refine lv_aload_n hx hb dX5_reduce_54 rfl (lv_at hl 1 rfl) ?_
    refine va_get (D := D) (ci := 5) (v := .ref (ad 25)) (C := RX5) (T := TX5) (N := 8) hx hb hg inGX5 hown hK hP 5 rfl rfl 1 (by decide) (hg _ mw_167) (fun _ h9 => h9) rfl dX5_reduce_55 ?_
    refine lv_iload_n hx hb dX5_reduce_58 rfl (lv_at hl 3 rfl) ?_
    refine lv_iload_n hx hb dX5_reduce_59 rfl (lv_at hl 0 rfl) ?_
    refine lv_if_eq (tgt := 67) hx hb dX5_reduce_60 (by decide) (fun c_60 => ?_) (fun c_60 => absurd (by decide) c_60)
    refine lv_iconst (v := (-1)) hx hb dX5_reduce_67 (by decide) ?_
    refine kV (rSN hx hb hml hown hg hN hK hP hD (c_put l D cI cJ cZ (XW ad cI cJ 0 b u_1.1 u_1.2 ++ R) 25 (ad 25) 40 (u_1.1 25) (nI i) (-1) rfl (by decide)) mw_108 nw_86 mw_109 mw_110 pd_X7_put ⟨Nat.le_of_ble_eq_true rfl, Nat.le_of_ble_eq_true rfl⟩ rfl hl.1 rfl (Nat.le_of_ble_eq_true rfl) dX5_reduce_68 ⟨Nat.le_of_ble_eq_true rfl, Nat.le_of_ble_eq_true rfl⟩) hD hS hA (fun u_9 H locs hp hP hD hS => ?_)
    obtain ⟨f_10, rfl, hp1, hp2⟩ := hp
    have hP : va_P D vwCl (XW ad cI cJ 0 b (va_up u_1.1 25 f_10) u_1.2 ++ R) H := hP
    have hD : va_D A (XW ad cI cJ 0 b (va_up u_1.1 25 f_10) u_1.2 ++ R) := hD
    refine lv_iinc (v := nI (i + 1)) (lv' := [(2, .int (nI (i + 1))), (3, .int 0), (0, .ref (ad 5)), (1, .ref (ad 2))]) hx hb dX5_reduce_71 hl (k := 3) rfl (nI_1 i) (by decide) rfl (fun ls hl => ?_)
    refine lv_goto (tgt := 15) hx hb dX5_reduce_74 (by decide) ?_
    exact ih ((va_up u_1.1 25 f_10), u_1.2) H locs ls ⟨trivial, hP, hD, hS, lv_sub hl [2, 3, 0] rfl⟩
end
section
theorem dX6_goThrough_0 : decode cX6_goThrough 0 = .ok (.aload_n 0, 1) := by decide +kernel
theorem dX6_goThrough_1 : decode cX6_goThrough 1 = .ok (.iconst 0, 1) := by decide +kernel
theorem dX6_goThrough_2 : decode cX6_goThrough 2 = .ok (.putfield 27, 3) := by decide +kernel
theorem dX6_goThrough_5 : decode cX6_goThrough 5 = .ok (.aload_n 0, 1) := by decide +kernel
theorem dX6_goThrough_6 : decode cX6_goThrough 6 = .ok (.iconst 0, 1) := by decide +kernel
theorem dX6_goThrough_7 : decode cX6_goThrough 7 = .ok (.putfield 31, 3) := by decide +kernel
theorem dX6_goThrough_10 : decode cX6_goThrough 10 = .ok (.aload_n 0, 1) := by decide +kernel
theorem dX6_goThrough_11 : decode cX6_goThrough 11 = .ok (.lconst 0, 1) := by decide +kernel
theorem dX6_goThrough_12 : decode cX6_goThrough 12 = .ok (.putfield 34, 3) := by decide +kernel
theorem dX6_goThrough_15 : decode cX6_goThrough 15 = .ok (.aload_n 0, 1) := by decide +kernel
theorem dX6_goThrough_16 : decode cX6_goThrough 16 = .ok (.lconst 0, 1) := by decide +kernel
theorem dX6_goThrough_17 : decode cX6_goThrough 17 = .ok (.putfield 38, 3) := by decide +kernel
theorem dX6_goThrough_20 : decode cX6_goThrough 20 = .ok (.iconst 0, 1) := by decide +kernel
theorem dX6_goThrough_21 : decode cX6_goThrough 21 = .ok (.istore_n 2, 1) := by decide +kernel
theorem dX6_goThrough_22 : decode cX6_goThrough 22 = .ok (.iload_n 2, 1) := by decide +kernel
theorem dX6_goThrough_23 : decode cX6_goThrough 23 = .ok (.bipush 80, 2) := by decide +kernel
theorem dX6_goThrough_25 : decode cX6_goThrough 25 = .ok (.if_icmp .ge 27, 3) := by decide +kernel
theorem dX6_goThrough_28 : decode cX6_goThrough 28 = .ok (.aload_n 0, 1) := by decide +kernel
theorem dX6_goThrough_29 : decode cX6_goThrough 29 = .ok (.getfield 15, 3) := by decide +kernel
theorem dX6_goThrough_32 : decode cX6_goThrough 32 = .ok (.iload_n 2, 1) := by decide +kernel
theorem dX6_goThrough_33 : decode cX6_goThrough 33 = .ok (.iconst (-1), 1) := by decide +kernel
theorem dX6_goThrough_34 : decode cX6_goThrough 34 = .ok (.invokestatic 41, 3) := by decide +kernel
theorem dX6_goThrough_37 : decode cX6_goThrough 37 = .ok (.aload_n 0, 1) := by decide +kernel
theorem dX6_goThrough_38 : decode cX6_goThrough 38 = .ok (.getfield 18, 3) := by decide +kernel
theorem dX6_goThrough_41 : decode cX6_goThrough 41 = .ok (.iload_n 2, 1) := by decide +kernel
theorem dX6_goThrough_42 : decode cX6_goThrough 42 = .ok (.iconst (-1), 1) := by decide +kernel
theorem dX6_goThrough_43 : decode cX6_goThrough 43 = .ok (.invokestatic 41, 3) := by decide +kernel
theorem dX6_goThrough_46 : decode cX6_goThrough 46 = .ok (.iinc 2 1, 3) := by decide +kernel
theorem dX6_goThrough_49 : decode cX6_goThrough 49 = .ok (.goto (-27), 3) := by decide +kernel
theorem dX6_goThrough_52 : decode cX6_goThrough 52 = .ok (.aload_n 1, 1) := by decide +kernel
theorem dX6_goThrough_53 : decode cX6_goThrough 53 = .ok (.getfield 45, 3) := by decide +kernel
theorem dX6_goThrough_56 : decode cX6_goThrough 56 = .ok (.ifCond .le 9, 3) := by decide +kernel
theorem dX6_goThrough_65 : decode cX6_goThrough 65 = .ok (.iconst 0, 1) := by decide +kernel
theorem dX6_goThrough_66 : decode cX6_goThrough 66 = .ok (.istore_n 2, 1) := by decide +kernel
theorem dX6_goThrough_67 : decode cX6_goThrough 67 = .ok (.iload_n 2, 1) := by decide +kernel
theorem dX6_goThrough_68 : decode cX6_goThrough 68 = .ok (.bipush 120, 2) := by decide +kernel
theorem dX6_goThrough_70 : decode cX6_goThrough 70 = .ok (.if_icmp .ge 34, 3) := by decide +kernel
theorem dX6_goThrough_73 : decode cX6_goThrough 73 = .ok (.aload_n 0, 1) := by decide +kernel
theorem dX6_goThrough_74 : decode cX6_goThrough 74 = .ok (.getfield 31, 3) := by decide +kernel
theorem dX6_goThrough_77 : decode cX6_goThrough 77 = .ok (.ifCond .le 27, 3) := by decide +kernel
theorem dX6_goThrough_104 : decode cX6_goThrough 104 = .ok (.return_, 1) := by decide +kernel
theorem dX3_pushDown_0 : decode cX3_pushDown 0 = .ok (.iconst 0, 1) := by decide +kernel
theorem dX3_pushDown_1 : decode cX3_pushDown 1 = .ok (.istore_n 1, 1) := by decide +kernel
theorem dX3_pushDown_2 : decode cX3_pushDown 2 = .ok (.iconst 0, 1) := by decide +kernel
theorem dX3_pushDown_3 : decode cX3_pushDown 3 = .ok (.istore_n 2, 1) := by decide +kernel
theorem dX3_pushDown_4 : decode cX3_pushDown 4 = .ok (.iload_n 2, 1) := by decide +kernel
theorem dX3_pushDown_5 : decode cX3_pushDown 5 = .ok (.aload_n 0, 1) := by decide +kernel
theorem dX3_pushDown_6 : decode cX3_pushDown 6 = .ok (.getfield 58, 3) := by decide +kernel
theorem dX3_pushDown_9 : decode cX3_pushDown 9 = .ok (.if_icmp .ge 73, 3) := by decide +kernel
theorem dX3_pushDown_82 : decode cX3_pushDown 82 = .ok (.iload_n 1, 1) := by decide +kernel
theorem dX3_pushDown_83 : decode cX3_pushDown 83 = .ok (.ireturn, 1) := by decide +kernel
theorem dX3_setLayers_0 : decode cX3_setLayers 0 = .ok (.iconst 0, 1) := by decide +kernel
theorem dX3_setLayers_1 : decode cX3_setLayers 1 = .ok (.istore_n 1, 1) := by decide +kernel
theorem dX3_setLayers_2 : decode cX3_setLayers 2 = .ok (.iload_n 1, 1) := by decide +kernel
theorem dX3_setLayers_3 : decode cX3_setLayers 3 = .ok (.bipush 40, 2) := by decide +kernel
theorem dX3_setLayers_5 : decode cX3_setLayers 5 = .ok (.if_icmp .ge 36, 3) := by decide +kernel
theorem dX3_setLayers_8 : decode cX3_setLayers 8 = .ok (.aload_n 0, 1) := by decide +kernel
theorem dX3_setLayers_9 : decode cX3_setLayers 9 = .ok (.getfield 18, 3) := by decide +kernel
theorem dX3_setLayers_12 : decode cX3_setLayers 12 = .ok (.iload_n 1, 1) := by decide +kernel
theorem dX3_setLayers_13 : decode cX3_setLayers 13 = .ok (.aload_n 0, 1) := by decide +kernel
theorem dX3_setLayers_14 : decode cX3_setLayers 14 = .ok (.getfield 12, 3) := by decide +kernel
theorem dX3_setLayers_17 : decode cX3_setLayers 17 = .ok (.getfield 83, 3) := by decide +kernel
theorem dX3_setLayers_20 : decode cX3_setLayers 20 = .ok (.iload_n 1, 1) := by decide +kernel
theorem dX3_setLayers_21 : decode cX3_setLayers 21 = .ok (.invokestatic 87, 3) := by decide +kernel
theorem dX3_setLayers_24 : decode cX3_setLayers 24 = .ok (.ifCond .eq 7, 3) := by decide +kernel
theorem dX3_setLayers_31 : decode cX3_setLayers 31 = .ok (.iconst (-1), 1) := by decide +kernel
theorem dX3_setLayers_32 : decode cX3_setLayers 32 = .ok (.invokestatic 75, 3) := by decide +kernel
theorem dX3_setLayers_35 : decode cX3_setLayers 35 = .ok (.iinc 1 1, 3) := by decide +kernel
theorem dX3_setLayers_38 : decode cX3_setLayers 38 = .ok (.goto (-36), 3) := by decide +kernel
theorem dX3_setLayers_41 : decode cX3_setLayers 41 = .ok (.iconst 1, 1) := by decide +kernel
theorem dX3_setLayers_42 : decode cX3_setLayers 42 = .ok (.istore_n 1, 1) := by decide +kernel
theorem dX3_setLayers_43 : decode cX3_setLayers 43 = .ok (.iconst 0, 1) := by decide +kernel
theorem dX3_setLayers_44 : decode cX3_setLayers 44 = .ok (.istore_n 2, 1) := by decide +kernel
theorem dX3_setLayers_45 : decode cX3_setLayers 45 = .ok (.iload_n 2, 1) := by decide +kernel
theorem dX3_setLayers_46 : decode cX3_setLayers 46 = .ok (.bipush 40, 2) := by decide +kernel
theorem dX3_setLayers_48 : decode cX3_setLayers 48 = .ok (.if_icmp .ge 18, 3) := by decide +kernel
theorem dX3_setLayers_51 : decode cX3_setLayers 51 = .ok (.iload_n 1, 1) := by decide +kernel
theorem dX3_setLayers_52 : decode cX3_setLayers 52 = .ok (.ifCond .eq 14, 3) := by decide +kernel
theorem dX3_setLayers_55 : decode cX3_setLayers 55 = .ok (.aload_n 0, 1) := by decide +kernel
theorem dX3_setLayers_56 : decode cX3_setLayers 56 = .ok (.invokevirtual 91, 3) := by decide +kernel
theorem dX3_setLayers_59 : decode cX3_setLayers 59 = .ok (.istore_n 1, 1) := by decide +kernel
theorem dX3_setLayers_60 : decode cX3_setLayers 60 = .ok (.iinc 2 1, 3) := by decide +kernel
theorem dX3_setLayers_63 : decode cX3_setLayers 63 = .ok (.goto (-18), 3) := by decide +kernel
theorem dX3_setLayers_66 : decode cX3_setLayers 66 = .ok (.aload_n 0, 1) := by decide +kernel
theorem dX3_setLayers_67 : decode cX3_setLayers 67 = .ok (.iconst 0, 1) := by decide +kernel
theorem dX3_setLayers_68 : decode cX3_setLayers 68 = .ok (.putfield 72, 3) := by decide +kernel
theorem dX3_setLayers_71 : decode cX3_setLayers 71 = .ok (.iconst 0, 1) := by decide +kernel
theorem dX3_setLayers_72 : decode cX3_setLayers 72 = .ok (.istore_n 2, 1) := by decide +kernel
theorem dX3_setLayers_73 : decode cX3_setLayers 73 = .ok (.iload_n 2, 1) := by decide +kernel
theorem dX3_setLayers_74 : decode cX3_setLayers 74 = .ok (.bipush 40, 2) := by decide +kernel
theorem dX3_setLayers_76 : decode cX3_setLayers 76 = .ok (.if_icmp .ge 30, 3) := by decide +kernel
theorem dX3_setLayers_79 : decode cX3_setLayers 79 = .ok (.aload_n 0, 1) := by decide +kernel
theorem dX3_setLayers_80 : decode cX3_setLayers 80 = .ok (.aload_n 0, 1) := by decide +kernel
theorem dX3_setLayers_81 : decode cX3_setLayers 81 = .ok (.getfield 72, 3) := by decide +kernel
theorem dX3_setLayers_84 : decode cX3_setLayers 84 = .ok (.aload_n 0, 1) := by decide +kernel
theorem dX3_setLayers_85 : decode cX3_setLayers 85 = .ok (.getfield 18, 3) := by decide +kernel
theorem dX3_setLayers_88 : decode cX3_setLayers 88 = .ok (.iload_n 2, 1) := by decide +kernel
theorem dX3_setLayers_89 : decode cX3_setLayers 89 = .ok (.invokestatic 95, 3) := by decide +kernel
theorem dX3_setLayers_92 : decode cX3_setLayers 92 = .ok (.iconst 1, 1) := by decide +kernel
theorem dX3_setLayers_93 : decode cX3_setLayers 93 = .ok (.iadd, 1) := by decide +kernel
theorem dX3_setLayers_94 : decode cX3_setLayers 94 = .ok (.invokestatic 99, 3) := by decide +kernel
theorem dX3_setLayers_97 : decode cX3_setLayers 97 = .ok (.putfield 72, 3) := by decide +kernel
theorem dX3_setLayers_100 : decode cX3_setLayers 100 = .ok (.iinc 2 1, 3) := by decide +kernel
theorem dX3_setLayers_103 : decode cX3_setLayers 103 = .ok (.goto (-30), 3) := by decide +kernel
theorem dX3_setLayers_106 : decode cX3_setLayers 106 = .ok (.return_, 1) := by decide +kernel
theorem dX3_numberBends_0 : decode cX3_numberBends 0 = .ok (.bipush 40, 2) := by decide +kernel
theorem dX3_numberBends_2 : decode cX3_numberBends 2 = .ok (.istore_n 1, 1) := by decide +kernel
theorem dX3_numberBends_3 : decode cX3_numberBends 3 = .ok (.iconst 0, 1) := by decide +kernel
theorem dX3_numberBends_4 : decode cX3_numberBends 4 = .ok (.istore_n 2, 1) := by decide +kernel
theorem dX3_numberBends_5 : decode cX3_numberBends 5 = .ok (.iload_n 2, 1) := by decide +kernel
theorem dX3_numberBends_6 : decode cX3_numberBends 6 = .ok (.aload_n 0, 1) := by decide +kernel
theorem dX3_numberBends_7 : decode cX3_numberBends 7 = .ok (.getfield 58, 3) := by decide +kernel
theorem dX3_numberBends_10 : decode cX3_numberBends 10 = .ok (.if_icmp .ge 51, 3) := by decide +kernel
theorem dX3_numberBends_61 : decode cX3_numberBends 61 = .ok (.return_, 1) := by decide +kernel
theorem dX3_draw_0 : decode cX3_draw 0 = .ok (.aload_n 0, 1) := by decide +kernel
theorem dX3_draw_1 : decode cX3_draw 1 = .ok (.aload_n 1, 1) := by decide +kernel
theorem dX3_draw_2 : decode cX3_draw 2 = .ok (.getfield 52, 3) := by decide +kernel
theorem dX3_draw_5 : decode cX3_draw 5 = .ok (.putfield 58, 3) := by decide +kernel
theorem dX3_draw_8 : decode cX3_draw 8 = .ok (.aload_n 0, 1) := by decide +kernel
theorem dX3_draw_9 : decode cX3_draw 9 = .ok (.iconst 0, 1) := by decide +kernel
theorem dX3_draw_10 : decode cX3_draw 10 = .ok (.putfield 59, 3) := by decide +kernel
theorem dX3_draw_13 : decode cX3_draw 13 = .ok (.aload_n 0, 1) := by decide +kernel
theorem dX3_draw_14 : decode cX3_draw 14 = .ok (.getfield 12, 3) := by decide +kernel
theorem dX3_draw_17 : decode cX3_draw 17 = .ok (.aload_n 1, 1) := by decide +kernel
theorem dX3_draw_18 : decode cX3_draw 18 = .ok (.invokevirtual 62, 3) := by decide +kernel
theorem dX3_draw_21 : decode cX3_draw 21 = .ok (.aload_n 0, 1) := by decide +kernel
theorem dX3_draw_22 : decode cX3_draw 22 = .ok (.invokevirtual 66, 3) := by decide +kernel
theorem dX3_draw_25 : decode cX3_draw 25 = .ok (.aload_n 0, 1) := by decide +kernel
theorem dX3_draw_26 : decode cX3_draw 26 = .ok (.invokevirtual 69, 3) := by decide +kernel
theorem dX3_draw_29 : decode cX3_draw 29 = .ok (.iconst 0, 1) := by decide +kernel
theorem dX3_draw_30 : decode cX3_draw 30 = .ok (.istore_n 2, 1) := by decide +kernel
theorem dX3_draw_31 : decode cX3_draw 31 = .ok (.iconst 0, 1) := by decide +kernel
theorem dX3_draw_32 : decode cX3_draw 32 = .ok (.istore_n 3, 1) := by decide +kernel
theorem dX3_draw_33 : decode cX3_draw 33 = .ok (.iload_n 3, 1) := by decide +kernel
theorem dX3_draw_34 : decode cX3_draw 34 = .ok (.aload_n 0, 1) := by decide +kernel
theorem dX3_draw_35 : decode cX3_draw 35 = .ok (.getfield 72, 3) := by decide +kernel
theorem dX3_draw_38 : decode cX3_draw 38 = .ok (.if_icmp .ge 25, 3) := by decide +kernel
theorem dX3_draw_63 : decode cX3_draw 63 = .ok (.aload_n 0, 1) := by decide +kernel
theorem dX3_draw_64 : decode cX3_draw 64 = .ok (.getfield 22, 3) := by decide +kernel
theorem dX3_draw_67 : decode cX3_draw 67 = .ok (.aload_n 0, 1) := by decide +kernel
theorem dX3_draw_68 : decode cX3_draw 68 = .ok (.getfield 72, 3) := by decide +kernel
theorem dX3_draw_71 : decode cX3_draw 71 = .ok (.iload_n 2, 1) := by decide +kernel
theorem dX3_draw_72 : decode cX3_draw 72 = .ok (.invokestatic 75, 3) := by decide +kernel
theorem dX3_draw_75 : decode cX3_draw 75 = .ok (.return_, 1) := by decide +kernel
theorem dX7_freshLives_0 : decode cX7_freshLives 0 = .ok (.aload_n 0, 1) := by decide +kernel
theorem dX7_freshLives_1 : decode cX7_freshLives 1 = .ok (.getfield 33, 3) := by decide +kernel
theorem dX7_freshLives_4 : decode cX7_freshLives 4 = .ok (.getfield 119, 3) := by decide +kernel
theorem dX7_freshLives_7 : decode cX7_freshLives 7 = .ok (.ifCond .ne 26, 3) := by decide +kernel
theorem dX7_freshLives_10 : decode cX7_freshLives 10 = .ok (.aload_n 0, 1) := by decide +kernel
theorem dX7_freshLives_11 : decode cX7_freshLives 11 = .ok (.getfield 33, 3) := by decide +kernel
theorem dX7_freshLives_14 : decode cX7_freshLives 14 = .ok (.aload_n 0, 1) := by decide +kernel
theorem dX7_freshLives_15 : decode cX7_freshLives 15 = .ok (.getfield 10, 3) := by decide +kernel
theorem dX7_freshLives_18 : decode cX7_freshLives 18 = .ok (.aload_n 0, 1) := by decide +kernel
theorem dX7_freshLives_19 : decode cX7_freshLives 19 = .ok (.invokevirtual 123, 3) := by decide +kernel
theorem dX7_freshLives_22 : decode cX7_freshLives 22 = .ok (.invokevirtual 345, 3) := by decide +kernel
theorem dX7_freshLives_25 : decode cX7_freshLives 25 = .ok (.aload_n 0, 1) := by decide +kernel
theorem dX7_freshLives_26 : decode cX7_freshLives 26 = .ok (.getfield 33, 3) := by decide +kernel
theorem dX7_freshLives_29 : decode cX7_freshLives 29 = .ok (.iconst 1, 1) := by decide +kernel
theorem dX7_freshLives_30 : decode cX7_freshLives 30 = .ok (.putfield 119, 3) := by decide +kernel
theorem dX7_freshLives_33 : decode cX7_freshLives 33 = .ok (.aload_n 0, 1) := by decide +kernel
theorem dX7_freshLives_34 : decode cX7_freshLives 34 = .ok (.getfield 33, 3) := by decide +kernel
theorem dX7_freshLives_37 : decode cX7_freshLives 37 = .ok (.areturn, 1) := by decide +kernel
theorem dX7_freshReduction_0 : decode cX7_freshReduction 0 = .ok (.aload_n 0, 1) := by decide +kernel
theorem dX7_freshReduction_1 : decode cX7_freshReduction 1 = .ok (.getfield 40, 3) := by decide +kernel
theorem dX7_freshReduction_4 : decode cX7_freshReduction 4 = .ok (.getfield 335, 3) := by decide +kernel
theorem dX7_freshReduction_7 : decode cX7_freshReduction 7 = .ok (.ifCond .ne 22, 3) := by decide +kernel
theorem dX7_freshReduction_10 : decode cX7_freshReduction 10 = .ok (.aload_n 0, 1) := by decide +kernel
theorem dX7_freshReduction_11 : decode cX7_freshReduction 11 = .ok (.getfield 40, 3) := by decide +kernel
theorem dX7_freshReduction_14 : decode cX7_freshReduction 14 = .ok (.aload_n 0, 1) := by decide +kernel
theorem dX7_freshReduction_15 : decode cX7_freshReduction 15 = .ok (.invokevirtual 123, 3) := by decide +kernel
theorem dX7_freshReduction_18 : decode cX7_freshReduction 18 = .ok (.invokevirtual 349, 3) := by decide +kernel
theorem dX7_freshReduction_21 : decode cX7_freshReduction 21 = .ok (.aload_n 0, 1) := by decide +kernel
theorem dX7_freshReduction_22 : decode cX7_freshReduction 22 = .ok (.getfield 40, 3) := by decide +kernel
theorem dX7_freshReduction_25 : decode cX7_freshReduction 25 = .ok (.iconst 1, 1) := by decide +kernel
theorem dX7_freshReduction_26 : decode cX7_freshReduction 26 = .ok (.putfield 335, 3) := by decide +kernel
theorem dX7_freshReduction_29 : decode cX7_freshReduction 29 = .ok (.aload_n 0, 1) := by decide +kernel
theorem dX7_freshReduction_30 : decode cX7_freshReduction 30 = .ok (.getfield 40, 3) := by decide +kernel
theorem dX7_freshReduction_33 : decode cX7_freshReduction 33 = .ok (.areturn, 1) := by decide +kernel
theorem dX7_freshPicture_0 : decode cX7_freshPicture 0 = .ok (.aload_n 0, 1) := by decide +kernel
theorem dX7_freshPicture_1 : decode cX7_freshPicture 1 = .ok (.getfield 47, 3) := by decide +kernel
theorem dX7_freshPicture_4 : decode cX7_freshPicture 4 = .ok (.getfield 336, 3) := by decide +kernel
theorem dX7_freshPicture_7 : decode cX7_freshPicture 7 = .ok (.ifCond .ne 22, 3) := by decide +kernel
theorem dX7_freshPicture_10 : decode cX7_freshPicture 10 = .ok (.aload_n 0, 1) := by decide +kernel
theorem dX7_freshPicture_11 : decode cX7_freshPicture 11 = .ok (.getfield 47, 3) := by decide +kernel
theorem dX7_freshPicture_14 : decode cX7_freshPicture 14 = .ok (.aload_n 0, 1) := by decide +kernel
theorem dX7_freshPicture_15 : decode cX7_freshPicture 15 = .ok (.invokevirtual 123, 3) := by decide +kernel
theorem dX7_freshPicture_18 : decode cX7_freshPicture 18 = .ok (.invokevirtual 352, 3) := by decide +kernel
theorem dX7_freshPicture_21 : decode cX7_freshPicture 21 = .ok (.aload_n 0, 1) := by decide +kernel
theorem dX7_freshPicture_22 : decode cX7_freshPicture 22 = .ok (.getfield 47, 3) := by decide +kernel
theorem dX7_freshPicture_25 : decode cX7_freshPicture 25 = .ok (.iconst 1, 1) := by decide +kernel
theorem dX7_freshPicture_26 : decode cX7_freshPicture 26 = .ok (.putfield 336, 3) := by decide +kernel
theorem dX7_freshPicture_29 : decode cX7_freshPicture 29 = .ok (.aload_n 0, 1) := by decide +kernel
theorem dX7_freshPicture_30 : decode cX7_freshPicture 30 = .ok (.getfield 47, 3) := by decide +kernel
theorem dX7_freshPicture_33 : decode cX7_freshPicture 33 = .ok (.areturn, 1) := by decide +kernel
theorem mw_168 : Cond.fieldLink RX6 27 "OrielChart$Walk" "cameCount" "I" ∈ GW := gw_mem (inT1 _ (List.mem_of_getElem? (i := 233) rfl)) rfl
theorem mw_169 : Cond.fieldLink RX6 31 "OrielChart$Walk" "openCount" "I" ∈ GW := gw_mem (inT1 _ (List.mem_of_getElem? (i := 235) rfl)) rfl
theorem mw_170 : Cond.fieldLink RX6 34 "OrielChart$Walk" "seen" "J" ∈ GW := gw_mem (inT1 _ (List.mem_of_getElem? (i := 236) rfl)) rfl
theorem mw_171 : Cond.fieldLink RX6 38 "OrielChart$Walk" "stillGoing" "J" ∈ GW := gw_mem (inT1 _ (List.mem_of_getElem? (i := 238) rfl)) rfl
theorem mw_172 : Cond.fieldLink RX6 15 "OrielChart$Walk" "upper" "[I" ∈ GW := gw_mem (inT1 _ (List.mem_of_getElem? (i := 227) rfl)) rfl
theorem mw_173 : Cond.fieldLink RX6 18 "OrielChart$Walk" "lower" "[I" ∈ GW := gw_mem (inT1 _ (List.mem_of_getElem? (i := 229) rfl)) rfl
theorem mw_174 : Cond.fieldLink RX3 58 "OrielChart$Picture" "edgeCount" "I" ∈ GW := gw_mem (inT2 _ (List.mem_of_getElem? (i := 32) rfl)) rfl
theorem mw_175 : Cond.code yX3_pushDown cX3_pushDown 3 (some Jvm.ClassFile.FieldType.boolean) ∈ GW := gw_mem (inT3 _ (List.mem_of_getElem? (i := 94) rfl)) rfl
theorem mw_176 : Cond.methodLink RX3 91 yX3_pushDown ∈ GW := gw_mem (inT3 _ (List.mem_of_getElem? (i := 91) rfl)) rfl
theorem mw_177 : Cond.instanceMethod yX3_pushDown ∈ GW := gw_mem (inT3 _ (List.mem_of_getElem? (i := 93) rfl)) rfl
theorem mw_178 : Cond.selects RX3 yX3_pushDown yX3_pushDown ∈ GW := gw_mem (inTp (q := (yX3_pushDown, 16)) (List.mem_of_getElem? (i := 23) rfl)) rfl
theorem mw_179 : Cond.initialized RX3 ∈ GW := gw_mem (inT1 _ (List.mem_of_getElem? (i := 7) rfl)) rfl
theorem mw_180 : Cond.fieldLink RX3 72 "OrielChart$Picture" "layerCount" "I" ∈ GW := gw_mem (inT2 _ (List.mem_of_getElem? (i := 33) rfl)) rfl
theorem mw_181 : Cond.fieldLink RX3 18 "OrielChart$Picture" "layer" "[I" ∈ GW := gw_mem (inT2 _ (List.mem_of_getElem? (i := 20) rfl)) rfl
theorem mw_182 : Cond.code yX7_at cX7_at 2 (some Jvm.ClassFile.FieldType.int) ∈ GW := gw_mem (inT2 _ (List.mem_of_getElem? (i := 111) rfl)) rfl
theorem mw_183 : Cond.static yX7_at ∈ GW := gw_mem (inT2 _ (List.mem_of_getElem? (i := 110) rfl)) rfl
theorem mw_184 : Cond.methodLink RX3 99 Lib.Math.max.name ∈ GW := gw_mem (inT3 _ (List.mem_of_getElem? (i := 104) rfl)) rfl
theorem mw_185 : Cond.static Lib.Math.max.name ∈ GW := gw_mem (inT3 _ (List.mem_of_getElem? (i := 105) rfl)) rfl
theorem mw_186 : Cond.initialized "java/lang/Math" ∈ GW := gw_mem (inT1 _ (List.mem_of_getElem? (i := 15) rfl)) rfl
theorem mw_187 : Cond.code Lib.Math.max.name Lib.Math.max.code 2 (some .int) ∈ GW := gw_mem (inT3 _ (List.mem_of_getElem? (i := 106) rfl)) rfl
theorem mw_188 : Cond.fieldLink RX3 12 "OrielChart$Picture" "walk" "LOrielChart$Walk;" ∈ GW := gw_mem (inT2 _ (List.mem_of_getElem? (i := 18) rfl)) rfl
theorem mw_189 : Cond.fieldLink RX3 59 "OrielChart$Picture" "sweeps" "I" ∈ GW := gw_mem (inT2 _ (List.mem_of_getElem? (i := 35) rfl)) rfl
theorem mw_190 : Cond.code yX6_goThrough cX6_goThrough 3 (none : Option FieldType) ∈ GW := gw_mem (inT3 _ (List.mem_of_getElem? (i := 71) rfl)) rfl
theorem mw_191 : Cond.methodLink RX3 62 yX6_goThrough ∈ GW := gw_mem (inT3 _ (List.mem_of_getElem? (i := 68) rfl)) rfl
theorem mw_192 : Cond.instanceMethod yX6_goThrough ∈ GW := gw_mem (inT3 _ (List.mem_of_getElem? (i := 69) rfl)) rfl
theorem mw_193 : Cond.selects RX6 yX6_goThrough yX6_goThrough ∈ GW := gw_mem (inT3 _ (List.mem_of_getElem? (i := 70) rfl)) rfl
theorem mw_194 : Cond.initialized RX6 ∈ GW := gw_mem (inT1 _ (List.mem_of_getElem? (i := 8) rfl)) rfl
theorem mw_195 : Cond.code yX3_setLayers cX3_setLayers 3 (none : Option FieldType) ∈ GW := gw_mem (inT3 _ (List.mem_of_getElem? (i := 88) rfl)) rfl
theorem mw_196 : Cond.methodLink RX3 66 yX3_setLayers ∈ GW := gw_mem (inT3 _ (List.mem_of_getElem? (i := 85) rfl)) rfl
theorem mw_197 : Cond.instanceMethod yX3_setLayers ∈ GW := gw_mem (inT3 _ (List.mem_of_getElem? (i := 87) rfl)) rfl
theorem mw_198 : Cond.selects RX3 yX3_setLayers yX3_setLayers ∈ GW := gw_mem (inTp (q := (yX3_setLayers, 16)) (List.mem_of_getElem? (i := 22) rfl)) rfl
theorem mw_199 : Cond.code yX3_numberBends cX3_numberBends 5 (none : Option FieldType) ∈ GW := gw_mem (inT3 _ (List.mem_of_getElem? (i := 110) rfl)) rfl
theorem mw_200 : Cond.methodLink RX3 69 yX3_numberBends ∈ GW := gw_mem (inT3 _ (List.mem_of_getElem? (i := 107) rfl)) rfl
theorem mw_201 : Cond.instanceMethod yX3_numberBends ∈ GW := gw_mem (inT3 _ (List.mem_of_getElem? (i := 109) rfl)) rfl
theorem mw_202 : Cond.selects RX3 yX3_numberBends yX3_numberBends ∈ GW := gw_mem (inTp (q := (yX3_numberBends, 16)) (List.mem_of_getElem? (i := 25) rfl)) rfl
theorem mw_203 : Cond.fieldLink RX3 22 "OrielChart$Picture" "start" "[I" ∈ GW := gw_mem (inT2 _ (List.mem_of_getElem? (i := 22) rfl)) rfl
theorem mw_204 : Cond.fieldLink RX7 33 "OrielChart" "lives" "LOrielChart$Lives;" ∈ GW := gw_mem (inT2 _ (List.mem_of_getElem? (i := 74) rfl)) rfl
theorem mw_205 : Cond.code yX2_follow cX2_follow 5 (none : Option FieldType) ∈ GW := gw_mem (inT2 _ (List.mem_of_getElem? (i := 210) rfl)) rfl
theorem mw_206 : Cond.methodLink RX7 345 yX2_follow ∈ GW := gw_mem (inT2 _ (List.mem_of_getElem? (i := 207) rfl)) rfl
theorem mw_207 : Cond.instanceMethod yX2_follow ∈ GW := gw_mem (inT2 _ (List.mem_of_getElem? (i := 208) rfl)) rfl
theorem mw_208 : Cond.selects RX2 yX2_follow yX2_follow ∈ GW := gw_mem (inT2 _ (List.mem_of_getElem? (i := 209) rfl)) rfl
theorem mw_209 : Cond.fieldLink RX7 40 "OrielChart" "reduction" "LOrielChart$Reduction;" ∈ GW := gw_mem (inT2 _ (List.mem_of_getElem? (i := 75) rfl)) rfl
theorem mw_210 : Cond.code yX5_reduce cX5_reduce 4 (none : Option FieldType) ∈ GW := gw_mem (inT3 _ (List.mem_of_getElem? (i := 10) rfl)) rfl
theorem mw_211 : Cond.methodLink RX7 349 yX5_reduce ∈ GW := gw_mem (inT3 _ (List.mem_of_getElem? (i := 7) rfl)) rfl
theorem mw_212 : Cond.instanceMethod yX5_reduce ∈ GW := gw_mem (inT3 _ (List.mem_of_getElem? (i := 8) rfl)) rfl
theorem mw_213 : Cond.selects RX5 yX5_reduce yX5_reduce ∈ GW := gw_mem (inT3 _ (List.mem_of_getElem? (i := 9) rfl)) rfl
theorem mw_214 : Cond.fieldLink RX7 47 "OrielChart" "picture" "LOrielChart$Picture;" ∈ GW := gw_mem (inT2 _ (List.mem_of_getElem? (i := 76) rfl)) rfl
theorem mw_215 : Cond.code yX3_draw cX3_draw 4 (none : Option FieldType) ∈ GW := gw_mem (inT3 _ (List.mem_of_getElem? (i := 67) rfl)) rfl
theorem mw_216 : Cond.methodLink RX7 352 yX3_draw ∈ GW := gw_mem (inT3 _ (List.mem_of_getElem? (i := 64) rfl)) rfl
theorem mw_217 : Cond.instanceMethod yX3_draw ∈ GW := gw_mem (inT3 _ (List.mem_of_getElem? (i := 65) rfl)) rfl
theorem mw_218 : Cond.selects RX3 yX3_draw yX3_draw ∈ GW := gw_mem (inT3 _ (List.mem_of_getElem? (i := 66) rfl)) rfl
theorem pdv_X3_pushDown : yX3_pushDown.cls = RX3 ∧ yX3_pushDown.cls ≠ "java/lang/invoke/MethodHandle" ∧ yX3_pushDown.cls ≠ "java/lang/invoke/VarHandle" ∧ (parseMethodDescriptor yX3_pushDown.desc).map (fun d => d.parameters.length) = some 0 := by decide +kernel
theorem pd_X7_at : yX7_at.cls ≠ "java/lang/invoke/MethodHandle" ∧ yX7_at.cls ≠ "java/lang/invoke/VarHandle" ∧ (parseMethodDescriptor yX7_at.desc).map (fun d => d.parameters.length) = some 2 := by decide +kernel
theorem pdv_X6_goThrough : yX6_goThrough.cls = RX6 ∧ yX6_goThrough.cls ≠ "java/lang/invoke/MethodHandle" ∧ yX6_goThrough.cls ≠ "java/lang/invoke/VarHandle" ∧ (parseMethodDescriptor yX6_goThrough.desc).map (fun d => d.parameters.length) = some 1 := by decide +kernel
theorem pdv_X3_setLayers : yX3_setLayers.cls = RX3 ∧ yX3_setLayers.cls ≠ "java/lang/invoke/MethodHandle" ∧ yX3_setLayers.cls ≠ "java/lang/invoke/VarHandle" ∧ (parseMethodDescriptor yX3_setLayers.desc).map (fun d => d.parameters.length) = some 0 := by decide +kernel
theorem pdv_X3_numberBends : yX3_numberBends.cls = RX3 ∧ yX3_numberBends.cls ≠ "java/lang/invoke/MethodHandle" ∧ yX3_numberBends.cls ≠ "java/lang/invoke/VarHandle" ∧ (parseMethodDescriptor yX3_numberBends.desc).map (fun d => d.parameters.length) = some 0 := by decide +kernel
theorem pdv_X2_follow : yX2_follow.cls = RX2 ∧ yX2_follow.cls ≠ "java/lang/invoke/MethodHandle" ∧ yX2_follow.cls ≠ "java/lang/invoke/VarHandle" ∧ (parseMethodDescriptor yX2_follow.desc).map (fun d => d.parameters.length) = some 2 := by decide +kernel
theorem pdv_X5_reduce : yX5_reduce.cls = RX5 ∧ yX5_reduce.cls ≠ "java/lang/invoke/MethodHandle" ∧ yX5_reduce.cls ≠ "java/lang/invoke/VarHandle" ∧ (parseMethodDescriptor yX5_reduce.desc).map (fun d => d.parameters.length) = some 1 := by decide +kernel
theorem pdv_X3_draw : yX3_draw.cls = RX3 ∧ yX3_draw.cls ≠ "java/lang/invoke/MethodHandle" ∧ yX3_draw.cls ≠ "java/lang/invoke/VarHandle" ∧ (parseMethodDescriptor yX3_draw.desc).map (fun d => d.parameters.length) = some 1 := by decide +kernel
theorem lay_step {f f9 : Nat → Int32} {i : Nat} (hi : i < 40) (hF : ∀ j, j < i → f j = -1) (h : vp_in (nI i) 40 → f9 = upd f (nI i).toNatClampNeg (-1)) : ∀ j, j < i + 1 → f9 j = -1 := by
  intro j hj
  rw [h (vp_in_nI hi (by decide)), nI_clamp (by omega)]
  by_cases hji : j = i
  · rw [hji]; exact pk_us
  · rw [pk_un hji]; exact hF j (by omega)
set_option maxHeartbeats 4000000 in
set_option maxRecDepth 100000 in
theorem c_goThrough (l : Launch) (D : va_G) (cI cJ cZ : ClassId) (ad : Nat → Nat) (b : Nat → Int32) (F : Nat → Nat → Int32) (G : Nat → Nat → Int64) (R : va_W) : CT l D (TY cI cJ cZ) yX6_goThrough (.code yX6_goThrough cX6_goThrough 3 (none : Option FieldType)) 1 0 0 (XW ad cI cJ 0 b F G ++ R) [.ref (ad 7), .ref (ad 2)] (QV D (TY cI cJ cZ) (fun u => ∃ F' G', u = XW ad cI cJ 0 b F' G' ++ R)) := by
  refine ent (by decide) (Nat.le_of_ble_eq_true rfl) ?_
  intro p e s m below meth c ls A hx hb hr hg hown hml hlocks hnm hP hK hD hS hA hN hl
  have hl : lv_has ls 3 [(0, .ref (ad 7)), (1, .ref (ad 2))] := hl
  refine lv_aload_n hx hb dX6_goThrough_0 rfl (lv_at hl 0 rfl) ?_
  refine lv_iconst (v := 0) hx hb dX6_goThrough_1 (by decide) ?_
  refine va_put (D := D) (ci := 6) (v := .int 0) (C := RX6) (T := TX6) (N := 9) hx hb hg inGX6 tyX6 tyX6_ok nmX6 hown hK hP hD hS 7 rfl rfl 5 (by decide) (hg _ mw_168) (fun _ h9 => h9) rfl (tyX6_ok 5 (by decide)) rfl rfl (Nat.le_of_ble_eq_true rfl) dX6_goThrough_2 (fun H locs hP hD hS => ?_)
  have hP : va_P D vwCl (XW ad cI cJ 0 b F G ++ R) H := hP
  have hD : va_D A (XW ad cI cJ 0 b F G ++ R) := hD
  refine lv_aload_n hx hb dX6_goThrough_5 rfl (lv_at hl 0 rfl) ?_
  refine lv_iconst (v := 0) hx hb dX6_goThrough_6 (by decide) ?_
  refine va_put (D := D) (ci := 6) (v := .int 0) (C := RX6) (T := TX6) (N := 9) hx hb hg inGX6 tyX6 tyX6_ok nmX6 hown hK hP hD hS 7 rfl rfl 6 (by decide) (hg _ mw_169) (fun _ h9 => h9) rfl (tyX6_ok 6 (by decide)) rfl rfl (Nat.le_of_ble_eq_true rfl) dX6_goThrough_7 (fun H locs hP hD hS => ?_)
  have hP : va_P D vwCl (XW ad cI cJ 0 b F G ++ R) H := hP
  have hD : va_D A (XW ad cI cJ 0 b F G ++ R) := hD
  refine lv_aload_n hx hb dX6_goThrough_10 rfl (lv_at hl 0 rfl) ?_
  refine lv_lconst (v := 0) hx hb dX6_goThrough_11 (by decide) ?_
  refine va_put (D := D) (ci := 6) (v := .long 0) (C := RX6) (T := TX6) (N := 9) hx hb hg inGX6 tyX6 tyX6_ok nmX6 hown hK hP hD hS 7 rfl rfl 7 (by decide) (hg _ mw_170) (fun _ h9 => h9) rfl (tyX6_ok 7 (by decide)) rfl rfl (Nat.le_of_ble_eq_true rfl) dX6_goThrough_12 (fun H locs hP hD hS => ?_)
  have hP : va_P D vwCl (XW ad cI cJ 0 b F G ++ R) H := hP
  have hD : va_D A (XW ad cI cJ 0 b F G ++ R) := hD
  refine lv_aload_n hx hb dX6_goThrough_15 rfl (lv_at hl 0 rfl) ?_
  refine lv_lconst (v := 0) hx hb dX6_goThrough_16 (by decide) ?_
  refine va_put (D := D) (ci := 6) (v := .long 0) (C := RX6) (T := TX6) (N := 9) hx hb hg inGX6 tyX6 tyX6_ok nmX6 hown hK hP hD hS 7 rfl rfl 8 (by decide) (hg _ mw_171) (fun _ h9 => h9) rfl (tyX6_ok 8 (by decide)) rfl rfl (Nat.le_of_ble_eq_true rfl) dX6_goThrough_17 (fun H locs hP hD hS => ?_)
  have hP : va_P D vwCl (XW ad cI cJ 0 b F G ++ R) H := hP
  have hD : va_D A (XW ad cI cJ 0 b F G ++ R) := hD
  refine lv_iconst (v := 0) hx hb dX6_goThrough_20 (by decide) ?_
  refine lv_istore_n (lv' := [(2, .int 0), (0, .ref (ad 7)), (1, .ref (ad 2))]) hx hb dX6_goThrough_21 rfl hl (by decide) rfl (fun ls hl => ?_)
  -- the loop at 22
  refine w_loop (σ := (Nat → Nat → Int32) × (Nat → Nat → Int64)) (fun (i : Nat) (u_1 : (Nat → Nat → Int32) × (Nat → Nat → Int64)) (H : Heap) (locs : List Loc) (ls : Array Slot) => (True) ∧ va_P D vwCl (XW ad cI cJ 0 b u_1.1 u_1.2 ++ R) H ∧ va_D A (XW ad cI cJ 0 b u_1.1 u_1.2 ++ R) ∧ va_S A s.heap H locs ∧ lv_has ls 3 [(0, .ref (ad 7)), (1, .ref (ad 2)), (2, .int (nI i))]) 80 (fun u_1 H locs ls hI => ?_) (fun i u_1 H locs ls hi hI ih => ?_) 0 (F, G) (Nat.zero_le _) ⟨trivial, hP, hD, hS, by rw [nI_0]; exact lv_sub hl [1, 2, 0] rfl⟩
  · obtain ⟨hF_1, hP, hD, hS, hl⟩ := hI
    have hP : va_P D vwCl (XW ad cI cJ 0 b u_1.1 u_1.2 ++ R) H := hP
    have hD : va_D A (XW ad cI cJ 0 b u_1.1 u_1.2 ++ R) := hD
    have hl : lv_has ls 3 [(0, .ref (ad 7)), (1, .ref (ad 2)), (2, .int (nI 80))] := hl
    refine lv_iload_n hx hb dX6_goThrough_22 rfl (lv_at hl 2 rfl) ?_
    refine lv_bipush (v := 80) hx hb dX6_goThrough_23 (by decide) ?_
    refine lv_icmp_ge (tgt := 52) hx hb dX6_goThrough_25 (by decide) (fun c_25 => ?_) (fun c_25 => absurd (by decide) c_25)
    refine lv_aload_n hx hb dX6_goThrough_52 rfl (lv_at hl 1 rfl) ?_
    refine va_getN (D := D) (ci := 1) (v := .int 0) (C := RX1) (T := TX1) (N := 11) hx hb hg inGX1 hown hK hP 2 rfl rfl 7 (by decide) (hN.use nw_25) (fun _ h9 => h9) rfl dX6_goThrough_53 ?_
    refine lv_if_le (tgt := 65) hx hb dX6_goThrough_56 (by decide) (fun c_56 => ?_) (fun c_56 => absurd (by decide) c_56)
    refine lv_iconst (v := 0) hx hb dX6_goThrough_65 (by decide) ?_
    refine lv_istore_n (lv' := [(2, .int 0), (0, .ref (ad 7)), (1, .ref (ad 2))]) hx hb dX6_goThrough_66 rfl hl (by decide) rfl (fun ls hl => ?_)
    refine lv_iload_n hx hb dX6_goThrough_67 rfl (lv_at hl 0 rfl) ?_
    refine lv_bipush (v := 120) hx hb dX6_goThrough_68 (by decide) ?_
    refine lv_icmp_ge (tgt := 104) hx hb dX6_goThrough_70 (by decide) (fun c_70 => absurd c_70 (by decide)) (fun c_70 => ?_)
    refine lv_aload_n hx hb dX6_goThrough_73 rfl (lv_at hl 1 rfl) ?_
    refine va_get (D := D) (ci := 6) (v := .int 0) (C := RX6) (T := TX6) (N := 9) hx hb hg inGX6 hown hK hP 7 rfl rfl 6 (by decide) (hg _ mw_169) (fun _ h9 => h9) rfl dX6_goThrough_74 ?_
    refine lv_if_le (tgt := 104) hx hb dX6_goThrough_77 (by decide) (fun c_77 => ?_) (fun c_77 => absurd (by decide) c_77)
    exact W.vret hx hb hr (fun t ht hW => ⟨⟨(XW ad cI cJ 0 b u_1.1 u_1.2 ++ R), rfl, ⟨_, _, rfl⟩, ⟨by rw [ht]; exact hP, va_K.moved hW.alike hK, hD⟩⟩, hS.F ht⟩) hS.2.2 dX6_goThrough_104
  · obtain ⟨hF_1, hP, hD, hS, hl⟩ := hI
    have hP : va_P D vwCl (XW ad cI cJ 0 b u_1.1 u_1.2 ++ R) H := hP
    have hD : va_D A (XW ad cI cJ 0 b u_1.1 u_1.2 ++ R) := hD
    have hl : lv_has ls 3 [(0, .ref (ad 7)), (1, .ref (ad 2)), (2, .int (nI i))] := hl
    refine lv_iload_n hx hb dX6_goThrough_22 rfl (lv_at hl 2 rfl) ?_
    refine lv_bipush (v := 80) hx hb dX6_goThrough_23 (by decide) ?_
    refine lv_icmp_ge (tgt := 52) hx hb dX6_goThrough_25 (by decide) (fun c_25 => absurd c_25 (nI_ge hi (by decide))) (fun c_25 => ?_)
    refine lv_aload_n hx hb dX6_goThrough_28 rfl (lv_at hl 0 rfl) ?_
    refine va_get (D := D) (ci := 6) (v := .ref (ad 30)) (C := RX6) (T := TX6) (N := 9) hx hb hg inGX6 hown hK hP 7 rfl rfl 1 (by decide) (hg _ mw_172) (fun _ h9 => h9) rfl dX6_goThrough_29 ?_
    refine lv_iload_n hx hb dX6_goThrough_32 rfl (lv_at hl 2 rfl) ?_
    refine lv_iconst (v := (-1)) hx hb dX6_goThrough_33 (by decide) ?_
    refine kV (rSN hx hb hml hown hg hN hK hP hD (c_put l D cI cJ cZ (XW ad cI cJ 0 b u_1.1 u_1.2 ++ R) 30 (ad 30) 80 (u_1.1 30) (nI i) (-1) rfl (by decide)) mw_108 nw_90 mw_109 mw_110 pd_X7_put ⟨Nat.le_of_ble_eq_true rfl, Nat.le_of_ble_eq_true rfl⟩ rfl hl.1 rfl (Nat.le_of_ble_eq_true rfl) dX6_goThrough_34 ⟨Nat.le_of_ble_eq_true rfl, Nat.le_of_ble_eq_true rfl⟩) hD hS hA (fun u_2 H locs hp hP hD hS => ?_)
    obtain ⟨f_3, rfl, hp1, hp2⟩ := hp
    have hP : va_P D vwCl (XW ad cI cJ 0 b (va_up u_1.1 30 f_3) u_1.2 ++ R) H := hP
    have hD : va_D A (XW ad cI cJ 0 b (va_up u_1.1 30 f_3) u_1.2 ++ R) := hD
    refine lv_aload_n hx hb dX6_goThrough_37 rfl (lv_at hl 0 rfl) ?_
    refine va_get (D := D) (ci := 6) (v := .ref (ad 31)) (C := RX6) (T := TX6) (N := 9) hx hb hg inGX6 hown hK hP 7 rfl rfl 2 (by decide) (hg _ mw_173) (fun _ h9 => h9) rfl dX6_goThrough_38 ?_
    refine lv_iload_n hx hb dX6_goThrough_41 rfl (lv_at hl 2 rfl) ?_
    refine lv_iconst (v := (-1)) hx hb dX6_goThrough_42 (by decide) ?_
    refine kV (rSN hx hb hml hown hg hN hK hP hD (c_put l D cI cJ cZ (XW ad cI cJ 0 b (va_up u_1.1 30 f_3) u_1.2 ++ R) 31 (ad 31) 80 ((va_up u_1.1 30 f_3) 31) (nI i) (-1) rfl (by decide)) mw_108 nw_90 mw_109 mw_110 pd_X7_put ⟨Nat.le_of_ble_eq_true rfl, Nat.le_of_ble_eq_true rfl⟩ rfl hl.1 rfl (Nat.le_of_ble_eq_true rfl) dX6_goThrough_43 ⟨Nat.le_of_ble_eq_true rfl, Nat.le_of_ble_eq_true rfl⟩) hD hS hA (fun u_4 H locs hp hP hD hS => ?_)
    obtain ⟨f_5, rfl, hp1, hp2⟩ := hp
    have hP : va_P D vwCl (XW ad cI cJ 0 b (va_up (va_up u_1.1 30 f_3) 31 f_5) u_1.2 ++ R) H := hP
    have hD : va_D A (XW ad cI cJ 0 b (va_up (va_up u_1.1 30 f_3) 31 f_5) u_1.2 ++ R) := hD
    refine lv_iinc (v := nI (i + 1)) (lv' := [(2, .int (nI (i + 1))), (0, .ref (ad 7)), (1, .ref (ad 2))]) hx hb dX6_goThrough_46 hl (k := 2) rfl (nI_1 i) (by decide) rfl (fun ls hl => ?_)
    refine lv_goto (tgt := 22) hx hb dX6_goThrough_49 (by decide) ?_
    exact ih ((va_up (va_up u_1.1 30 f_3) 31 f_5), u_1.2) H locs ls ⟨trivial, hP, hD, hS, lv_sub hl [1, 2, 0] rfl⟩
set_option maxHeartbeats 4000000 in
set_option maxRecDepth 100000 in
theorem c_pushDown (l : Launch) (D : va_G) (cI cJ cZ : ClassId) (ad : Nat → Nat) (b : Nat → Int32) (F : Nat → Nat → Int32) (G : Nat → Nat → Int64) (R : va_W) : CT l D (TY cI cJ cZ) yX3_pushDown (.code yX3_pushDown cX3_pushDown 3 (some Jvm.ClassFile.FieldType.boolean)) 0 0 0 (XW ad cI cJ 0 b F G ++ R) [.ref (ad 6)] (QI D (TY cI cJ cZ) (fun r u => r = 0 ∧ u = XW ad cI cJ 0 b F G ++ R)) := by
  refine ent (by decide) (Nat.le_of_ble_eq_true rfl) ?_
  intro p e s m below meth c ls A hx hb hr hg hown hml hlocks hnm hP hK hD hS hA hN hl
  have hl : lv_has ls 3 [(0, .ref (ad 6))] := hl
  refine lv_iconst (v := 0) hx hb dX3_pushDown_0 (by decide) ?_
  refine lv_istore_n (lv' := [(1, .int 0), (0, .ref (ad 6))]) hx hb dX3_pushDown_1 rfl hl (by decide) rfl (fun ls hl => ?_)
  refine lv_iconst (v := 0) hx hb dX3_pushDown_2 (by decide) ?_
  refine lv_istore_n (lv' := [(2, .int 0), (1, .int 0), (0, .ref (ad 6))]) hx hb dX3_pushDown_3 rfl hl (by decide) rfl (fun ls hl => ?_)
  refine lv_iload_n hx hb dX3_pushDown_4 rfl (lv_at hl 0 rfl) ?_
  refine lv_aload_n hx hb dX3_pushDown_5 rfl (lv_at hl 2 rfl) ?_
  refine va_get (D := D) (ci := 3) (v := .int 0) (C := RX3) (T := TX3) (N := 16) hx hb hg inGX3 hown hK hP 6 rfl rfl 12 (by decide) (hg _ mw_174) (fun _ h9 => h9) rfl dX3_pushDown_6 ?_
  refine lv_icmp_ge (tgt := 82) hx hb dX3_pushDown_9 (by decide) (fun c_9 => ?_) (fun c_9 => absurd (by decide) c_9)
  refine lv_iload_n hx hb dX3_pushDown_82 rfl (lv_at hl 1 rfl) ?_
  exact W.zret (v := 0) hx hb hr rfl (fun t ht hW => ⟨⟨0, (XW ad cI cJ 0 b F G ++ R), rfl, ⟨rfl, rfl⟩, ⟨by rw [ht]; exact hP, va_K.moved hW.alike hK, hD⟩⟩, hS.F ht⟩) hS.2.2 dX3_pushDown_83
set_option maxHeartbeats 4000000 in
set_option maxRecDepth 100000 in
theorem c_setLayers (l : Launch) (D : va_G) (cI cJ cZ : ClassId) (ad : Nat → Nat) (b : Nat → Int32) (F : Nat → Nat → Int32) (G : Nat → Nat → Int64) (R : va_W) : CT l D (TY cI cJ cZ) yX3_setLayers (.code yX3_setLayers cX3_setLayers 3 (none : Option FieldType)) 1 0 0 (XW ad cI cJ 0 b F G ++ R) [.ref (ad 6)] (QV D (TY cI cJ cZ) (fun u => ∃ F' G', u = XW ad cI cJ 0 b F' G' ++ R ∧ ∀ j, j < 40 → F' 34 j = -1)) := by
  refine ent (by decide) (Nat.le_of_ble_eq_true rfl) ?_
  intro p e s m below meth c ls A hx hb hr hg hown hml hlocks hnm hP hK hD hS hA hN hl
  have hl : lv_has ls 3 [(0, .ref (ad 6))] := hl
  refine lv_iconst (v := 0) hx hb dX3_setLayers_0 (by decide) ?_
  refine lv_istore_n (lv' := [(1, .int 0), (0, .ref (ad 6))]) hx hb dX3_setLayers_1 rfl hl (by decide) rfl (fun ls hl => ?_)
  -- the loop at 2
  refine w_loop (σ := (Nat → Nat → Int32) × (Nat → Nat → Int64)) (fun (i : Nat) (u_1 : (Nat → Nat → Int32) × (Nat → Nat → Int64)) (H : Heap) (locs : List Loc) (ls : Array Slot) => (∀ j, j < i → u_1.1 34 j = -1) ∧ va_P D vwCl (XW ad cI cJ 0 b u_1.1 u_1.2 ++ R) H ∧ va_D A (XW ad cI cJ 0 b u_1.1 u_1.2 ++ R) ∧ va_S A s.heap H locs ∧ lv_has ls 3 [(0, .ref (ad 6)), (1, .int (nI i))]) 40 (fun u_1 H locs ls hI => ?_) (fun i u_1 H locs ls hi hI ih => ?_) 0 (F, G) (Nat.zero_le _) ⟨(fun j hj => absurd hj (Nat.not_lt_zero j)), hP, hD, hS, by rw [nI_0]; exact lv_sub hl [1, 0] rfl⟩
  · obtain ⟨hF_1, hP, hD, hS, hl⟩ := hI
    have hP : va_P D vwCl (XW ad cI cJ 0 b u_1.1 u_1.2 ++ R) H := hP
    have hD : va_D A (XW ad cI cJ 0 b u_1.1 u_1.2 ++ R) := hD
    have hl : lv_has ls 3 [(0, .ref (ad 6)), (1, .int (nI 40))] := hl
    refine lv_iload_n hx hb dX3_setLayers_2 rfl (lv_at hl 1 rfl) ?_
    refine lv_bipush (v := 40) hx hb dX3_setLayers_3 (by decide) ?_
    refine lv_icmp_ge (tgt := 41) hx hb dX3_setLayers_5 (by decide) (fun c_5 => ?_) (fun c_5 => absurd (by decide) c_5)
    refine lv_iconst (v := 1) hx hb dX3_setLayers_41 (by decide) ?_
    refine lv_istore_n (lv' := [(1, .int 1), (0, .ref (ad 6))]) hx hb dX3_setLayers_42 rfl hl (by decide) rfl (fun ls hl => ?_)
    refine lv_iconst (v := 0) hx hb dX3_setLayers_43 (by decide) ?_
    refine lv_istore_n (lv' := [(2, .int 0), (1, .int 1), (0, .ref (ad 6))]) hx hb dX3_setLayers_44 rfl hl (by decide) rfl (fun ls hl => ?_)
    refine lv_iload_n hx hb dX3_setLayers_45 rfl (lv_at hl 0 rfl) ?_
    refine lv_bipush (v := 40) hx hb dX3_setLayers_46 (by decide) ?_
    refine lv_icmp_ge (tgt := 66) hx hb dX3_setLayers_48 (by decide) (fun c_48 => absurd c_48 (by decide)) (fun c_48 => ?_)
    refine lv_iload_n hx hb dX3_setLayers_51 rfl (lv_at hl 1 rfl) ?_
    refine lv_if_eq (tgt := 66) hx hb dX3_setLayers_52 (by decide) (fun c_52 => absurd c_52 (by decide)) (fun c_52 => ?_)
    refine lv_aload_n hx hb dX3_setLayers_55 rfl (lv_at hl 2 rfl) ?_
    refine kI (rV (q0 := 6) (ci := 3) hx hb hml hown hg hN hK hP hD (c_pushDown l D cI cJ cZ ad b u_1.1 u_1.2 R) mw_175 mw_176 mw_177 mw_178 mw_179 pdv_X3_pushDown ⟨Nat.le_of_ble_eq_true rfl, Nat.le_of_ble_eq_true rfl⟩ rfl rfl rfl hl.1 rfl (Nat.le_of_ble_eq_true rfl) dX3_setLayers_56 ⟨Nat.le_of_ble_eq_true rfl, Nat.le_of_ble_eq_true rfl⟩) hD hS hA (fun r_2 u_2 H locs hp hP hD hS => ?_)
    obtain ⟨rfl, rfl⟩ := hp
    refine lv_istore_n (lv' := [(1, .int 0), (2, .int 0), (0, .ref (ad 6))]) hx hb dX3_setLayers_59 rfl hl (by decide) rfl (fun ls hl => ?_)
    refine lv_iinc (v := 1) (lv' := [(2, .int 1), (1, .int 0), (0, .ref (ad 6))]) hx hb dX3_setLayers_60 hl (k := 1) rfl (by decide) (by decide) rfl (fun ls hl => ?_)
    refine lv_goto (tgt := 45) hx hb dX3_setLayers_63 (by decide) ?_
    refine lv_iload_n hx hb dX3_setLayers_45 rfl (lv_at hl 0 rfl) ?_
    refine lv_bipush (v := 40) hx hb dX3_setLayers_46 (by decide) ?_
    refine lv_icmp_ge (tgt := 66) hx hb dX3_setLayers_48 (by decide) (fun c_48 => absurd c_48 (by decide)) (fun c_48 => ?_)
    refine lv_iload_n hx hb dX3_setLayers_51 rfl (lv_at hl 1 rfl) ?_
    refine lv_if_eq (tgt := 66) hx hb dX3_setLayers_52 (by decide) (fun c_52 => ?_) (fun c_52 => absurd (by decide) c_52)
    refine lv_aload_n hx hb dX3_setLayers_66 rfl (lv_at hl 2 rfl) ?_
    refine lv_iconst (v := 0) hx hb dX3_setLayers_67 (by decide) ?_
    refine va_put (D := D) (ci := 3) (v := .int 0) (C := RX3) (T := TX3) (N := 16) hx hb hg inGX3 tyX3 tyX3_ok nmX3 hown hK hP hD hS 6 rfl rfl 13 (by decide) (hg _ mw_180) (fun _ h9 => h9) rfl (tyX3_ok 13 (by decide)) rfl rfl (Nat.le_of_ble_eq_true rfl) dX3_setLayers_68 (fun H locs hP hD hS => ?_)
    have hP : va_P D vwCl (XW ad cI cJ 0 b u_1.1 u_1.2 ++ R) H := hP
    have hD : va_D A (XW ad cI cJ 0 b u_1.1 u_1.2 ++ R) := hD
    refine lv_iconst (v := 0) hx hb dX3_setLayers_71 (by decide) ?_
    refine lv_istore_n (lv' := [(2, .int 0), (1, .int 0), (0, .ref (ad 6))]) hx hb dX3_setLayers_72 rfl hl (by decide) rfl (fun ls hl => ?_)
    -- the loop at 73
    refine w_loop (σ := Unit) (fun (i : Nat) (u_3 : Unit) (H : Heap) (locs : List Loc) (ls : Array Slot) => (True) ∧ va_P D vwCl (XW ad cI cJ 0 b u_1.1 u_1.2 ++ R) H ∧ va_D A (XW ad cI cJ 0 b u_1.1 u_1.2 ++ R) ∧ va_S A s.heap H locs ∧ lv_has ls 3 [(0, .ref (ad 6)), (1, .int 0), (2, .int (nI i))]) 40 (fun u_3 H locs ls hI => ?_) (fun i u_3 H locs ls hi hI ih => ?_) 0 () (Nat.zero_le _) ⟨trivial, hP, hD, hS, by rw [nI_0]; exact lv_sub hl [2, 1, 0] rfl⟩
    · obtain ⟨hF_3, hP, hD, hS, hl⟩ := hI
      have hP : va_P D vwCl (XW ad cI cJ 0 b u_1.1 u_1.2 ++ R) H := hP
      have hD : va_D A (XW ad cI cJ 0 b u_1.1 u_1.2 ++ R) := hD
      have hl : lv_has ls 3 [(0, .ref (ad 6)), (1, .int 0), (2, .int (nI 40))] := hl
      refine lv_iload_n hx hb dX3_setLayers_73 rfl (lv_at hl 2 rfl) ?_
      refine lv_bipush (v := 40) hx hb dX3_setLayers_74 (by decide) ?_
      refine lv_icmp_ge (tgt := 106) hx hb dX3_setLayers_76 (by decide) (fun c_76 => ?_) (fun c_76 => absurd (by decide) c_76)
      exact W.vret hx hb hr (fun t ht hW => ⟨⟨(XW ad cI cJ 0 b u_1.1 u_1.2 ++ R), rfl, ⟨_, _, rfl, hF_1⟩, ⟨by rw [ht]; exact hP, va_K.moved hW.alike hK, hD⟩⟩, hS.F ht⟩) hS.2.2 dX3_setLayers_106
    · obtain ⟨hF_3, hP, hD, hS, hl⟩ := hI
      have hP : va_P D vwCl (XW ad cI cJ 0 b u_1.1 u_1.2 ++ R) H := hP
      have hD : va_D A (XW ad cI cJ 0 b u_1.1 u_1.2 ++ R) := hD
      have hl : lv_has ls 3 [(0, .ref (ad 6)), (1, .int 0), (2, .int (nI i))] := hl
      refine lv_iload_n hx hb dX3_setLayers_73 rfl (lv_at hl 2 rfl) ?_
      refine lv_bipush (v := 40) hx hb dX3_setLayers_74 (by decide) ?_
      refine lv_icmp_ge (tgt := 106) hx hb dX3_setLayers_76 (by decide) (fun c_76 => absurd c_76 (nI_ge hi (by decide))) (fun c_76 => ?_)
      refine lv_aload_n hx hb dX3_setLayers_79 rfl (lv_at hl 0 rfl) ?_
      refine lv_aload_n hx hb dX3_setLayers_80 rfl (lv_at hl 0 rfl) ?_
      refine va_get (D := D) (ci := 3) (v := .int 0) (C := RX3) (T := TX3) (N := 16) hx hb hg inGX3 hown hK hP 6 rfl rfl 13 (by decide) (hg _ mw_180) (fun _ h9 => h9) rfl dX3_setLayers_81 ?_
      refine lv_aload_n hx hb dX3_setLayers_84 rfl (lv_at hl 0 rfl) ?_
      refine va_get (D := D) (ci := 3) (v := .ref (ad 34)) (C := RX3) (T := TX3) (N := 16) hx hb hg inGX3 hown hK hP 6 rfl rfl 1 (by decide) (hg _ mw_181) (fun _ h9 => h9) rfl dX3_setLayers_85 ?_
      refine lv_iload_n hx hb dX3_setLayers_88 rfl (lv_at hl 2 rfl) ?_
      refine kI (rSN hx hb hml hown hg hN hK hP hD (c_at l D cI cJ cZ (XW ad cI cJ 0 b u_1.1 u_1.2 ++ R) 34 (ad 34) 40 (u_1.1 34) (nI i) rfl (by decide)) mw_182 nw_96 mw_183 mw_110 pd_X7_at ⟨Nat.le_of_ble_eq_true rfl, Nat.le_of_ble_eq_true rfl⟩ rfl hl.1 rfl (Nat.le_of_ble_eq_true rfl) dX3_setLayers_89 ⟨Nat.le_of_ble_eq_true rfl, Nat.le_of_ble_eq_true rfl⟩) hD hS hA (fun r_4 u_4 H locs hp hP hD hS => ?_)
      obtain ⟨hp1, hp2, rfl⟩ := hp
      obtain rfl : r_4 = -1 := by rw [hp1 (vp_in_nI hi (by decide)), nI_clamp (by omega)]; exact hF_1 i hi
      refine lv_iconst (v := 1) hx hb dX3_setLayers_92 (by decide) ?_
      refine lv_iadd hx hb dX3_setLayers_93 ?_
      refine lv_topi (fun v_5 ev_5 => ?_)
      obtain rfl : v_5 = (0 : Int32) := ev_5.trans (by decide)
      refine va_mmax hx hb (by rw [hml]; exact hl.1.symm) hown (hg _ mw_184) (hg _ mw_185) (hg _ mw_186) (hg _ mw_187) (Nat.le_of_ble_eq_true rfl) (Nat.le_of_ble_eq_true rfl) (Nat.le_of_ble_eq_true rfl) (Nat.le_of_ble_eq_true rfl) dX3_setLayers_94 ?_
      refine lv_topi (fun v_6 ev_6 => ?_)
      obtain rfl : v_6 = (0 : Int32) := ev_6.trans (by decide)
      refine va_put (D := D) (ci := 3) (v := .int 0) (C := RX3) (T := TX3) (N := 16) hx hb hg inGX3 tyX3 tyX3_ok nmX3 hown hK hP hD hS 6 rfl rfl 13 (by decide) (hg _ mw_180) (fun _ h9 => h9) rfl (tyX3_ok 13 (by decide)) rfl rfl (Nat.le_of_ble_eq_true rfl) dX3_setLayers_97 (fun H locs hP hD hS => ?_)
      have hP : va_P D vwCl (XW ad cI cJ 0 b u_1.1 u_1.2 ++ R) H := hP
      have hD : va_D A (XW ad cI cJ 0 b u_1.1 u_1.2 ++ R) := hD
      refine lv_iinc (v := nI (i + 1)) (lv' := [(2, .int (nI (i + 1))), (0, .ref (ad 6)), (1, .int 0)]) hx hb dX3_setLayers_100 hl (k := 2) rfl (nI_1 i) (by decide) rfl (fun ls hl => ?_)
      refine lv_goto (tgt := 73) hx hb dX3_setLayers_103 (by decide) ?_
      exact ih () H locs ls ⟨trivial, hP, hD, hS, lv_sub hl [1, 2, 0] rfl⟩
  · obtain ⟨hF_1, hP, hD, hS, hl⟩ := hI
    have hP : va_P D vwCl (XW ad cI cJ 0 b u_1.1 u_1.2 ++ R) H := hP
    have hD : va_D A (XW ad cI cJ 0 b u_1.1 u_1.2 ++ R) := hD
    have hl : lv_has ls 3 [(0, .ref (ad 6)), (1, .int (nI i))] := hl
    refine lv_iload_n hx hb dX3_setLayers_2 rfl (lv_at hl 1 rfl) ?_
    refine lv_bipush (v := 40) hx hb dX3_setLayers_3 (by decide) ?_
    refine lv_icmp_ge (tgt := 41) hx hb dX3_setLayers_5 (by decide) (fun c_5 => absurd c_5 (nI_ge hi (by decide))) (fun c_5 => ?_)
    refine lv_aload_n hx hb dX3_setLayers_8 rfl (lv_at hl 0 rfl) ?_
    refine va_get (D := D) (ci := 3) (v := .ref (ad 34)) (C := RX3) (T := TX3) (N := 16) hx hb hg inGX3 hown hK hP 6 rfl rfl 1 (by decide) (hg _ mw_181) (fun _ h9 => h9) rfl dX3_setLayers_9 ?_
    refine lv_iload_n hx hb dX3_setLayers_12 rfl (lv_at hl 1 rfl) ?_
    refine lv_aload_n hx hb dX3_setLayers_13 rfl (lv_at hl 0 rfl) ?_
    refine va_get (D := D) (ci := 3) (v := .ref (ad 7)) (C := RX3) (T := TX3) (N := 16) hx hb hg inGX3 hown hK hP 6 rfl rfl 0 (by decide) (hg _ mw_188) (fun _ h9 => h9) rfl dX3_setLayers_14 ?_
    refine va_getN (D := D) (ci := 6) (v := .long 0) (C := RX6) (T := TX6) (N := 9) hx hb hg inGX6 hown hK hP 7 rfl rfl 7 (by decide) (hN.use nw_59) (fun _ h9 => h9) rfl dX3_setLayers_17 ?_
    refine lv_iload_n hx hb dX3_setLayers_20 rfl (lv_at hl 1 rfl) ?_
    refine kI (rSN hx hb hml hown hg hN hK hP hD (c_has0 l D cI cJ cZ (XW ad cI cJ 0 b u_1.1 u_1.2 ++ R) (nI i)) mw_129 nw_94 mw_130 mw_110 pd_X7_has ⟨Nat.le_of_ble_eq_true rfl, Nat.le_of_ble_eq_true rfl⟩ rfl hl.1 rfl (Nat.le_of_ble_eq_true rfl) dX3_setLayers_21 ⟨Nat.le_of_ble_eq_true rfl, Nat.le_of_ble_eq_true rfl⟩) hD hS hA (fun r_7 u_7 H locs hp hP hD hS => ?_)
    obtain ⟨rfl, rfl⟩ := hp
    refine lv_if_eq (tgt := 31) hx hb dX3_setLayers_24 (by decide) (fun c_24 => ?_) (fun c_24 => absurd (by decide) c_24)
    refine lv_iconst (v := (-1)) hx hb dX3_setLayers_31 (by decide) ?_
    refine kV (rSN hx hb hml hown hg hN hK hP hD (c_put l D cI cJ cZ (XW ad cI cJ 0 b u_1.1 u_1.2 ++ R) 34 (ad 34) 40 (u_1.1 34) (nI i) (-1) rfl (by decide)) mw_108 nw_95 mw_109 mw_110 pd_X7_put ⟨Nat.le_of_ble_eq_true rfl, Nat.le_of_ble_eq_true rfl⟩ rfl hl.1 rfl (Nat.le_of_ble_eq_true rfl) dX3_setLayers_32 ⟨Nat.le_of_ble_eq_true rfl, Nat.le_of_ble_eq_true rfl⟩) hD hS hA (fun u_8 H locs hp hP hD hS => ?_)
    obtain ⟨f_9, rfl, hp1, hp2⟩ := hp
    have hP : va_P D vwCl (XW ad cI cJ 0 b (va_up u_1.1 34 f_9) u_1.2 ++ R) H := hP
    have hD : va_D A (XW ad cI cJ 0 b (va_up u_1.1 34 f_9) u_1.2 ++ R) := hD
    refine lv_iinc (v := nI (i + 1)) (lv' := [(1, .int (nI (i + 1))), (0, .ref (ad 6))]) hx hb dX3_setLayers_35 hl (k := 1) rfl (nI_1 i) (by decide) rfl (fun ls hl => ?_)
    refine lv_goto (tgt := 2) hx hb dX3_setLayers_38 (by decide) ?_
    exact ih ((va_up u_1.1 34 f_9), u_1.2) H locs ls ⟨(lay_step hi hF_1 hp1), hP, hD, hS, lv_sub hl [1, 0] rfl⟩
set_option maxHeartbeats 4000000 in
set_option maxRecDepth 100000 in
theorem c_numberBends (l : Launch) (D : va_G) (cI cJ cZ : ClassId) (ad : Nat → Nat) (b : Nat → Int32) (F : Nat → Nat → Int32) (G : Nat → Nat → Int64) (R : va_W) : CT l D (TY cI cJ cZ) yX3_numberBends (.code yX3_numberBends cX3_numberBends 5 (none : Option FieldType)) 0 0 0 (XW ad cI cJ 0 b F G ++ R) [.ref (ad 6)] (QV D (TY cI cJ cZ) (fun u => u = XW ad cI cJ 0 b F G ++ R)) := by
  refine ent (by decide) (Nat.le_of_ble_eq_true rfl) ?_
  intro p e s m below meth c ls A hx hb hr hg hown hml hlocks hnm hP hK hD hS hA hN hl
  have hl : lv_has ls 5 [(0, .ref (ad 6))] := hl
  refine lv_bipush (v := 40) hx hb dX3_numberBends_0 (by decide) ?_
  refine lv_istore_n (lv' := [(1, .int 40), (0, .ref (ad 6))]) hx hb dX3_numberBends_2 rfl hl (by decide) rfl (fun ls hl => ?_)
  refine lv_iconst (v := 0) hx hb dX3_numberBends_3 (by decide) ?_
  refine lv_istore_n (lv' := [(2, .int 0), (1, .int 40), (0, .ref (ad 6))]) hx hb dX3_numberBends_4 rfl hl (by decide) rfl (fun ls hl => ?_)
  refine lv_iload_n hx hb dX3_numberBends_5 rfl (lv_at hl 0 rfl) ?_
  refine lv_aload_n hx hb dX3_numberBends_6 rfl (lv_at hl 2 rfl) ?_
  refine va_get (D := D) (ci := 3) (v := .int 0) (C := RX3) (T := TX3) (N := 16) hx hb hg inGX3 hown hK hP 6 rfl rfl 12 (by decide) (hg _ mw_174) (fun _ h9 => h9) rfl dX3_numberBends_7 ?_
  refine lv_icmp_ge (tgt := 61) hx hb dX3_numberBends_10 (by decide) (fun c_10 => ?_) (fun c_10 => absurd (by decide) c_10)
  exact W.vret hx hb hr (fun t ht hW => ⟨⟨(XW ad cI cJ 0 b F G ++ R), rfl, rfl, ⟨by rw [ht]; exact hP, va_K.moved hW.alike hK, hD⟩⟩, hS.F ht⟩) hS.2.2 dX3_numberBends_61
set_option maxHeartbeats 4000000 in
set_option maxRecDepth 100000 in
theorem c_draw (l : Launch) (D : va_G) (cI cJ cZ : ClassId) (ad : Nat → Nat) (b : Nat → Int32) (F : Nat → Nat → Int32) (G : Nat → Nat → Int64) (R : va_W) : CT l D (TY cI cJ cZ) yX3_draw (.code yX3_draw cX3_draw 4 (none : Option FieldType)) 2 0 0 (XW ad cI cJ 0 b F G ++ R) [.ref (ad 6), .ref (ad 2)] (QV D (TY cI cJ cZ) (fun u => ∃ F' G', u = XW ad cI cJ 0 (va_up b 5 0) F' G' ++ R)) := by
  refine ent (by decide) (Nat.le_of_ble_eq_true rfl) ?_
  intro p e s m below meth c ls A hx hb hr hg hown hml hlocks hnm hP hK hD hS hA hN hl
  have hl : lv_has ls 4 [(0, .ref (ad 6)), (1, .ref (ad 2))] := hl
  refine lv_aload_n hx hb dX3_draw_0 rfl (lv_at hl 0 rfl) ?_
  refine lv_aload_n hx hb dX3_draw_1 rfl (lv_at hl 1 rfl) ?_
  refine va_getN (D := D) (ci := 1) (v := .int 0) (C := RX1) (T := TX1) (N := 11) hx hb hg inGX1 hown hK hP 2 rfl rfl 8 (by decide) (hN.use nw_29) (fun _ h9 => h9) rfl dX3_draw_2 ?_
  refine va_put (D := D) (ci := 3) (v := .int 0) (C := RX3) (T := TX3) (N := 16) hx hb hg inGX3 tyX3 tyX3_ok nmX3 hown hK hP hD hS 6 rfl rfl 12 (by decide) (hg _ mw_174) (fun _ h9 => h9) rfl (tyX3_ok 12 (by decide)) rfl rfl (Nat.le_of_ble_eq_true rfl) dX3_draw_5 (fun H locs hP hD hS => ?_)
  have hP : va_P D vwCl (XW ad cI cJ 0 b F G ++ R) H := hP
  have hD : va_D A (XW ad cI cJ 0 b F G ++ R) := hD
  refine lv_aload_n hx hb dX3_draw_8 rfl (lv_at hl 0 rfl) ?_
  refine lv_iconst (v := 0) hx hb dX3_draw_9 (by decide) ?_
  refine va_put (D := D) (ci := 3) (v := .int 0) (C := RX3) (T := TX3) (N := 16) hx hb hg inGX3 tyX3 tyX3_ok nmX3 hown hK hP hD hS 6 rfl rfl 14 (by decide) (hg _ mw_189) (fun _ h9 => h9) rfl (tyX3_ok 14 (by decide)) rfl rfl (Nat.le_of_ble_eq_true rfl) dX3_draw_10 (fun H locs hP hD hS => ?_)
  have hP : va_P D vwCl (XW ad cI cJ 0 (va_up b 5 0) F G ++ R) H := hP
  have hD : va_D A (XW ad cI cJ 0 (va_up b 5 0) F G ++ R) := hD
  refine lv_aload_n hx hb dX3_draw_13 rfl (lv_at hl 0 rfl) ?_
  refine va_get (D := D) (ci := 3) (v := .ref (ad 7)) (C := RX3) (T := TX3) (N := 16) hx hb hg inGX3 hown hK hP 6 rfl rfl 0 (by decide) (hg _ mw_188) (fun _ h9 => h9) rfl dX3_draw_14 ?_
  refine lv_aload_n hx hb dX3_draw_17 rfl (lv_at hl 1 rfl) ?_
  refine kV (rV (q0 := 7) (ci := 6) hx hb hml hown hg hN hK hP hD (c_goThrough l D cI cJ cZ ad (va_up b 5 0) F G R) mw_190 mw_191 mw_192 mw_193 mw_194 pdv_X6_goThrough ⟨Nat.le_of_ble_eq_true rfl, Nat.le_of_ble_eq_true rfl⟩ rfl rfl rfl hl.1 rfl (Nat.le_of_ble_eq_true rfl) dX3_draw_18 ⟨Nat.le_of_ble_eq_true rfl, Nat.le_of_ble_eq_true rfl⟩) hD hS hA (fun u_1 H locs hp hP hD hS => ?_)
  obtain ⟨F_3, G_4, rfl⟩ := hp
  refine lv_aload_n hx hb dX3_draw_21 rfl (lv_at hl 0 rfl) ?_
  refine kV (rV (q0 := 6) (ci := 3) hx hb hml hown hg hN hK hP hD (c_setLayers l D cI cJ cZ ad (va_up b 5 0) F_3 G_4 R) mw_195 mw_196 mw_197 mw_198 mw_179 pdv_X3_setLayers ⟨Nat.le_of_ble_eq_true rfl, Nat.le_of_ble_eq_true rfl⟩ rfl rfl rfl hl.1 rfl (Nat.le_of_ble_eq_true rfl) dX3_draw_22 ⟨Nat.le_of_ble_eq_true rfl, Nat.le_of_ble_eq_true rfl⟩) hD hS hA (fun u_5 H locs hp hP hD hS => ?_)
  obtain ⟨F_7, G_8, rfl, hlayF_7⟩ := hp
  refine lv_aload_n hx hb dX3_draw_25 rfl (lv_at hl 0 rfl) ?_
  refine kV (rV (q0 := 6) (ci := 3) hx hb hml hown hg hN hK hP hD (c_numberBends l D cI cJ cZ ad (va_up b 5 0) F_7 G_8 R) mw_199 mw_200 mw_201 mw_202 mw_179 pdv_X3_numberBends ⟨Nat.le_of_ble_eq_true rfl, Nat.le_of_ble_eq_true rfl⟩ rfl rfl rfl hl.1 rfl (Nat.le_of_ble_eq_true rfl) dX3_draw_26 ⟨Nat.le_of_ble_eq_true rfl, Nat.le_of_ble_eq_true rfl⟩) hD hS hA (fun u_9 H locs hp hP hD hS => ?_)
  obtain rfl := hp
  refine lv_iconst (v := 0) hx hb dX3_draw_29 (by decide) ?_
  refine lv_istore_n (lv' := [(2, .int 0), (0, .ref (ad 6)), (1, .ref (ad 2))]) hx hb dX3_draw_30 rfl hl (by decide) rfl (fun ls hl => ?_)
  refine lv_iconst (v := 0) hx hb dX3_draw_31 (by decide) ?_
  refine lv_istore_n (lv' := [(3, .int 0), (2, .int 0), (0, .ref (ad 6)), (1, .ref (ad 2))]) hx hb dX3_draw_32 rfl hl (by decide) rfl (fun ls hl => ?_)
  refine lv_iload_n hx hb dX3_draw_33 rfl (lv_at hl 0 rfl) ?_
  refine lv_aload_n hx hb dX3_draw_34 rfl (lv_at hl 2 rfl) ?_
  refine va_get (D := D) (ci := 3) (v := .int 0) (C := RX3) (T := TX3) (N := 16) hx hb hg inGX3 hown hK hP 6 rfl rfl 13 (by decide) (hg _ mw_180) (fun _ h9 => h9) rfl dX3_draw_35 ?_
  refine lv_icmp_ge (tgt := 63) hx hb dX3_draw_38 (by decide) (fun c_38 => ?_) (fun c_38 => absurd (by decide) c_38)
  refine lv_aload_n hx hb dX3_draw_63 rfl (lv_at hl 2 rfl) ?_
  refine va_get (D := D) (ci := 3) (v := .ref (ad 35)) (C := RX3) (T := TX3) (N := 16) hx hb hg inGX3 hown hK hP 6 rfl rfl 2 (by decide) (hg _ mw_203) (fun _ h9 => h9) rfl dX3_draw_64 ?_
  refine lv_aload_n hx hb dX3_draw_67 rfl (lv_at hl 2 rfl) ?_
  refine va_get (D := D) (ci := 3) (v := .int 0) (C := RX3) (T := TX3) (N := 16) hx hb hg inGX3 hown hK hP 6 rfl rfl 13 (by decide) (hg _ mw_180) (fun _ h9 => h9) rfl dX3_draw_68 ?_
  refine lv_iload_n hx hb dX3_draw_71 rfl (lv_at hl 1 rfl) ?_
  refine kV (rSN hx hb hml hown hg hN hK hP hD (c_put l D cI cJ cZ (XW ad cI cJ 0 (va_up b 5 0) F_7 G_8 ++ R) 35 (ad 35) 41 (fun _ => 0) 0 0 rfl (by decide)) mw_108 nw_95 mw_109 mw_110 pd_X7_put ⟨Nat.le_of_ble_eq_true rfl, Nat.le_of_ble_eq_true rfl⟩ rfl hl.1 rfl (Nat.le_of_ble_eq_true rfl) dX3_draw_72 ⟨Nat.le_of_ble_eq_true rfl, Nat.le_of_ble_eq_true rfl⟩) hD hS hA (fun u_10 H locs hp hP hD hS => ?_)
  obtain ⟨f_11, rfl, hp1, hp2⟩ := hp
  obtain rfl : f_11 = (fun _ => 0) := putcI rfl hp1 hp2
  have hP : va_P D vwCl (XW ad cI cJ 0 (va_up b 5 0) F_7 G_8 ++ R) H := hP
  have hD : va_D A (XW ad cI cJ 0 (va_up b 5 0) F_7 G_8 ++ R) := hD
  exact W.vret hx hb hr (fun t ht hW => ⟨⟨(XW ad cI cJ 0 (va_up b 5 0) F_7 G_8 ++ R), rfl, ⟨_, _, rfl⟩, ⟨by rw [ht]; exact hP, va_K.moved hW.alike hK, hD⟩⟩, hS.F ht⟩) hS.2.2 dX3_draw_75
set_option maxHeartbeats 4000000 in
set_option maxRecDepth 100000 in
theorem c_freshLives (l : Launch) (D : va_G) (cI cJ cZ : ClassId) (ad : Nat → Nat) (b : Nat → Int32) (F : Nat → Nat → Int32) (G : Nat → Nat → Int64) (R : va_W) : CT l D (TY cI cJ cZ) yX7_freshLives (.code yX7_freshLives cX7_freshLives 1 (some (Jvm.ClassFile.FieldType.object "OrielChart$Lives"))) 4 0 0 (XW ad cI cJ 0 b F G ++ R) [.ref (ad 0)] (QR D (TY cI cJ cZ) (fun r u => r = ad 4 ∧ ∃ b' F' G', u = XW ad cI cJ 0 b' F' G' ++ R ∧ ∀ k, k ≠ 0 → k ≠ 3 → b' k = b k)) := by
  refine ent (by decide) (Nat.le_of_ble_eq_true rfl) ?_
  intro p e s m below meth c ls A hx hb hr hg hown hml hlocks hnm hP hK hD hS hA hN hl
  have hl : lv_has ls 1 [(0, .ref (ad 0))] := hl
  refine lv_aload_n hx hb dX7_freshLives_0 rfl (lv_at hl 0 rfl) ?_
  refine va_get (D := D) (ci := 7) (v := .ref (ad 4)) (C := RX7) (T := TX7) (N := 6) hx hb hg inGX7 hown hK hP 0 rfl rfl 3 (by decide) (hg _ mw_204) (fun _ h9 => h9) rfl dX7_freshLives_1 ?_
  refine va_getN (D := D) (ci := 2) (v := .int (b 3)) (C := RX2) (T := TX2) (N := 3) hx hb hg inGX2 hown hK hP 4 rfl rfl 2 (by decide) (hN.use nw_45) (fun _ h9 => h9) rfl dX7_freshLives_4 ?_
  refine lv_if_ne (tgt := 33) hx hb dX7_freshLives_7 (by decide) (fun c_7 => ?_) (fun c_7 => ?_)
  · refine lv_aload_n hx hb dX7_freshLives_33 rfl (lv_at hl 0 rfl) ?_
    refine va_get (D := D) (ci := 7) (v := .ref (ad 4)) (C := RX7) (T := TX7) (N := 6) hx hb hg inGX7 hown hK hP 0 rfl rfl 3 (by decide) (hg _ mw_204) (fun _ h9 => h9) rfl dX7_freshLives_34 ?_
    exact W.aret (v := .ref (ad 4)) hx hb hr (Or.inl ⟨_, rfl⟩) (Or.inr ⟨_, rfl⟩) (fun t ht hW => ⟨⟨(XW ad cI cJ 0 b F G ++ R), (ad 4), rfl, trivial, ⟨rfl, b, F, G, rfl, fun k _ _ => rfl⟩, ⟨by rw [ht]; exact hP, va_K.moved hW.alike hK, hD⟩⟩, hS.F ht⟩) hS.2.2 dX7_freshLives_37
  · refine lv_aload_n hx hb dX7_freshLives_10 rfl (lv_at hl 0 rfl) ?_
    refine va_get (D := D) (ci := 7) (v := .ref (ad 4)) (C := RX7) (T := TX7) (N := 6) hx hb hg inGX7 hown hK hP 0 rfl rfl 3 (by decide) (hg _ mw_204) (fun _ h9 => h9) rfl dX7_freshLives_11 ?_
    refine lv_aload_n hx hb dX7_freshLives_14 rfl (lv_at hl 0 rfl) ?_
    refine va_get (D := D) (ci := 7) (v := .ref (ad 1)) (C := RX7) (T := TX7) (N := 6) hx hb hg inGX7 hown hK hP 0 rfl rfl 0 (by decide) (hg _ mw_113) (fun _ h9 => h9) rfl dX7_freshLives_15 ?_
    refine lv_aload_n hx hb dX7_freshLives_18 rfl (lv_at hl 0 rfl) ?_
    refine kR (rV (q0 := 0) (ci := 7) hx hb hml hown hg hN hK hP hD (c_freshFlow l D cI cJ cZ ad b F G R) mw_134 mw_135 mw_136 mw_137 mw_110 pdv_X7_freshFlow ⟨Nat.le_of_ble_eq_true rfl, Nat.le_of_ble_eq_true rfl⟩ rfl rfl rfl hl.1 rfl (Nat.le_of_ble_eq_true rfl) dX7_freshLives_19 ⟨Nat.le_of_ble_eq_true rfl, Nat.le_of_ble_eq_true rfl⟩) hD hS hA (fun r_1 u_1 H locs hp hP hD hS => ?_)
    obtain ⟨rfl, b_2, F_3, G_4, rfl, hb_2⟩ := hp
    refine kV (rV (q0 := 4) (ci := 2) hx hb hml hown hg hN hK hP hD (c_follow l D cI cJ cZ ad b_2 F_3 G_4 R) mw_205 mw_206 mw_207 mw_208 mw_146 pdv_X2_follow ⟨Nat.le_of_ble_eq_true rfl, Nat.le_of_ble_eq_true rfl⟩ rfl rfl rfl hl.1 rfl (Nat.le_of_ble_eq_true rfl) dX7_freshLives_22 ⟨Nat.le_of_ble_eq_true rfl, Nat.le_of_ble_eq_true rfl⟩) hD hS hA (fun u_5 H locs hp hP hD hS => ?_)
    obtain ⟨F_7, G_8, rfl⟩ := hp
    refine lv_aload_n hx hb dX7_freshLives_25 rfl (lv_at hl 0 rfl) ?_
    refine va_get (D := D) (ci := 7) (v := .ref (ad 4)) (C := RX7) (T := TX7) (N := 6) hx hb hg inGX7 hown hK hP 0 rfl rfl 3 (by decide) (hg _ mw_204) (fun _ h9 => h9) rfl dX7_freshLives_26 ?_
    refine lv_iconst (v := 1) hx hb dX7_freshLives_29 (by decide) ?_
    refine va_putN (D := D) (ci := 2) (v := .int 1) (C := RX2) (T := TX2) (N := 3) hx hb hg inGX2 tyX2 tyX2_ok nmX2 hown hK hP hD hS 4 rfl rfl 2 (by decide) (hN.use nw_45) (fun _ h9 => h9) rfl (tyX2_ok 2 (by decide)) rfl rfl (Nat.le_of_ble_eq_true rfl) dX7_freshLives_30 (fun H locs hP hD hS => ?_)
    have hP : va_P D vwCl (XW ad cI cJ 0 (va_up b_2 3 1) F_7 G_8 ++ R) H := hP
    have hD : va_D A (XW ad cI cJ 0 (va_up b_2 3 1) F_7 G_8 ++ R) := hD
    refine lv_aload_n hx hb dX7_freshLives_33 rfl (lv_at hl 0 rfl) ?_
    refine va_get (D := D) (ci := 7) (v := .ref (ad 4)) (C := RX7) (T := TX7) (N := 6) hx hb hg inGX7 hown hK hP 0 rfl rfl 3 (by decide) (hg _ mw_204) (fun _ h9 => h9) rfl dX7_freshLives_34 ?_
    exact W.aret (v := .ref (ad 4)) hx hb hr (Or.inl ⟨_, rfl⟩) (Or.inr ⟨_, rfl⟩) (fun t ht hW => ⟨⟨(XW ad cI cJ 0 (va_up b_2 3 1) F_7 G_8 ++ R), (ad 4), rfl, trivial, ⟨rfl, _, _, _, rfl, fun k h0 h1 => by simp [va_up, h0, h1, hb_2]⟩, ⟨by rw [ht]; exact hP, va_K.moved hW.alike hK, hD⟩⟩, hS.F ht⟩) hS.2.2 dX7_freshLives_37
set_option maxHeartbeats 4000000 in
set_option maxRecDepth 100000 in
theorem c_freshReduction (l : Launch) (D : va_G) (cI cJ cZ : ClassId) (ad : Nat → Nat) (b : Nat → Int32) (F : Nat → Nat → Int32) (G : Nat → Nat → Int64) (R : va_W) : CT l D (TY cI cJ cZ) yX7_freshReduction (.code yX7_freshReduction cX7_freshReduction 1 (some (Jvm.ClassFile.FieldType.object "OrielChart$Reduction"))) 4 0 0 (XW ad cI cJ 0 b F G ++ R) [.ref (ad 0)] (QR D (TY cI cJ cZ) (fun r u => r = ad 5 ∧ ∃ b' F' G', u = XW ad cI cJ 0 b' F' G' ++ R ∧ ∀ k, k ≠ 0 → k ≠ 4 → b' k = b k)) := by
  refine ent (by decide) (Nat.le_of_ble_eq_true rfl) ?_
  intro p e s m below meth c ls A hx hb hr hg hown hml hlocks hnm hP hK hD hS hA hN hl
  have hl : lv_has ls 1 [(0, .ref (ad 0))] := hl
  refine lv_aload_n hx hb dX7_freshReduction_0 rfl (lv_at hl 0 rfl) ?_
  refine va_get (D := D) (ci := 7) (v := .ref (ad 5)) (C := RX7) (T := TX7) (N := 6) hx hb hg inGX7 hown hK hP 0 rfl rfl 4 (by decide) (hg _ mw_209) (fun _ h9 => h9) rfl dX7_freshReduction_1 ?_
  refine va_getN (D := D) (ci := 5) (v := .int (b 4)) (C := RX5) (T := TX5) (N := 8) hx hb hg inGX5 hown hK hP 5 rfl rfl 7 (by decide) (hN.use nw_52) (fun _ h9 => h9) rfl dX7_freshReduction_4 ?_
  refine lv_if_ne (tgt := 29) hx hb dX7_freshReduction_7 (by decide) (fun c_7 => ?_) (fun c_7 => ?_)
  · refine lv_aload_n hx hb dX7_freshReduction_29 rfl (lv_at hl 0 rfl) ?_
    refine va_get (D := D) (ci := 7) (v := .ref (ad 5)) (C := RX7) (T := TX7) (N := 6) hx hb hg inGX7 hown hK hP 0 rfl rfl 4 (by decide) (hg _ mw_209) (fun _ h9 => h9) rfl dX7_freshReduction_30 ?_
    exact W.aret (v := .ref (ad 5)) hx hb hr (Or.inl ⟨_, rfl⟩) (Or.inr ⟨_, rfl⟩) (fun t ht hW => ⟨⟨(XW ad cI cJ 0 b F G ++ R), (ad 5), rfl, trivial, ⟨rfl, b, F, G, rfl, fun k _ _ => rfl⟩, ⟨by rw [ht]; exact hP, va_K.moved hW.alike hK, hD⟩⟩, hS.F ht⟩) hS.2.2 dX7_freshReduction_33
  · refine lv_aload_n hx hb dX7_freshReduction_10 rfl (lv_at hl 0 rfl) ?_
    refine va_get (D := D) (ci := 7) (v := .ref (ad 5)) (C := RX7) (T := TX7) (N := 6) hx hb hg inGX7 hown hK hP 0 rfl rfl 4 (by decide) (hg _ mw_209) (fun _ h9 => h9) rfl dX7_freshReduction_11 ?_
    refine lv_aload_n hx hb dX7_freshReduction_14 rfl (lv_at hl 0 rfl) ?_
    refine kR (rV (q0 := 0) (ci := 7) hx hb hml hown hg hN hK hP hD (c_freshFlow l D cI cJ cZ ad b F G R) mw_134 mw_135 mw_136 mw_137 mw_110 pdv_X7_freshFlow ⟨Nat.le_of_ble_eq_true rfl, Nat.le_of_ble_eq_true rfl⟩ rfl rfl rfl hl.1 rfl (Nat.le_of_ble_eq_true rfl) dX7_freshReduction_15 ⟨Nat.le_of_ble_eq_true rfl, Nat.le_of_ble_eq_true rfl⟩) hD hS hA (fun r_1 u_1 H locs hp hP hD hS => ?_)
    obtain ⟨rfl, b_2, F_3, G_4, rfl, hb_2⟩ := hp
    refine kV (rV (q0 := 5) (ci := 5) hx hb hml hown hg hN hK hP hD (c_reduce l D cI cJ cZ ad b_2 F_3 G_4 R) mw_210 mw_211 mw_212 mw_213 mw_160 pdv_X5_reduce ⟨Nat.le_of_ble_eq_true rfl, Nat.le_of_ble_eq_true rfl⟩ rfl rfl rfl hl.1 rfl (Nat.le_of_ble_eq_true rfl) dX7_freshReduction_18 ⟨Nat.le_of_ble_eq_true rfl, Nat.le_of_ble_eq_true rfl⟩) hD hS hA (fun u_5 H locs hp hP hD hS => ?_)
    obtain ⟨F_7, G_8, rfl⟩ := hp
    refine lv_aload_n hx hb dX7_freshReduction_21 rfl (lv_at hl 0 rfl) ?_
    refine va_get (D := D) (ci := 7) (v := .ref (ad 5)) (C := RX7) (T := TX7) (N := 6) hx hb hg inGX7 hown hK hP 0 rfl rfl 4 (by decide) (hg _ mw_209) (fun _ h9 => h9) rfl dX7_freshReduction_22 ?_
    refine lv_iconst (v := 1) hx hb dX7_freshReduction_25 (by decide) ?_
    refine va_putN (D := D) (ci := 5) (v := .int 1) (C := RX5) (T := TX5) (N := 8) hx hb hg inGX5 tyX5 tyX5_ok nmX5 hown hK hP hD hS 5 rfl rfl 7 (by decide) (hN.use nw_52) (fun _ h9 => h9) rfl (tyX5_ok 7 (by decide)) rfl rfl (Nat.le_of_ble_eq_true rfl) dX7_freshReduction_26 (fun H locs hP hD hS => ?_)
    have hP : va_P D vwCl (XW ad cI cJ 0 (va_up b_2 4 1) F_7 G_8 ++ R) H := hP
    have hD : va_D A (XW ad cI cJ 0 (va_up b_2 4 1) F_7 G_8 ++ R) := hD
    refine lv_aload_n hx hb dX7_freshReduction_29 rfl (lv_at hl 0 rfl) ?_
    refine va_get (D := D) (ci := 7) (v := .ref (ad 5)) (C := RX7) (T := TX7) (N := 6) hx hb hg inGX7 hown hK hP 0 rfl rfl 4 (by decide) (hg _ mw_209) (fun _ h9 => h9) rfl dX7_freshReduction_30 ?_
    exact W.aret (v := .ref (ad 5)) hx hb hr (Or.inl ⟨_, rfl⟩) (Or.inr ⟨_, rfl⟩) (fun t ht hW => ⟨⟨(XW ad cI cJ 0 (va_up b_2 4 1) F_7 G_8 ++ R), (ad 5), rfl, trivial, ⟨rfl, _, _, _, rfl, fun k h0 h1 => by simp [va_up, h0, h1, hb_2]⟩, ⟨by rw [ht]; exact hP, va_K.moved hW.alike hK, hD⟩⟩, hS.F ht⟩) hS.2.2 dX7_freshReduction_33
set_option maxHeartbeats 4000000 in
set_option maxRecDepth 100000 in
theorem c_freshPicture (l : Launch) (D : va_G) (cI cJ cZ : ClassId) (ad : Nat → Nat) (b : Nat → Int32) (F : Nat → Nat → Int32) (G : Nat → Nat → Int64) (R : va_W) : CT l D (TY cI cJ cZ) yX7_freshPicture (.code yX7_freshPicture cX7_freshPicture 1 (some (Jvm.ClassFile.FieldType.object "OrielChart$Picture"))) 4 0 0 (XW ad cI cJ 0 b F G ++ R) [.ref (ad 0)] (QR D (TY cI cJ cZ) (fun r u => r = ad 6 ∧ ∃ b' F' G', u = XW ad cI cJ 0 b' F' G' ++ R ∧ (b 6 = 0 → b' 5 = 0) ∧ (¬ b 6 = 0 → b' 5 = b 5) ∧ ∀ k, k ≠ 0 → k ≠ 6 → k ≠ 5 → b' k = b k)) := by
  refine ent (by decide) (Nat.le_of_ble_eq_true rfl) ?_
  intro p e s m below meth c ls A hx hb hr hg hown hml hlocks hnm hP hK hD hS hA hN hl
  have hl : lv_has ls 1 [(0, .ref (ad 0))] := hl
  refine lv_aload_n hx hb dX7_freshPicture_0 rfl (lv_at hl 0 rfl) ?_
  refine va_get (D := D) (ci := 7) (v := .ref (ad 6)) (C := RX7) (T := TX7) (N := 6) hx hb hg inGX7 hown hK hP 0 rfl rfl 5 (by decide) (hg _ mw_214) (fun _ h9 => h9) rfl dX7_freshPicture_1 ?_
  refine va_getN (D := D) (ci := 3) (v := .int (b 6)) (C := RX3) (T := TX3) (N := 16) hx hb hg inGX3 hown hK hP 6 rfl rfl 15 (by decide) (hN.use nw_64) (fun _ h9 => h9) rfl dX7_freshPicture_4 ?_
  refine lv_if_ne (tgt := 29) hx hb dX7_freshPicture_7 (by decide) (fun c_7 => ?_) (fun c_7 => ?_)
  · refine lv_aload_n hx hb dX7_freshPicture_29 rfl (lv_at hl 0 rfl) ?_
    refine va_get (D := D) (ci := 7) (v := .ref (ad 6)) (C := RX7) (T := TX7) (N := 6) hx hb hg inGX7 hown hK hP 0 rfl rfl 5 (by decide) (hg _ mw_214) (fun _ h9 => h9) rfl dX7_freshPicture_30 ?_
    exact W.aret (v := .ref (ad 6)) hx hb hr (Or.inl ⟨_, rfl⟩) (Or.inr ⟨_, rfl⟩) (fun t ht hW => ⟨⟨(XW ad cI cJ 0 b F G ++ R), (ad 6), rfl, trivial, ⟨rfl, b, F, G, rfl, fun h => absurd h c_7, fun _ => rfl, fun k _ _ _ => rfl⟩, ⟨by rw [ht]; exact hP, va_K.moved hW.alike hK, hD⟩⟩, hS.F ht⟩) hS.2.2 dX7_freshPicture_33
  · refine lv_aload_n hx hb dX7_freshPicture_10 rfl (lv_at hl 0 rfl) ?_
    refine va_get (D := D) (ci := 7) (v := .ref (ad 6)) (C := RX7) (T := TX7) (N := 6) hx hb hg inGX7 hown hK hP 0 rfl rfl 5 (by decide) (hg _ mw_214) (fun _ h9 => h9) rfl dX7_freshPicture_11 ?_
    refine lv_aload_n hx hb dX7_freshPicture_14 rfl (lv_at hl 0 rfl) ?_
    refine kR (rV (q0 := 0) (ci := 7) hx hb hml hown hg hN hK hP hD (c_freshFlow l D cI cJ cZ ad b F G R) mw_134 mw_135 mw_136 mw_137 mw_110 pdv_X7_freshFlow ⟨Nat.le_of_ble_eq_true rfl, Nat.le_of_ble_eq_true rfl⟩ rfl rfl rfl hl.1 rfl (Nat.le_of_ble_eq_true rfl) dX7_freshPicture_15 ⟨Nat.le_of_ble_eq_true rfl, Nat.le_of_ble_eq_true rfl⟩) hD hS hA (fun r_1 u_1 H locs hp hP hD hS => ?_)
    obtain ⟨rfl, b_2, F_3, G_4, rfl, hb_2⟩ := hp
    refine kV (rV (q0 := 6) (ci := 3) hx hb hml hown hg hN hK hP hD (c_draw l D cI cJ cZ ad b_2 F_3 G_4 R) mw_215 mw_216 mw_217 mw_218 mw_179 pdv_X3_draw ⟨Nat.le_of_ble_eq_true rfl, Nat.le_of_ble_eq_true rfl⟩ rfl rfl rfl hl.1 rfl (Nat.le_of_ble_eq_true rfl) dX7_freshPicture_18 ⟨Nat.le_of_ble_eq_true rfl, Nat.le_of_ble_eq_true rfl⟩) hD hS hA (fun u_5 H locs hp hP hD hS => ?_)
    obtain ⟨F_7, G_8, rfl⟩ := hp
    refine lv_aload_n hx hb dX7_freshPicture_21 rfl (lv_at hl 0 rfl) ?_
    refine va_get (D := D) (ci := 7) (v := .ref (ad 6)) (C := RX7) (T := TX7) (N := 6) hx hb hg inGX7 hown hK hP 0 rfl rfl 5 (by decide) (hg _ mw_214) (fun _ h9 => h9) rfl dX7_freshPicture_22 ?_
    refine lv_iconst (v := 1) hx hb dX7_freshPicture_25 (by decide) ?_
    refine va_putN (D := D) (ci := 3) (v := .int 1) (C := RX3) (T := TX3) (N := 16) hx hb hg inGX3 tyX3 tyX3_ok nmX3 hown hK hP hD hS 6 rfl rfl 15 (by decide) (hN.use nw_64) (fun _ h9 => h9) rfl (tyX3_ok 15 (by decide)) rfl rfl (Nat.le_of_ble_eq_true rfl) dX7_freshPicture_26 (fun H locs hP hD hS => ?_)
    have hP : va_P D vwCl (XW ad cI cJ 0 (va_up (va_up b_2 5 0) 6 1) F_7 G_8 ++ R) H := hP
    have hD : va_D A (XW ad cI cJ 0 (va_up (va_up b_2 5 0) 6 1) F_7 G_8 ++ R) := hD
    refine lv_aload_n hx hb dX7_freshPicture_29 rfl (lv_at hl 0 rfl) ?_
    refine va_get (D := D) (ci := 7) (v := .ref (ad 6)) (C := RX7) (T := TX7) (N := 6) hx hb hg inGX7 hown hK hP 0 rfl rfl 5 (by decide) (hg _ mw_214) (fun _ h9 => h9) rfl dX7_freshPicture_30 ?_
    exact W.aret (v := .ref (ad 6)) hx hb hr (Or.inl ⟨_, rfl⟩) (Or.inr ⟨_, rfl⟩) (fun t ht hW => ⟨⟨(XW ad cI cJ 0 (va_up (va_up b_2 5 0) 6 1) F_7 G_8 ++ R), (ad 6), rfl, trivial, ⟨rfl, _, _, _, rfl, fun _ => by simp [va_up], fun h => absurd c_7 h, fun k h0 h1 h5 => by simp [va_up, h0, h1, h5, hb_2]⟩, ⟨by rw [ht]; exact hP, va_K.moved hW.alike hK, hD⟩⟩, hS.F ht⟩) hS.2.2 dX7_freshPicture_33
end
section
/-! ===== methods that throw: the same contract, with the class of what is thrown ===== -/
def ST (A : Nat → Prop) (U : State) : Prop := vx_Zq Bundle.tN "UNASSIGNED_STACK" Bundle.steD A U U.heap ∧ vx_Zq Bundle.tN "SUPPRESSED_SENTINEL" Bundle.listD A U U.heap
def STRS : List (Nat × String) := [(57, "no such place"), (62, "no such kind"), (71, "no such target"), (75, "there are 40 instructions"), (321, "no such instruction"), (323, "no such block"), (325, "no such edge"), (327, "no such step"), (329, "no such layer"), (331, "1 to 20 sweeps only")]
def SR (U : State) : Prop := ∀ q ∈ STRS, ∃ sa : Nat, vk_R "OrielChart" q.1 q.2 sa U
theorem SR.warm {s U : State} (h : SR s) (hW : s.WarmedH U.vm) : SR U := fun q hq => by
  obtain ⟨sa, h9⟩ := h q hq
  exact ⟨sa, vk_R.warm hW h9⟩
theorem SR.same {s U : State} (h : SR s) (hv : U.vm = s.vm) : SR U := fun q hq => by
  obtain ⟨sa, h9⟩ := h q hq
  exact ⟨sa, vk_R.same hv h9⟩
def PBX (D : va_G) (tys : List (ClassId × FieldType)) (w : va_W) (sz : Nat) : State → Prop := fun U => PB D tys w sz U ∧ ST (va_A w sz) U ∧ SR U
abbrev XE (PX : Prop) (E : String) (A : Nat → Prop) : String → State → State → Prop := vx_X (fun _ : Unit => PX) (fun E' _ _ => E' = E) A
abbrev CX (l : Launch) (D : va_G) (tys : List (ClassId × FieldType)) (y : MethodName) (ck : Cond) (d mc ms : Nat) (w : va_W) (As : List Value) (Qc : (Nat → Prop) → Array Value → State → Outcome → State → Prop) (E : String) (PX : Prop) : Prop :=
  ∀ sz : Nat, vx_Met l y (ck :: GW) (rmf d mc ms) (va_Pc As (PBX D tys w sz)) (Qc (va_A w sz)) (XE PX E (va_A w sz)) mc ms (va_A w sz)
theorem blindPBX {As : List Value} {D : va_G} {tys : List (ClassId × FieldType)} {w : va_W} {sz : Nat} : FrameBlind (va_Pc As (PBX D tys w sz)) := fun a U g mk q => by
  obtain ⟨q0, q1, q2, q3⟩ := q
  obtain ⟨-, b1⟩ := blindPB a U g mk ⟨q0, q1⟩
  exact ⟨q0, b1, ⟨vx_Zq.moved (u := U) (U := U.calling g mk a) (Vm.Alike.refl U.vm) q2.1, vx_Zq.moved (u := U) (U := U.calling g mk a) (Vm.Alike.refl U.vm) q2.2⟩, q3.same rfl⟩
theorem entX {l : Launch} {D : va_G} {tys : List (ClassId × FieldType)} {y : MethodName} {cc : ByteArray} {maxL : Nat} {ret : Option FieldType} {d mc ms : Nat} {w : va_W} {As : List Value} {Qc : (Nat → Prop) → Array Value → State → Outcome → State → Prop} {E : String} {PX : Prop} (hy : plainName y.cls = true) (hlen : (lg_sl As).length ≤ maxL)
    (body : ∀ (p : Program) (e : Env) (s : State) (m : MethodId) (below : List Frame) (meth : Method) (c : Code) (ls : Array Slot) (A : Nat → Prop), p.tables.exec = Jvm.exec → c.code = cc → meth.sig.returnType = ret → (∀ w ∈ GW, w.before As.toArray s = true) → s.vm.findClass y.cls = some m.cls → c.maxLocals = maxL → meth.locks = false → meth.name = y.name →
      va_P D vwCl w s.heap → va_K D vwCl tys s → va_D A w → va_S A s.heap s.heap [] → (∀ q, s.heap.size ≤ q → A q) → NW s → lv_has ls maxL (lv_args 0 As) → (∀ x ∈ c.exceptionTable.toList, False) → ST A s → SR s → A = va_A w s.heap.size →
      W p l e (rmf d mc ms) s m As.toArray below meth c s.heap [] 0 0 (vx_MQ below (Qc A) (XE PX E A) As.toArray s mc ms A) (F0 m 0 ls [])) : CX l D tys y (.code y cc maxL ret) d mc ms w As Qc E PX := by
  intro sz
  refine vx_ofW (cc := cc) (maxL := maxL) (ret := ret) hy rfl ?_
  intro p e s m args below meth c s₁ B hml hE hv
  obtain ⟨rfl, ⟨hsz, hP, hK, hD0, hN⟩, hST, hSR⟩ := hv
  have hts := atoms_spec (ws := (.code y cc maxL ret) :: GW) B.pre
  subst hsz
  have hD := hD0.self (sz := s.heap.size)
  have hl := lv_entry As (n := maxL) hlen
  rw [lg_entry_eq]
  exact body p e s m below meth c _ (va_A w s.heap.size) B.exec B.bytes B.returns (fun w hw => hts w (List.mem_cons_of_mem _ hw)) (findClass_of_methodNamed B.named) hml B.notSynchronized (name_of_methodNamed B.named B.method).1 hP hK hD va_S.rf (fun q h => Or.inr h) hN hl hE hST hSR rfl
/-- the words of a throw -/
theorem hat_of {own X : String} {ic : Nat} {names : List String} {args : Array Value} {s : State} (h1 : ∀ w ∈ (vx_atS own ic X names).filter goodWord, w ∈ lw_tbl) (h2 : ∀ w ∈ (vx_atS own ic X names).filter (fun w => !goodWord w), w ∈ NLm) (hg : ∀ w ∈ GW, w.before args s = true) (hN : NW s) : ∀ w ∈ vx_atS own ic X names, w.before args s = true :=
  vx_hat (fun w hw => hg w (gw_mem (h1 w hw) (List.mem_filter.mp hw).2)) h2 (fun w hw => hN.use hw)
abbrev EIAE : String := "java/lang/IllegalArgumentException"
abbrev EIOB : String := "java/lang/IndexOutOfBoundsException"
abbrev ENM : List String := ["java/lang/RuntimeException", "java/lang/Exception"]
theorem at1a : ∀ w ∈ (vx_atS "OrielChart" 59 EIAE ENM).filter goodWord, w ∈ lw_tbl := by decide +kernel
theorem at1b : ∀ w ∈ (vx_atS "OrielChart" 59 EIAE ENM).filter (fun w => !goodWord w), w ∈ NLm := by decide +kernel
theorem at2a : ∀ w ∈ (vx_atS "OrielChart" 261 EIOB ENM).filter goodWord, w ∈ lw_tbl := by decide +kernel
theorem at2b : ∀ w ∈ (vx_atS "OrielChart" 261 EIOB ENM).filter (fun w => !goodWord w), w ∈ NLm := by decide +kernel
theorem gd1 : ∀ w ∈ Cond.classLink "OrielChart" 55 EIAE :: Cond.initialized EIAE :: vx_atS "OrielChart" 59 EIAE ENM, vx_ot w = true := by decide +kernel
theorem gd2 : ∀ w ∈ Cond.classLink "OrielChart" 259 EIOB :: Cond.initialized EIOB :: vx_atS "OrielChart" 261 EIOB ENM, vx_ot w = true := by decide +kernel
theorem fitE : Bundle.fit EIAE = true ∧ Bundle.fit EIOB = true ∧ ∀ n ∈ ENM, Bundle.fit n = true := by decide +kernel
section XX
variable {p : Program} {l : Launch} {e : Env} {R : Room} {s : State} {m : MethodId} {args : Array Value} {below : List Frame} {meth : Method} {c : Code} {H : Heap} {locs : List Loc} {cells slots : Nat} {Q : State → Prop}
variable {cc bytes : ByteArray} {pc : Nat} {ls : Array Slot} {st0 rest : List Value} {D : va_G} {tys : List (ClassId × FieldType)} {A : Nat → Prop} {w : va_W}
variable {PX PX2 : Prop} {y : MethodName} {maxL nL mc ms n index d q0 ci N b : Nat} {ret : Option FieldType} {own C E : String} {T : u_T} {As fs : List Value} {Qc : (Nat → Prop) → Array Value → State → Outcome → State → Prop}
theorem st_pre {U : State} (hST : ST A s) (hD : va_D A w) (hS : va_S A s.heap H locs) (hA : ∀ q, s.heap.size ≤ q → A q) (hU : U.heap = H) (hW : s.WarmedH U.vm) : ST (va_A w H.size) U := by
  have hF := fr_all hD hS hA
  refine ⟨?_, ?_⟩
  · rw [hU]; exact vx_Zq.moved hW.alike ((hST.1.kept hS.2.1).narrow hF)
  · rw [hU]; exact vx_Zq.moved hW.alike ((hST.2.kept hS.2.1).narrow hF)
theorem hpreX (hK : va_K D vwCl tys s) (hN : NW s) (hP : va_P D vwCl w H) (hD : va_D A w) (hST : ST A s) (hSR : SR s) (hS : va_S A s.heap H locs) (hA : ∀ q, s.heap.size ≤ q → A q) (av : List Value) : PreS s H (va_Pc av (PBX D tys w H.size)) av :=
  ⟨blindPBX, fun U hU hW => ⟨rfl, ((hpre hK hN hP hD av).2 U hU hW).2, st_pre hST hD hS hA hU hW, hSR.warm hW⟩⟩
theorem rXV (hx : p.tables.exec = Jvm.exec) (hb : c.code = cc) (hml : c.maxLocals = nL) (hown : s.vm.findClass own = some m.cls) (hg : ∀ w ∈ GW, w.before args s = true) (hN : NW s) (hK : va_K D vwCl tys s) (hP : va_P D vwCl w H) (hD : va_D A w) (hST : ST A s) (hSR : SR s) (hS : va_S A s.heap H locs) (hA : ∀ q, s.heap.size ≤ q → A q)
    (hM : CX l D tys y (.code y bytes maxL ret) d mc ms w (.ref b :: As) Qc E PX) (m5 : Cond.code y bytes maxL ret ∈ GW) (m1 : Cond.methodLink own index y ∈ GW) (m2 : Cond.instanceMethod y ∈ GW) (m3 : Cond.selects C y y ∈ GW) (m4 : Cond.initialized C ∈ GW)
    (hd : y.cls = C ∧ y.cls ≠ "java/lang/invoke/MethodHandle" ∧ y.cls ≠ "java/lang/invoke/VarHandle" ∧ (parseMethodDescriptor y.desc).map (fun d => d.parameters.length) = some n) (hR : (rmf d mc ms).frames + 1 ≤ R.frames ∧ 8 + (maxL + 11) + (rmf d mc ms).locals ≤ R.locals)
    (hc : vwCl[ci]? = some (C, T, N)) (hq : w[q0]? = some (b, .inr (ci, fs))) (hn : As.length = n) (hl : ls.size = nL) (hst : st0 = As.reverse ++ .ref b :: rest) (hW : (rest.map fun v => v.category).sum ≤ 8) (hdg : decode cc pc = .ok (.invokevirtual index, 3)) (hf : cells + mc ≤ R.cells ∧ slots + ms ≤ R.slots) :
    vx_Run p l e R s m args below meth c H locs cells slots mc ms (F0 m pc ls st0) rest (Qc (va_A w H.size) (Value.ref b :: As).toArray) (XE PX E (va_A w H.size)) (va_A w H.size) :=
  vx_runV (As := As) (rest := rest) (C := C) ⟨hx, hb, hml, hown, hg⟩ (hM H.size) (cwV n hg (gw_V m5 m1 m2 m3 m4) rfl rfl rfl hd hR) ⟨blindPBX, va_recv (ci := ci) (q0 := q0) hK hP hc hq, (hpreX hK hN hP hD hST hSR hS hA _).2⟩ rfl hn hl hst (lv_room (m := m) (pc := pc) (ls := ls) (rest := st0) hW) hdg hf
theorem rXS (hx : p.tables.exec = Jvm.exec) (hb : c.code = cc) (hml : c.maxLocals = nL) (hown : s.vm.findClass own = some m.cls) (hg : ∀ w ∈ GW, w.before args s = true) (hN : NW s) (hK : va_K D vwCl tys s) (hP : va_P D vwCl w H) (hD : va_D A w) (hST : ST A s) (hSR : SR s) (hS : va_S A s.heap H locs) (hA : ∀ q, s.heap.size ≤ q → A q)
    (hM : CX l D tys y (.code y bytes maxL ret) d mc ms w As Qc E PX) (m5 : Cond.code y bytes maxL ret ∈ GW) (m1 : Cond.methodLink own index y ∈ GW) (m2 : Cond.static y ∈ GW) (m4 : Cond.initialized y.cls ∈ GW)
    (hd : y.cls ≠ "java/lang/invoke/MethodHandle" ∧ y.cls ≠ "java/lang/invoke/VarHandle" ∧ (parseMethodDescriptor y.desc).map (fun d => d.parameters.length) = some n) (hR : (rmf d mc ms).frames + 1 ≤ R.frames ∧ 8 + (maxL + 11) + (rmf d mc ms).locals ≤ R.locals)
    (hn : As.length = n) (hl : ls.size = nL) (hst : st0 = As.reverse ++ rest) (hW : (rest.map fun v => v.category).sum ≤ 8) (hdg : decode cc pc = .ok (.invokestatic index, 3)) (hf : cells + mc ≤ R.cells ∧ slots + ms ≤ R.slots) :
    vx_Run p l e R s m args below meth c H locs cells slots mc ms (F0 m pc ls st0) rest (Qc (va_A w H.size) As.toArray) (XE PX E (va_A w H.size)) (va_A w H.size) :=
  vx_runS (As := As) (rest := rest) ⟨hx, hb, hml, hown, hg⟩ (hM H.size) (va_cwS n hg (gw_S m5 m1 m2 m4) rfl rfl rfl hd hR) (hpreX hK hN hP hD hST hSR hS hA _) rfl hn hl hst (lv_room (m := m) (pc := pc) (ls := ls) (rest := st0) hW) hdg hf
variable {H0 : Heap} {a9 : Array Value}
theorem kXI {post : Int32 → va_W → Prop} (hr : vx_Run p l e R s m args below meth c H locs cells slots mc ms (F0 m pc ls st0) rest (QI D tys post (va_A w H.size) a9) (XE PX E (va_A w H.size)) (va_A w H.size)) (hD : va_D A w) (hS : va_S A H0 H locs) (hA : ∀ q, H0.size ≤ q → A q)
    (kx : ∀ (ce : Cell) (q9 : Addr) (H1 : Heap) (locs1 : List Loc), PX → H.size ≤ H1.size → (∀ q : Nat, q < H.size → ¬ va_A w H.size q → H1[q]? = H[q]?) → va_S A H0 H1 locs1 → H1[q9]? = some ce → ce.vm = .none → s.vm.findClass E = some ce.cls → vx_W p l e R s m args below meth c H1 locs1 (cells + mc) (slots + ms) Q (F0 m pc ls rest) q9)
    (kk : ∀ (r : Int32) (u : va_W) (H1 : Heap) (locs1 : List Loc), post r u → va_P D vwCl u H1 → va_D A u → va_S A H0 H1 locs1 → W p l e R s m args below meth c H1 locs1 (cells + mc) (slots + ms) Q (F0 m (pc + 3) ls (.int r :: rest))) : W p l e R s m args below meth c H locs cells slots Q (F0 m pc ls st0) :=
  vx_calli hr hS (fun q _ h => fr_all hD hS hA q h) (fr_all hD hS hA) (fun q _ h => fr_all hD hS hA q h) (fun E' ce q9 u t H1 locs1 ht hvm hp hB hz hk hS1 h1 h2 h3 => by cases hB; exact kx ce q9 H1 locs1 hp hz hk hS1 h1 h2 h3)
    (fun r u t H1 locs1 ht hvm hw hB hz1 hk1 hS1 => kk r u H1 locs1 hw (by rw [← ht]; exact hB.1) (hB.2.2.weaken (fun k q _ h => fr_all hD hS hA q.1 h)) hS1)
theorem kXV {post : va_W → Prop} (hr : vx_Run p l e R s m args below meth c H locs cells slots mc ms (F0 m pc ls st0) rest (QV D tys post (va_A w H.size) a9) (XE PX E (va_A w H.size)) (va_A w H.size)) (hD : va_D A w) (hS : va_S A H0 H locs) (hA : ∀ q, H0.size ≤ q → A q)
    (kx : ∀ (ce : Cell) (q9 : Addr) (H1 : Heap) (locs1 : List Loc), PX → H.size ≤ H1.size → (∀ q : Nat, q < H.size → ¬ va_A w H.size q → H1[q]? = H[q]?) → va_S A H0 H1 locs1 → H1[q9]? = some ce → ce.vm = .none → s.vm.findClass E = some ce.cls → vx_W p l e R s m args below meth c H1 locs1 (cells + mc) (slots + ms) Q (F0 m pc ls rest) q9)
    (kk : ∀ (u : va_W) (H1 : Heap) (locs1 : List Loc), post u → va_P D vwCl u H1 → va_D A u → va_S A H0 H1 locs1 → W p l e R s m args below meth c H1 locs1 (cells + mc) (slots + ms) Q (F0 m (pc + 3) ls rest)) : W p l e R s m args below meth c H locs cells slots Q (F0 m pc ls st0) :=
  vx_callv hr hS (fun q _ h => fr_all hD hS hA q h) (fr_all hD hS hA) (fun q _ h => fr_all hD hS hA q h) (fun E' ce q9 u t H1 locs1 ht hvm hp hB hz hk hS1 h1 h2 h3 => by cases hB; exact kx ce q9 H1 locs1 hp hz hk hS1 h1 h2 h3)
    (fun u t H1 locs1 ht hvm hw hB hz1 hk1 hS1 => kk u H1 locs1 hw (by rw [← ht]; exact hB.1) (hB.2.2.weaken (fun k q _ h => fr_all hD hS hA q.1 h)) hS1)
/-- it goes on to the caller -/
theorem xout {ce : Cell} {q : Addr} (hpx : PX) (hE : ∀ x ∈ c.exceptionTable.toList, False) (hlocks : meth.locks = false) (hS : va_S A s.heap H locs) (h1 : H[q]? = some ce) (h2 : ce.vm = .none) (h3 : s.vm.findClass E = some ce.cls) (hc : cells ≤ mc) (hs : slots ≤ ms) :
    vx_W p l e R s m args below meth c H locs cells slots (vx_MQ below (Qc A) (XE PX E A) args s mc ms A) (F0 m pc ls rest) q :=
  vx_out (fun x hx => (hE x hx).elim) hlocks h1 h2 h3 (fun t ht hv => ⟨(), hpx, rfl, hS.F ht⟩) hS.2.2 hc hs
theorem xE {E' : String} (h : E' = E) (hpx : PX) (hS : va_S A s.heap H locs) : ∀ t : State, s.vm.Alike t.vm → H.size ≤ t.heap.size → (∀ q : Nat, q < H.size → t.heap[q]? = H[q]?) → XE PX E A E' s t :=
  fun t hv h1 h2 => ⟨(), hpx, h, Nat.le_trans hS.1 h1, fun q hq hA9 => (h2 q (Nat.lt_of_lt_of_le hq hS.1)).trans (hS.2.1 q hq hA9)⟩
end XX
end
section
theorem dX7_needInstruction_0 : decode cX7_needInstruction 0 = .ok (.iload_n 1, 1) := by decide +kernel
theorem dX7_needInstruction_1 : decode cX7_needInstruction 1 = .ok (.ifCond .lt 14, 3) := by decide +kernel
theorem dX7_needInstruction_4 : decode cX7_needInstruction 4 = .ok (.iload_n 1, 1) := by decide +kernel
theorem dX7_needInstruction_5 : decode cX7_needInstruction 5 = .ok (.aload_n 0, 1) := by decide +kernel
theorem dX7_needInstruction_6 : decode cX7_needInstruction 6 = .ok (.getfield 10, 3) := by decide +kernel
theorem dX7_needInstruction_9 : decode cX7_needInstruction 9 = .ok (.getfield 51, 3) := by decide +kernel
theorem dX7_needInstruction_12 : decode cX7_needInstruction 12 = .ok (.if_icmp .lt 14, 3) := by decide +kernel
theorem dX7_needInstruction_15 : decode cX7_needInstruction 15 = .ok (.new 259, 3) := by decide +kernel
theorem dX7_needInstruction_18 : decode cX7_needInstruction 18 = .ok (.dup, 1) := by decide +kernel
theorem dX7_needInstruction_19 : decode cX7_needInstruction 19 = .ok (.ldc_w 321, 3) := by decide +kernel
theorem dX7_needInstruction_22 : decode cX7_needInstruction 22 = .ok (.invokespecial 261, 3) := by decide +kernel
theorem dX7_needInstruction_25 : decode cX7_needInstruction 25 = .ok (.athrow, 1) := by decide +kernel
theorem dX7_needBlock_0 : decode cX7_needBlock 0 = .ok (.iload_n 1, 1) := by decide +kernel
theorem dX7_needBlock_1 : decode cX7_needBlock 1 = .ok (.ifCond .lt 14, 3) := by decide +kernel
theorem dX7_needBlock_4 : decode cX7_needBlock 4 = .ok (.iload_n 1, 1) := by decide +kernel
theorem dX7_needBlock_5 : decode cX7_needBlock 5 = .ok (.aload_n 0, 1) := by decide +kernel
theorem dX7_needBlock_6 : decode cX7_needBlock 6 = .ok (.invokevirtual 123, 3) := by decide +kernel
theorem dX7_needBlock_9 : decode cX7_needBlock 9 = .ok (.getfield 127, 3) := by decide +kernel
theorem dX7_needBlock_12 : decode cX7_needBlock 12 = .ok (.if_icmp .lt 14, 3) := by decide +kernel
theorem dX7_needBlock_15 : decode cX7_needBlock 15 = .ok (.new 259, 3) := by decide +kernel
theorem dX7_needBlock_18 : decode cX7_needBlock 18 = .ok (.dup, 1) := by decide +kernel
theorem dX7_needBlock_19 : decode cX7_needBlock 19 = .ok (.ldc_w 323, 3) := by decide +kernel
theorem dX7_needBlock_22 : decode cX7_needBlock 22 = .ok (.invokespecial 261, 3) := by decide +kernel
theorem dX7_needBlock_25 : decode cX7_needBlock 25 = .ok (.athrow, 1) := by decide +kernel
theorem dX7_needEdge_0 : decode cX7_needEdge 0 = .ok (.iload_n 1, 1) := by decide +kernel
theorem dX7_needEdge_1 : decode cX7_needEdge 1 = .ok (.ifCond .lt 14, 3) := by decide +kernel
theorem dX7_needEdge_4 : decode cX7_needEdge 4 = .ok (.iload_n 1, 1) := by decide +kernel
theorem dX7_needEdge_5 : decode cX7_needEdge 5 = .ok (.aload_n 0, 1) := by decide +kernel
theorem dX7_needEdge_6 : decode cX7_needEdge 6 = .ok (.invokevirtual 123, 3) := by decide +kernel
theorem dX7_needEdge_9 : decode cX7_needEdge 9 = .ok (.getfield 147, 3) := by decide +kernel
theorem dX7_needEdge_12 : decode cX7_needEdge 12 = .ok (.if_icmp .lt 14, 3) := by decide +kernel
theorem dX7_needEdge_15 : decode cX7_needEdge 15 = .ok (.new 259, 3) := by decide +kernel
theorem dX7_needEdge_18 : decode cX7_needEdge 18 = .ok (.dup, 1) := by decide +kernel
theorem dX7_needEdge_19 : decode cX7_needEdge 19 = .ok (.ldc_w 325, 3) := by decide +kernel
theorem dX7_needEdge_22 : decode cX7_needEdge 22 = .ok (.invokespecial 261, 3) := by decide +kernel
theorem dX7_needEdge_25 : decode cX7_needEdge 25 = .ok (.athrow, 1) := by decide +kernel
theorem dX7_needStep_0 : decode cX7_needStep 0 = .ok (.iload_n 1, 1) := by decide +kernel
theorem dX7_needStep_1 : decode cX7_needStep 1 = .ok (.ifCond .lt 14, 3) := by decide +kernel
theorem dX7_needStep_4 : decode cX7_needStep 4 = .ok (.iload_n 1, 1) := by decide +kernel
theorem dX7_needStep_5 : decode cX7_needStep 5 = .ok (.aload_n 0, 1) := by decide +kernel
theorem dX7_needStep_6 : decode cX7_needStep 6 = .ok (.invokevirtual 214, 3) := by decide +kernel
theorem dX7_needStep_9 : decode cX7_needStep 9 = .ok (.getfield 218, 3) := by decide +kernel
theorem dX7_needStep_12 : decode cX7_needStep 12 = .ok (.if_icmp .lt 14, 3) := by decide +kernel
theorem dX7_needStep_15 : decode cX7_needStep 15 = .ok (.new 259, 3) := by decide +kernel
theorem dX7_needStep_18 : decode cX7_needStep 18 = .ok (.dup, 1) := by decide +kernel
theorem dX7_needStep_19 : decode cX7_needStep 19 = .ok (.ldc_w 327, 3) := by decide +kernel
theorem dX7_needStep_22 : decode cX7_needStep 22 = .ok (.invokespecial 261, 3) := by decide +kernel
theorem dX7_needStep_25 : decode cX7_needStep 25 = .ok (.athrow, 1) := by decide +kernel
theorem dX7_needLayer_0 : decode cX7_needLayer 0 = .ok (.iload_n 1, 1) := by decide +kernel
theorem dX7_needLayer_1 : decode cX7_needLayer 1 = .ok (.ifCond .lt 14, 3) := by decide +kernel
theorem dX7_needLayer_4 : decode cX7_needLayer 4 = .ok (.iload_n 1, 1) := by decide +kernel
theorem dX7_needLayer_5 : decode cX7_needLayer 5 = .ok (.aload_n 0, 1) := by decide +kernel
theorem dX7_needLayer_6 : decode cX7_needLayer 6 = .ok (.invokevirtual 234, 3) := by decide +kernel
theorem dX7_needLayer_9 : decode cX7_needLayer 9 = .ok (.getfield 238, 3) := by decide +kernel
theorem dX7_needLayer_12 : decode cX7_needLayer 12 = .ok (.if_icmp .lt 14, 3) := by decide +kernel
theorem dX7_needLayer_15 : decode cX7_needLayer 15 = .ok (.new 259, 3) := by decide +kernel
theorem dX7_needLayer_18 : decode cX7_needLayer 18 = .ok (.dup, 1) := by decide +kernel
theorem dX7_needLayer_19 : decode cX7_needLayer 19 = .ok (.ldc_w 329, 3) := by decide +kernel
theorem dX7_needLayer_22 : decode cX7_needLayer 22 = .ok (.invokespecial 261, 3) := by decide +kernel
theorem dX7_needLayer_25 : decode cX7_needLayer 25 = .ok (.athrow, 1) := by decide +kernel
theorem dX7_needSweeps_0 : decode cX7_needSweeps 0 = .ok (.iload_n 0, 1) := by decide +kernel
theorem dX7_needSweeps_1 : decode cX7_needSweeps 1 = .ok (.iconst 1, 1) := by decide +kernel
theorem dX7_needSweeps_2 : decode cX7_needSweeps 2 = .ok (.if_icmp .lt 9, 3) := by decide +kernel
theorem dX7_needSweeps_5 : decode cX7_needSweeps 5 = .ok (.iload_n 0, 1) := by decide +kernel
theorem dX7_needSweeps_6 : decode cX7_needSweeps 6 = .ok (.bipush 20, 2) := by decide +kernel
theorem dX7_needSweeps_8 : decode cX7_needSweeps 8 = .ok (.if_icmp .le 14, 3) := by decide +kernel
theorem dX7_needSweeps_11 : decode cX7_needSweeps 11 = .ok (.new 55, 3) := by decide +kernel
theorem dX7_needSweeps_14 : decode cX7_needSweeps 14 = .ok (.dup, 1) := by decide +kernel
theorem dX7_needSweeps_15 : decode cX7_needSweeps 15 = .ok (.ldc_w 331, 3) := by decide +kernel
theorem dX7_needSweeps_18 : decode cX7_needSweeps 18 = .ok (.invokespecial 59, 3) := by decide +kernel
theorem dX7_needSweeps_21 : decode cX7_needSweeps 21 = .ok (.athrow, 1) := by decide +kernel
theorem dX7_needSweeps_22 : decode cX7_needSweeps 22 = .ok (.return_, 1) := by decide +kernel
theorem mw_219 : Cond.classLink RX7 259 "java/lang/IndexOutOfBoundsException" ∈ GW := gw_mem (inT4 _ (List.mem_of_getElem? (i := 116) rfl)) rfl
theorem mw_220 : Cond.initialized "java/lang/IndexOutOfBoundsException" ∈ GW := gw_mem (inT1 _ (List.mem_of_getElem? (i := 16) rfl)) rfl
theorem mw_221 : Cond.code yX7_freshReduction cX7_freshReduction 1 (some (Jvm.ClassFile.FieldType.object "OrielChart$Reduction")) ∈ GW := gw_mem (inT3 _ (List.mem_of_getElem? (i := 6) rfl)) rfl
theorem mw_222 : Cond.methodLink RX7 214 yX7_freshReduction ∈ GW := gw_mem (inT3 _ (List.mem_of_getElem? (i := 3) rfl)) rfl
theorem mw_223 : Cond.instanceMethod yX7_freshReduction ∈ GW := gw_mem (inT3 _ (List.mem_of_getElem? (i := 5) rfl)) rfl
theorem mw_224 : Cond.selects RX7 yX7_freshReduction yX7_freshReduction ∈ GW := gw_mem (inTp (q := (yX7_freshReduction, 6)) (List.mem_of_getElem? (i := 11) rfl)) rfl
theorem mw_225 : Cond.code yX7_freshPicture cX7_freshPicture 1 (some (Jvm.ClassFile.FieldType.object "OrielChart$Picture")) ∈ GW := gw_mem (inT3 _ (List.mem_of_getElem? (i := 63) rfl)) rfl
theorem mw_226 : Cond.methodLink RX7 234 yX7_freshPicture ∈ GW := gw_mem (inT3 _ (List.mem_of_getElem? (i := 60) rfl)) rfl
theorem mw_227 : Cond.instanceMethod yX7_freshPicture ∈ GW := gw_mem (inT3 _ (List.mem_of_getElem? (i := 62) rfl)) rfl
theorem mw_228 : Cond.selects RX7 yX7_freshPicture yX7_freshPicture ∈ GW := gw_mem (inTp (q := (yX7_freshPicture, 6)) (List.mem_of_getElem? (i := 19) rfl)) rfl
theorem mw_229 : Cond.classLink RX7 55 "java/lang/IllegalArgumentException" ∈ GW := gw_mem (inT3 _ (List.mem_of_getElem? (i := 233) rfl)) rfl
theorem mw_230 : Cond.initialized "java/lang/IllegalArgumentException" ∈ GW := gw_mem (inT1 _ (List.mem_of_getElem? (i := 13) rfl)) rfl
theorem pdv_X7_freshReduction : yX7_freshReduction.cls = RX7 ∧ yX7_freshReduction.cls ≠ "java/lang/invoke/MethodHandle" ∧ yX7_freshReduction.cls ≠ "java/lang/invoke/VarHandle" ∧ (parseMethodDescriptor yX7_freshReduction.desc).map (fun d => d.parameters.length) = some 0 := by decide +kernel
theorem pdv_X7_freshPicture : yX7_freshPicture.cls = RX7 ∧ yX7_freshPicture.cls ≠ "java/lang/invoke/MethodHandle" ∧ yX7_freshPicture.cls ≠ "java/lang/invoke/VarHandle" ∧ (parseMethodDescriptor yX7_freshPicture.desc).map (fun d => d.parameters.length) = some 0 := by decide +kernel
set_option maxHeartbeats 4000000 in
set_option maxRecDepth 100000 in
theorem c_needInstruction (l : Launch) (hfl : l.stackTraces = false) (D : va_G) (cI cJ cZ : ClassId) (ad : Nat → Nat) (b : Nat → Int32) (F : Nat → Nat → Int32) (G : Nat → Nat → Int64) (R : va_W) (k : Int32) : CX l D (TY cI cJ cZ) yX7_needInstruction (.code yX7_needInstruction cX7_needInstruction 2 (none : Option FieldType)) 6 1 6 (XW ad cI cJ 0 b F G ++ R) [.ref (ad 0), .int k] (QV D (TY cI cJ cZ) (fun u => False)) EIOB (True) := by
  refine entX (by decide) (Nat.le_of_ble_eq_true rfl) ?_
  intro p e s m below meth c ls A hx hb hr hg hown hml hlocks hnm hP hK hD hS hA hN hl hE hST hSR hAw
  have hl : lv_has ls 2 [(0, .ref (ad 0)), (1, .int k)] := hl
  refine lv_iload_n hx hb dX7_needInstruction_0 rfl (lv_at hl 1 rfl) ?_
  refine lv_if_lt (tgt := 15) hx hb dX7_needInstruction_1 (by decide) (fun c_1 => ?_) (fun c_1 => ?_)
  · obtain ⟨sa9, hsa9⟩ := hSR (321, "no such instruction") (List.mem_of_getElem? (i := 4) rfl)
    exact vx_throwSW (names := ENM) (cls := EIOB) hx hb hfl hown fitE.2.1 fitE.2.2 (hg _ mw_219) (hg _ mw_220) hsa9 (hat_of at2a at2b hg hN) gd2 hST.1 hST.2 hS (by rw [hml]; exact hl.1) dX7_needInstruction_15 dX7_needInstruction_18 dX7_needInstruction_19 dX7_needInstruction_22 dX7_needInstruction_25 (fun x hx9 => (hE x hx9).elim) (Nat.le_of_ble_eq_true rfl) (Nat.le_of_ble_eq_true rfl) (Nat.le_of_ble_eq_true rfl) (Nat.le_of_ble_eq_true rfl) hlocks (xE rfl trivial hS) hS.2.2 (Nat.le_of_ble_eq_true rfl) (Nat.le_of_ble_eq_true rfl)
  · refine lv_iload_n hx hb dX7_needInstruction_4 rfl (lv_at hl 1 rfl) ?_
    refine lv_aload_n hx hb dX7_needInstruction_5 rfl (lv_at hl 0 rfl) ?_
    refine va_get (D := D) (ci := 7) (v := .ref (ad 1)) (C := RX7) (T := TX7) (N := 6) hx hb hg inGX7 hown hK hP 0 rfl rfl 0 (by decide) (hg _ mw_113) (fun _ h9 => h9) rfl dX7_needInstruction_6 ?_
    refine va_getN (D := D) (ci := 0) (v := .int 0) (C := RX0) (T := TX0) (N := 5) hx hb hg inGX0 hown hK hP 1 rfl rfl 4 (by decide) (hN.use nw_10) (fun _ h9 => h9) rfl dX7_needInstruction_9 ?_
    refine lv_icmp_lt (tgt := 26) hx hb dX7_needInstruction_12 (by decide) (fun c_12 => absurd c_12 c_1) (fun c_12 => ?_)
    obtain ⟨sa9, hsa9⟩ := hSR (321, "no such instruction") (List.mem_of_getElem? (i := 4) rfl)
    exact vx_throwSW (names := ENM) (cls := EIOB) hx hb hfl hown fitE.2.1 fitE.2.2 (hg _ mw_219) (hg _ mw_220) hsa9 (hat_of at2a at2b hg hN) gd2 hST.1 hST.2 hS (by rw [hml]; exact hl.1) dX7_needInstruction_15 dX7_needInstruction_18 dX7_needInstruction_19 dX7_needInstruction_22 dX7_needInstruction_25 (fun x hx9 => (hE x hx9).elim) (Nat.le_of_ble_eq_true rfl) (Nat.le_of_ble_eq_true rfl) (Nat.le_of_ble_eq_true rfl) (Nat.le_of_ble_eq_true rfl) hlocks (xE rfl trivial hS) hS.2.2 (Nat.le_of_ble_eq_true rfl) (Nat.le_of_ble_eq_true rfl)
set_option maxHeartbeats 4000000 in
set_option maxRecDepth 100000 in
theorem c_needBlock (l : Launch) (hfl : l.stackTraces = false) (D : va_G) (cI cJ cZ : ClassId) (ad : Nat → Nat) (b : Nat → Int32) (F : Nat → Nat → Int32) (G : Nat → Nat → Int64) (R : va_W) (k : Int32) : CX l D (TY cI cJ cZ) yX7_needBlock (.code yX7_needBlock cX7_needBlock 2 (none : Option FieldType)) 6 1 6 (XW ad cI cJ 0 b F G ++ R) [.ref (ad 0), .int k] (QV D (TY cI cJ cZ) (fun u => False)) EIOB (True) := by
  refine entX (by decide) (Nat.le_of_ble_eq_true rfl) ?_
  intro p e s m below meth c ls A hx hb hr hg hown hml hlocks hnm hP hK hD hS hA hN hl hE hST hSR hAw
  have hl : lv_has ls 2 [(0, .ref (ad 0)), (1, .int k)] := hl
  refine lv_iload_n hx hb dX7_needBlock_0 rfl (lv_at hl 1 rfl) ?_
  refine lv_if_lt (tgt := 15) hx hb dX7_needBlock_1 (by decide) (fun c_1 => ?_) (fun c_1 => ?_)
  · obtain ⟨sa9, hsa9⟩ := hSR (323, "no such block") (List.mem_of_getElem? (i := 5) rfl)
    exact vx_throwSW (names := ENM) (cls := EIOB) hx hb hfl hown fitE.2.1 fitE.2.2 (hg _ mw_219) (hg _ mw_220) hsa9 (hat_of at2a at2b hg hN) gd2 hST.1 hST.2 hS (by rw [hml]; exact hl.1) dX7_needBlock_15 dX7_needBlock_18 dX7_needBlock_19 dX7_needBlock_22 dX7_needBlock_25 (fun x hx9 => (hE x hx9).elim) (Nat.le_of_ble_eq_true rfl) (Nat.le_of_ble_eq_true rfl) (Nat.le_of_ble_eq_true rfl) (Nat.le_of_ble_eq_true rfl) hlocks (xE rfl trivial hS) hS.2.2 (Nat.le_of_ble_eq_true rfl) (Nat.le_of_ble_eq_true rfl)
  · refine lv_iload_n hx hb dX7_needBlock_4 rfl (lv_at hl 1 rfl) ?_
    refine lv_aload_n hx hb dX7_needBlock_5 rfl (lv_at hl 0 rfl) ?_
    refine kR (rV (q0 := 0) (ci := 7) hx hb hml hown hg hN hK hP hD (c_freshFlow l D cI cJ cZ ad b F G R) mw_134 mw_135 mw_136 mw_137 mw_110 pdv_X7_freshFlow ⟨Nat.le_of_ble_eq_true rfl, Nat.le_of_ble_eq_true rfl⟩ rfl rfl rfl hl.1 rfl (Nat.le_of_ble_eq_true rfl) dX7_needBlock_6 ⟨Nat.le_of_ble_eq_true rfl, Nat.le_of_ble_eq_true rfl⟩) hD hS hA (fun r_1 u_1 H locs hp hP hD hS => ?_)
    obtain ⟨rfl, b_2, F_3, G_4, rfl, hb_2⟩ := hp
    refine va_getN (D := D) (ci := 1) (v := .int 0) (C := RX1) (T := TX1) (N := 11) hx hb hg inGX1 hown hK hP 2 rfl rfl 7 (by decide) (hN.use nw_28) (fun _ h9 => h9) rfl dX7_needBlock_9 ?_
    refine lv_icmp_lt (tgt := 26) hx hb dX7_needBlock_12 (by decide) (fun c_12 => absurd c_12 c_1) (fun c_12 => ?_)
    obtain ⟨sa9, hsa9⟩ := hSR (323, "no such block") (List.mem_of_getElem? (i := 5) rfl)
    exact vx_throwSW (names := ENM) (cls := EIOB) hx hb hfl hown fitE.2.1 fitE.2.2 (hg _ mw_219) (hg _ mw_220) hsa9 (hat_of at2a at2b hg hN) gd2 hST.1 hST.2 hS (by rw [hml]; exact hl.1) dX7_needBlock_15 dX7_needBlock_18 dX7_needBlock_19 dX7_needBlock_22 dX7_needBlock_25 (fun x hx9 => (hE x hx9).elim) (Nat.le_of_ble_eq_true rfl) (Nat.le_of_ble_eq_true rfl) (Nat.le_of_ble_eq_true rfl) (Nat.le_of_ble_eq_true rfl) hlocks (xE rfl trivial hS) hS.2.2 (Nat.le_of_ble_eq_true rfl) (Nat.le_of_ble_eq_true rfl)
set_option maxHeartbeats 4000000 in
set_option maxRecDepth 100000 in
theorem c_needEdge (l : Launch) (hfl : l.stackTraces = false) (D : va_G) (cI cJ cZ : ClassId) (ad : Nat → Nat) (b : Nat → Int32) (F : Nat → Nat → Int32) (G : Nat → Nat → Int64) (R : va_W) (k : Int32) : CX l D (TY cI cJ cZ) yX7_needEdge (.code yX7_needEdge cX7_needEdge 2 (none : Option FieldType)) 6 1 6 (XW ad cI cJ 0 b F G ++ R) [.ref (ad 0), .int k] (QV D (TY cI cJ cZ) (fun u => False)) EIOB (True) := by
  refine entX (by decide) (Nat.le_of_ble_eq_true rfl) ?_
  intro p e s m below meth c ls A hx hb hr hg hown hml hlocks hnm hP hK hD hS hA hN hl hE hST hSR hAw
  have hl : lv_has ls 2 [(0, .ref (ad 0)), (1, .int k)] := hl
  refine lv_iload_n hx hb dX7_needEdge_0 rfl (lv_at hl 1 rfl) ?_
  refine lv_if_lt (tgt := 15) hx hb dX7_needEdge_1 (by decide) (fun c_1 => ?_) (fun c_1 => ?_)
  · obtain ⟨sa9, hsa9⟩ := hSR (325, "no such edge") (List.mem_of_getElem? (i := 6) rfl)
    exact vx_throwSW (names := ENM) (cls := EIOB) hx hb hfl hown fitE.2.1 fitE.2.2 (hg _ mw_219) (hg _ mw_220) hsa9 (hat_of at2a at2b hg hN) gd2 hST.1 hST.2 hS (by rw [hml]; exact hl.1) dX7_needEdge_15 dX7_needEdge_18 dX7_needEdge_19 dX7_needEdge_22 dX7_needEdge_25 (fun x hx9 => (hE x hx9).elim) (Nat.le_of_ble_eq_true rfl) (Nat.le_of_ble_eq_true rfl) (Nat.le_of_ble_eq_true rfl) (Nat.le_of_ble_eq_true rfl) hlocks (xE rfl trivial hS) hS.2.2 (Nat.le_of_ble_eq_true rfl) (Nat.le_of_ble_eq_true rfl)
  · refine lv_iload_n hx hb dX7_needEdge_4 rfl (lv_at hl 1 rfl) ?_
    refine lv_aload_n hx hb dX7_needEdge_5 rfl (lv_at hl 0 rfl) ?_
    refine kR (rV (q0 := 0) (ci := 7) hx hb hml hown hg hN hK hP hD (c_freshFlow l D cI cJ cZ ad b F G R) mw_134 mw_135 mw_136 mw_137 mw_110 pdv_X7_freshFlow ⟨Nat.le_of_ble_eq_true rfl, Nat.le_of_ble_eq_true rfl⟩ rfl rfl rfl hl.1 rfl (Nat.le_of_ble_eq_true rfl) dX7_needEdge_6 ⟨Nat.le_of_ble_eq_true rfl, Nat.le_of_ble_eq_true rfl⟩) hD hS hA (fun r_1 u_1 H locs hp hP hD hS => ?_)
    obtain ⟨rfl, b_2, F_3, G_4, rfl, hb_2⟩ := hp
    refine va_getN (D := D) (ci := 1) (v := .int 0) (C := RX1) (T := TX1) (N := 11) hx hb hg inGX1 hown hK hP 2 rfl rfl 8 (by decide) (hN.use nw_31) (fun _ h9 => h9) rfl dX7_needEdge_9 ?_
    refine lv_icmp_lt (tgt := 26) hx hb dX7_needEdge_12 (by decide) (fun c_12 => absurd c_12 c_1) (fun c_12 => ?_)
    obtain ⟨sa9, hsa9⟩ := hSR (325, "no such edge") (List.mem_of_getElem? (i := 6) rfl)
    exact vx_throwSW (names := ENM) (cls := EIOB) hx hb hfl hown fitE.2.1 fitE.2.2 (hg _ mw_219) (hg _ mw_220) hsa9 (hat_of at2a at2b hg hN) gd2 hST.1 hST.2 hS (by rw [hml]; exact hl.1) dX7_needEdge_15 dX7_needEdge_18 dX7_needEdge_19 dX7_needEdge_22 dX7_needEdge_25 (fun x hx9 => (hE x hx9).elim) (Nat.le_of_ble_eq_true rfl) (Nat.le_of_ble_eq_true rfl) (Nat.le_of_ble_eq_true rfl) (Nat.le_of_ble_eq_true rfl) hlocks (xE rfl trivial hS) hS.2.2 (Nat.le_of_ble_eq_true rfl) (Nat.le_of_ble_eq_true rfl)
set_option maxHeartbeats 4000000 in
set_option maxRecDepth 100000 in
theorem c_needStep (l : Launch) (hfl : l.stackTraces = false) (D : va_G) (cI cJ cZ : ClassId) (ad : Nat → Nat) (b : Nat → Int32) (F : Nat → Nat → Int32) (G : Nat → Nat → Int64) (R : va_W) (k : Int32) : CX l D (TY cI cJ cZ) yX7_needStep (.code yX7_needStep cX7_needStep 2 (none : Option FieldType)) 6 1 6 (XW ad cI cJ 0 b F G ++ R) [.ref (ad 0), .int k] (QV D (TY cI cJ cZ) (fun u => False)) EIOB (True) := by
  refine entX (by decide) (Nat.le_of_ble_eq_true rfl) ?_
  intro p e s m below meth c ls A hx hb hr hg hown hml hlocks hnm hP hK hD hS hA hN hl hE hST hSR hAw
  have hl : lv_has ls 2 [(0, .ref (ad 0)), (1, .int k)] := hl
  refine lv_iload_n hx hb dX7_needStep_0 rfl (lv_at hl 1 rfl) ?_
  refine lv_if_lt (tgt := 15) hx hb dX7_needStep_1 (by decide) (fun c_1 => ?_) (fun c_1 => ?_)
  · obtain ⟨sa9, hsa9⟩ := hSR (327, "no such step") (List.mem_of_getElem? (i := 7) rfl)
    exact vx_throwSW (names := ENM) (cls := EIOB) hx hb hfl hown fitE.2.1 fitE.2.2 (hg _ mw_219) (hg _ mw_220) hsa9 (hat_of at2a at2b hg hN) gd2 hST.1 hST.2 hS (by rw [hml]; exact hl.1) dX7_needStep_15 dX7_needStep_18 dX7_needStep_19 dX7_needStep_22 dX7_needStep_25 (fun x hx9 => (hE x hx9).elim) (Nat.le_of_ble_eq_true rfl) (Nat.le_of_ble_eq_true rfl) (Nat.le_of_ble_eq_true rfl) (Nat.le_of_ble_eq_true rfl) hlocks (xE rfl trivial hS) hS.2.2 (Nat.le_of_ble_eq_true rfl) (Nat.le_of_ble_eq_true rfl)
  · refine lv_iload_n hx hb dX7_needStep_4 rfl (lv_at hl 1 rfl) ?_
    refine lv_aload_n hx hb dX7_needStep_5 rfl (lv_at hl 0 rfl) ?_
    refine kR (rV (q0 := 0) (ci := 7) hx hb hml hown hg hN hK hP hD (c_freshReduction l D cI cJ cZ ad b F G R) mw_221 mw_222 mw_223 mw_224 mw_110 pdv_X7_freshReduction ⟨Nat.le_of_ble_eq_true rfl, Nat.le_of_ble_eq_true rfl⟩ rfl rfl rfl hl.1 rfl (Nat.le_of_ble_eq_true rfl) dX7_needStep_6 ⟨Nat.le_of_ble_eq_true rfl, Nat.le_of_ble_eq_true rfl⟩) hD hS hA (fun r_1 u_1 H locs hp hP hD hS => ?_)
    obtain ⟨rfl, b_2, F_3, G_4, rfl, hb_2⟩ := hp
    refine va_getN (D := D) (ci := 5) (v := .int 0) (C := RX5) (T := TX5) (N := 8) hx hb hg inGX5 hown hK hP 5 rfl rfl 6 (by decide) (hN.use nw_51) (fun _ h9 => h9) rfl dX7_needStep_9 ?_
    refine lv_icmp_lt (tgt := 26) hx hb dX7_needStep_12 (by decide) (fun c_12 => absurd c_12 c_1) (fun c_12 => ?_)
    obtain ⟨sa9, hsa9⟩ := hSR (327, "no such step") (List.mem_of_getElem? (i := 7) rfl)
    exact vx_throwSW (names := ENM) (cls := EIOB) hx hb hfl hown fitE.2.1 fitE.2.2 (hg _ mw_219) (hg _ mw_220) hsa9 (hat_of at2a at2b hg hN) gd2 hST.1 hST.2 hS (by rw [hml]; exact hl.1) dX7_needStep_15 dX7_needStep_18 dX7_needStep_19 dX7_needStep_22 dX7_needStep_25 (fun x hx9 => (hE x hx9).elim) (Nat.le_of_ble_eq_true rfl) (Nat.le_of_ble_eq_true rfl) (Nat.le_of_ble_eq_true rfl) (Nat.le_of_ble_eq_true rfl) hlocks (xE rfl trivial hS) hS.2.2 (Nat.le_of_ble_eq_true rfl) (Nat.le_of_ble_eq_true rfl)
set_option maxHeartbeats 4000000 in
set_option maxRecDepth 100000 in
theorem c_needLayer (l : Launch) (hfl : l.stackTraces = false) (D : va_G) (cI cJ cZ : ClassId) (ad : Nat → Nat) (b : Nat → Int32) (F : Nat → Nat → Int32) (G : Nat → Nat → Int64) (R : va_W) (k : Int32) : CX l D (TY cI cJ cZ) yX7_needLayer (.code yX7_needLayer cX7_needLayer 2 (none : Option FieldType)) 6 1 6 (XW ad cI cJ 0 b F G ++ R) [.ref (ad 0), .int k] (QV D (TY cI cJ cZ) (fun u => False)) EIOB (True) := by
  refine entX (by decide) (Nat.le_of_ble_eq_true rfl) ?_
  intro p e s m below meth c ls A hx hb hr hg hown hml hlocks hnm hP hK hD hS hA hN hl hE hST hSR hAw
  have hl : lv_has ls 2 [(0, .ref (ad 0)), (1, .int k)] := hl
  refine lv_iload_n hx hb dX7_needLayer_0 rfl (lv_at hl 1 rfl) ?_
  refine lv_if_lt (tgt := 15) hx hb dX7_needLayer_1 (by decide) (fun c_1 => ?_) (fun c_1 => ?_)
  · obtain ⟨sa9, hsa9⟩ := hSR (329, "no such layer") (List.mem_of_getElem? (i := 8) rfl)
    exact vx_throwSW (names := ENM) (cls := EIOB) hx hb hfl hown fitE.2.1 fitE.2.2 (hg _ mw_219) (hg _ mw_220) hsa9 (hat_of at2a at2b hg hN) gd2 hST.1 hST.2 hS (by rw [hml]; exact hl.1) dX7_needLayer_15 dX7_needLayer_18 dX7_needLayer_19 dX7_needLayer_22 dX7_needLayer_25 (fun x hx9 => (hE x hx9).elim) (Nat.le_of_ble_eq_true rfl) (Nat.le_of_ble_eq_true rfl) (Nat.le_of_ble_eq_true rfl) (Nat.le_of_ble_eq_true rfl) hlocks (xE rfl trivial hS) hS.2.2 (Nat.le_of_ble_eq_true rfl) (Nat.le_of_ble_eq_true rfl)
  · refine lv_iload_n hx hb dX7_needLayer_4 rfl (lv_at hl 1 rfl) ?_
    refine lv_aload_n hx hb dX7_needLayer_5 rfl (lv_at hl 0 rfl) ?_
    refine kR (rV (q0 := 0) (ci := 7) hx hb hml hown hg hN hK hP hD (c_freshPicture l D cI cJ cZ ad b F G R) mw_225 mw_226 mw_227 mw_228 mw_110 pdv_X7_freshPicture ⟨Nat.le_of_ble_eq_true rfl, Nat.le_of_ble_eq_true rfl⟩ rfl rfl rfl hl.1 rfl (Nat.le_of_ble_eq_true rfl) dX7_needLayer_6 ⟨Nat.le_of_ble_eq_true rfl, Nat.le_of_ble_eq_true rfl⟩) hD hS hA (fun r_1 u_1 H locs hp hP hD hS => ?_)
    obtain ⟨rfl, b_2, F_3, G_4, rfl, h5b_2, h6b_2, hb_2⟩ := hp
    refine va_getN (D := D) (ci := 3) (v := .int 0) (C := RX3) (T := TX3) (N := 16) hx hb hg inGX3 hown hK hP 6 rfl rfl 13 (by decide) (hN.use nw_62) (fun _ h9 => h9) rfl dX7_needLayer_9 ?_
    refine lv_icmp_lt (tgt := 26) hx hb dX7_needLayer_12 (by decide) (fun c_12 => absurd c_12 c_1) (fun c_12 => ?_)
    obtain ⟨sa9, hsa9⟩ := hSR (329, "no such layer") (List.mem_of_getElem? (i := 8) rfl)
    exact vx_throwSW (names := ENM) (cls := EIOB) hx hb hfl hown fitE.2.1 fitE.2.2 (hg _ mw_219) (hg _ mw_220) hsa9 (hat_of at2a at2b hg hN) gd2 hST.1 hST.2 hS (by rw [hml]; exact hl.1) dX7_needLayer_15 dX7_needLayer_18 dX7_needLayer_19 dX7_needLayer_22 dX7_needLayer_25 (fun x hx9 => (hE x hx9).elim) (Nat.le_of_ble_eq_true rfl) (Nat.le_of_ble_eq_true rfl) (Nat.le_of_ble_eq_true rfl) (Nat.le_of_ble_eq_true rfl) hlocks (xE rfl trivial hS) hS.2.2 (Nat.le_of_ble_eq_true rfl) (Nat.le_of_ble_eq_true rfl)
set_option maxHeartbeats 4000000 in
set_option maxRecDepth 100000 in
theorem c_needSweeps (l : Launch) (hfl : l.stackTraces = false) (D : va_G) (cI cJ cZ : ClassId) (ad : Nat → Nat) (b : Nat → Int32) (F : Nat → Nat → Int32) (G : Nat → Nat → Int64) (R : va_W) (k : Int32) : CX l D (TY cI cJ cZ) yX7_needSweeps (.code yX7_needSweeps cX7_needSweeps 1 (none : Option FieldType)) 6 1 6 (XW ad cI cJ 0 b F G ++ R) [.int k] (QV D (TY cI cJ cZ) (fun u => ¬ k < 1 ∧ k ≤ 20 ∧ u = XW ad cI cJ 0 b F G ++ R)) EIAE (k < 1 ∨ ¬ k ≤ 20) := by
  refine entX (by decide) (Nat.le_of_ble_eq_true rfl) ?_
  intro p e s m below meth c ls A hx hb hr hg hown hml hlocks hnm hP hK hD hS hA hN hl hE hST hSR hAw
  have hl : lv_has ls 1 [(0, .int k)] := hl
  refine lv_iload_n hx hb dX7_needSweeps_0 rfl (lv_at hl 0 rfl) ?_
  refine lv_iconst (v := 1) hx hb dX7_needSweeps_1 (by decide) ?_
  refine lv_icmp_lt (tgt := 11) hx hb dX7_needSweeps_2 (by decide) (fun c_2 => ?_) (fun c_2 => ?_)
  · obtain ⟨sa9, hsa9⟩ := hSR (331, "1 to 20 sweeps only") (List.mem_of_getElem? (i := 9) rfl)
    exact vx_throwSW (names := ENM) (cls := EIAE) hx hb hfl hown fitE.1 fitE.2.2 (hg _ mw_229) (hg _ mw_230) hsa9 (hat_of at1a at1b hg hN) gd1 hST.1 hST.2 hS (by rw [hml]; exact hl.1) dX7_needSweeps_11 dX7_needSweeps_14 dX7_needSweeps_15 dX7_needSweeps_18 dX7_needSweeps_21 (fun x hx9 => (hE x hx9).elim) (Nat.le_of_ble_eq_true rfl) (Nat.le_of_ble_eq_true rfl) (Nat.le_of_ble_eq_true rfl) (Nat.le_of_ble_eq_true rfl) hlocks (xE rfl (by first | exact Or.inl c_2 | exact Or.inr c_8) hS) hS.2.2 (Nat.le_of_ble_eq_true rfl) (Nat.le_of_ble_eq_true rfl)
  · refine lv_iload_n hx hb dX7_needSweeps_5 rfl (lv_at hl 0 rfl) ?_
    refine lv_bipush (v := 20) hx hb dX7_needSweeps_6 (by decide) ?_
    refine lv_icmp_le (tgt := 22) hx hb dX7_needSweeps_8 (by decide) (fun c_8 => ?_) (fun c_8 => ?_)
    · refine W.widen (k := 1) (n := 6) (Nat.le_of_ble_eq_true rfl) (Nat.le_of_ble_eq_true rfl) ?_
      refine vx_ret ?_
      exact W.vret hx hb hr (fun t ht hW => ⟨⟨(XW ad cI cJ 0 b F G ++ R), rfl, ⟨c_2, c_8, rfl⟩, ⟨by rw [ht]; exact hP, va_K.moved hW.alike hK, hD⟩⟩, hS.F ht⟩) hS.2.2 dX7_needSweeps_22
    · obtain ⟨sa9, hsa9⟩ := hSR (331, "1 to 20 sweeps only") (List.mem_of_getElem? (i := 9) rfl)
      exact vx_throwSW (names := ENM) (cls := EIAE) hx hb hfl hown fitE.1 fitE.2.2 (hg _ mw_229) (hg _ mw_230) hsa9 (hat_of at1a at1b hg hN) gd1 hST.1 hST.2 hS (by rw [hml]; exact hl.1) dX7_needSweeps_11 dX7_needSweeps_14 dX7_needSweeps_15 dX7_needSweeps_18 dX7_needSweeps_21 (fun x hx9 => (hE x hx9).elim) (Nat.le_of_ble_eq_true rfl) (Nat.le_of_ble_eq_true rfl) (Nat.le_of_ble_eq_true rfl) (Nat.le_of_ble_eq_true rfl) hlocks (xE rfl (by first | exact Or.inl c_2 | exact Or.inr c_8) hS) hS.2.2 (Nat.le_of_ble_eq_true rfl) (Nat.le_of_ble_eq_true rfl)
end
section
theorem dJ13_bitCount_95d88_0 : decode cJ13_bitCount_95d88 0 = .ok (.lload_n 0, 1) := by decide +kernel
theorem dJ13_bitCount_95d88_1 : decode cJ13_bitCount_95d88 1 = .ok (.lload_n 0, 1) := by decide +kernel
theorem dJ13_bitCount_95d88_2 : decode cJ13_bitCount_95d88 2 = .ok (.iconst 1, 1) := by decide +kernel
theorem dJ13_bitCount_95d88_3 : decode cJ13_bitCount_95d88 3 = .ok (.lushr, 1) := by decide +kernel
theorem dJ13_bitCount_95d88_4 : decode cJ13_bitCount_95d88 4 = .ok (.ldc2_w 314, 3) := by decide +kernel
theorem dJ13_bitCount_95d88_7 : decode cJ13_bitCount_95d88 7 = .ok (.land, 1) := by decide +kernel
theorem dJ13_bitCount_95d88_8 : decode cJ13_bitCount_95d88 8 = .ok (.lsub, 1) := by decide +kernel
theorem dJ13_bitCount_95d88_9 : decode cJ13_bitCount_95d88 9 = .ok (.lstore_n 0, 1) := by decide +kernel
theorem dJ13_bitCount_95d88_10 : decode cJ13_bitCount_95d88 10 = .ok (.lload_n 0, 1) := by decide +kernel
theorem dJ13_bitCount_95d88_11 : decode cJ13_bitCount_95d88 11 = .ok (.ldc2_w 316, 3) := by decide +kernel
theorem dJ13_bitCount_95d88_14 : decode cJ13_bitCount_95d88 14 = .ok (.land, 1) := by decide +kernel
theorem dJ13_bitCount_95d88_15 : decode cJ13_bitCount_95d88 15 = .ok (.lload_n 0, 1) := by decide +kernel
theorem dJ13_bitCount_95d88_16 : decode cJ13_bitCount_95d88 16 = .ok (.iconst 2, 1) := by decide +kernel
theorem dJ13_bitCount_95d88_17 : decode cJ13_bitCount_95d88 17 = .ok (.lushr, 1) := by decide +kernel
theorem dJ13_bitCount_95d88_18 : decode cJ13_bitCount_95d88 18 = .ok (.ldc2_w 316, 3) := by decide +kernel
theorem dJ13_bitCount_95d88_21 : decode cJ13_bitCount_95d88 21 = .ok (.land, 1) := by decide +kernel
theorem dJ13_bitCount_95d88_22 : decode cJ13_bitCount_95d88 22 = .ok (.ladd, 1) := by decide +kernel
theorem dJ13_bitCount_95d88_23 : decode cJ13_bitCount_95d88 23 = .ok (.lstore_n 0, 1) := by decide +kernel
theorem dJ13_bitCount_95d88_24 : decode cJ13_bitCount_95d88 24 = .ok (.lload_n 0, 1) := by decide +kernel
theorem dJ13_bitCount_95d88_25 : decode cJ13_bitCount_95d88 25 = .ok (.lload_n 0, 1) := by decide +kernel
theorem dJ13_bitCount_95d88_26 : decode cJ13_bitCount_95d88 26 = .ok (.iconst 4, 1) := by decide +kernel
theorem dJ13_bitCount_95d88_27 : decode cJ13_bitCount_95d88 27 = .ok (.lushr, 1) := by decide +kernel
theorem dJ13_bitCount_95d88_28 : decode cJ13_bitCount_95d88 28 = .ok (.ladd, 1) := by decide +kernel
theorem dJ13_bitCount_95d88_29 : decode cJ13_bitCount_95d88 29 = .ok (.ldc2_w 318, 3) := by decide +kernel
theorem dJ13_bitCount_95d88_32 : decode cJ13_bitCount_95d88 32 = .ok (.land, 1) := by decide +kernel
theorem dJ13_bitCount_95d88_33 : decode cJ13_bitCount_95d88 33 = .ok (.lstore_n 0, 1) := by decide +kernel
theorem dJ13_bitCount_95d88_34 : decode cJ13_bitCount_95d88 34 = .ok (.lload_n 0, 1) := by decide +kernel
theorem dJ13_bitCount_95d88_35 : decode cJ13_bitCount_95d88 35 = .ok (.lload_n 0, 1) := by decide +kernel
theorem dJ13_bitCount_95d88_36 : decode cJ13_bitCount_95d88 36 = .ok (.bipush 8, 2) := by decide +kernel
theorem dJ13_bitCount_95d88_38 : decode cJ13_bitCount_95d88 38 = .ok (.lushr, 1) := by decide +kernel
theorem dJ13_bitCount_95d88_39 : decode cJ13_bitCount_95d88 39 = .ok (.ladd, 1) := by decide +kernel
theorem dJ13_bitCount_95d88_40 : decode cJ13_bitCount_95d88 40 = .ok (.lstore_n 0, 1) := by decide +kernel
theorem dJ13_bitCount_95d88_41 : decode cJ13_bitCount_95d88 41 = .ok (.lload_n 0, 1) := by decide +kernel
theorem dJ13_bitCount_95d88_42 : decode cJ13_bitCount_95d88 42 = .ok (.lload_n 0, 1) := by decide +kernel
theorem dJ13_bitCount_95d88_43 : decode cJ13_bitCount_95d88 43 = .ok (.bipush 16, 2) := by decide +kernel
theorem dJ13_bitCount_95d88_45 : decode cJ13_bitCount_95d88 45 = .ok (.lushr, 1) := by decide +kernel
theorem dJ13_bitCount_95d88_46 : decode cJ13_bitCount_95d88 46 = .ok (.ladd, 1) := by decide +kernel
theorem dJ13_bitCount_95d88_47 : decode cJ13_bitCount_95d88 47 = .ok (.lstore_n 0, 1) := by decide +kernel
theorem dJ13_bitCount_95d88_48 : decode cJ13_bitCount_95d88 48 = .ok (.lload_n 0, 1) := by decide +kernel
theorem dJ13_bitCount_95d88_49 : decode cJ13_bitCount_95d88 49 = .ok (.lload_n 0, 1) := by decide +kernel
theorem dJ13_bitCount_95d88_50 : decode cJ13_bitCount_95d88 50 = .ok (.bipush 32, 2) := by decide +kernel
theorem dJ13_bitCount_95d88_52 : decode cJ13_bitCount_95d88 52 = .ok (.lushr, 1) := by decide +kernel
theorem dJ13_bitCount_95d88_53 : decode cJ13_bitCount_95d88 53 = .ok (.ladd, 1) := by decide +kernel
theorem dJ13_bitCount_95d88_54 : decode cJ13_bitCount_95d88 54 = .ok (.lstore_n 0, 1) := by decide +kernel
theorem dJ13_bitCount_95d88_55 : decode cJ13_bitCount_95d88 55 = .ok (.lload_n 0, 1) := by decide +kernel
theorem dJ13_bitCount_95d88_56 : decode cJ13_bitCount_95d88 56 = .ok (.l2i, 1) := by decide +kernel
theorem dJ13_bitCount_95d88_57 : decode cJ13_bitCount_95d88 57 = .ok (.bipush 127, 2) := by decide +kernel
theorem dJ13_bitCount_95d88_59 : decode cJ13_bitCount_95d88 59 = .ok (.iand, 1) := by decide +kernel
theorem dJ13_bitCount_95d88_60 : decode cJ13_bitCount_95d88 60 = .ok (.ireturn, 1) := by decide +kernel
theorem dX7_mix_0 : decode cX7_mix 0 = .ok (.lload_n 0, 1) := by decide +kernel
theorem dX7_mix_1 : decode cX7_mix 1 = .ok (.ldc2_w 364, 3) := by decide +kernel
theorem dX7_mix_4 : decode cX7_mix 4 = .ok (.lmul, 1) := by decide +kernel
theorem dX7_mix_5 : decode cX7_mix 5 = .ok (.iload_n 2, 1) := by decide +kernel
theorem dX7_mix_6 : decode cX7_mix 6 = .ok (.i2l, 1) := by decide +kernel
theorem dX7_mix_7 : decode cX7_mix 7 = .ok (.ladd, 1) := by decide +kernel
theorem dX7_mix_8 : decode cX7_mix 8 = .ok (.lreturn, 1) := by decide +kernel
theorem dX7_mix__0 : decode cX7_mix_ 0 = .ok (.lload_n 0, 1) := by decide +kernel
theorem dX7_mix__1 : decode cX7_mix_ 1 = .ok (.ldc2_w 364, 3) := by decide +kernel
theorem dX7_mix__4 : decode cX7_mix_ 4 = .ok (.lmul, 1) := by decide +kernel
theorem dX7_mix__5 : decode cX7_mix_ 5 = .ok (.iload_n 2, 1) := by decide +kernel
theorem dX7_mix__6 : decode cX7_mix_ 6 = .ok (.ifCond .eq 7, 3) := by decide +kernel
theorem dX7_mix__9 : decode cX7_mix_ 9 = .ok (.lconst 1, 1) := by decide +kernel
theorem dX7_mix__10 : decode cX7_mix_ 10 = .ok (.goto 4, 3) := by decide +kernel
theorem dX7_mix__13 : decode cX7_mix_ 13 = .ok (.lconst 0, 1) := by decide +kernel
theorem dX7_mix__14 : decode cX7_mix_ 14 = .ok (.ladd, 1) := by decide +kernel
theorem dX7_mix__15 : decode cX7_mix_ 15 = .ok (.lreturn, 1) := by decide +kernel
theorem dX1_countWindings_0 : decode cX1_countWindings 0 = .ok (.aload_n 0, 1) := by decide +kernel
theorem dX1_countWindings_1 : decode cX1_countWindings 1 = .ok (.getfield 51, 3) := by decide +kernel
theorem dX1_countWindings_4 : decode cX1_countWindings 4 = .ok (.ifCond .ne 5, 3) := by decide +kernel
theorem dX1_countWindings_7 : decode cX1_countWindings 7 = .ok (.iconst 0, 1) := by decide +kernel
theorem dX1_countWindings_8 : decode cX1_countWindings 8 = .ok (.ireturn, 1) := by decide +kernel
theorem dX3_countCrossings_0 : decode cX3_countCrossings 0 = .ok (.iconst 0, 1) := by decide +kernel
theorem dX3_countCrossings_1 : decode cX3_countCrossings 1 = .ok (.istore_n 1, 1) := by decide +kernel
theorem dX3_countCrossings_2 : decode cX3_countCrossings 2 = .ok (.iconst 0, 1) := by decide +kernel
theorem dX3_countCrossings_3 : decode cX3_countCrossings 3 = .ok (.istore_n 2, 1) := by decide +kernel
theorem dX3_countCrossings_4 : decode cX3_countCrossings 4 = .ok (.iload_n 2, 1) := by decide +kernel
theorem dX3_countCrossings_5 : decode cX3_countCrossings 5 = .ok (.aload_n 0, 1) := by decide +kernel
theorem dX3_countCrossings_6 : decode cX3_countCrossings 6 = .ok (.getfield 72, 3) := by decide +kernel
theorem dX3_countCrossings_9 : decode cX3_countCrossings 9 = .ok (.iconst 1, 1) := by decide +kernel
theorem dX3_countCrossings_10 : decode cX3_countCrossings 10 = .ok (.isub, 1) := by decide +kernel
theorem dX3_countCrossings_11 : decode cX3_countCrossings 11 = .ok (.if_icmp .ge 17, 3) := by decide +kernel
theorem dX3_countCrossings_28 : decode cX3_countCrossings 28 = .ok (.iload_n 1, 1) := by decide +kernel
theorem dX3_countCrossings_29 : decode cX3_countCrossings 29 = .ok (.ireturn, 1) := by decide +kernel
theorem dX3_meanSpan_0 : decode cX3_meanSpan 0 = .ok (.iconst 0, 1) := by decide +kernel
theorem dX3_meanSpan_1 : decode cX3_meanSpan 1 = .ok (.istore_n 1, 1) := by decide +kernel
theorem dX3_meanSpan_2 : decode cX3_meanSpan 2 = .ok (.iconst 0, 1) := by decide +kernel
theorem dX3_meanSpan_3 : decode cX3_meanSpan 3 = .ok (.istore_n 2, 1) := by decide +kernel
theorem dX3_meanSpan_4 : decode cX3_meanSpan 4 = .ok (.iconst 0, 1) := by decide +kernel
theorem dX3_meanSpan_5 : decode cX3_meanSpan 5 = .ok (.istore_n 3, 1) := by decide +kernel
theorem dX3_meanSpan_6 : decode cX3_meanSpan 6 = .ok (.iload_n 3, 1) := by decide +kernel
theorem dX3_meanSpan_7 : decode cX3_meanSpan 7 = .ok (.aload_n 0, 1) := by decide +kernel
theorem dX3_meanSpan_8 : decode cX3_meanSpan 8 = .ok (.getfield 58, 3) := by decide +kernel
theorem dX3_meanSpan_11 : decode cX3_meanSpan 11 = .ok (.if_icmp .ge 37, 3) := by decide +kernel
theorem dX3_meanSpan_48 : decode cX3_meanSpan 48 = .ok (.iload_n 1, 1) := by decide +kernel
theorem dX3_meanSpan_49 : decode cX3_meanSpan 49 = .ok (.ifCond .le 11, 3) := by decide +kernel
theorem dX3_meanSpan_60 : decode cX3_meanSpan 60 = .ok (.dconst 0, 1) := by decide +kernel
theorem dX3_meanSpan_61 : decode cX3_meanSpan 61 = .ok (.dreturn, 1) := by decide +kernel
theorem dX3_sweepOften_0 : decode cX3_sweepOften 0 = .ok (.iconst 0, 1) := by decide +kernel
theorem dX3_sweepOften_1 : decode cX3_sweepOften 1 = .ok (.istore_n 2, 1) := by decide +kernel
theorem dX3_sweepOften_2 : decode cX3_sweepOften 2 = .ok (.iload_n 2, 1) := by decide +kernel
theorem dX3_sweepOften_3 : decode cX3_sweepOften 3 = .ok (.iload_n 1, 1) := by decide +kernel
theorem dX3_sweepOften_4 : decode cX3_sweepOften 4 = .ok (.if_icmp .ge 89, 3) := by decide +kernel
theorem dX3_sweepOften_7 : decode cX3_sweepOften 7 = .ok (.aload_n 0, 1) := by decide +kernel
theorem dX3_sweepOften_8 : decode cX3_sweepOften 8 = .ok (.getfield 59, 3) := by decide +kernel
theorem dX3_sweepOften_11 : decode cX3_sweepOften 11 = .ok (.iconst 1, 1) := by decide +kernel
theorem dX3_sweepOften_12 : decode cX3_sweepOften 12 = .ok (.iand, 1) := by decide +kernel
theorem dX3_sweepOften_13 : decode cX3_sweepOften 13 = .ok (.ifCond .ne 7, 3) := by decide +kernel
theorem dX3_sweepOften_16 : decode cX3_sweepOften 16 = .ok (.iconst 1, 1) := by decide +kernel
theorem dX3_sweepOften_17 : decode cX3_sweepOften 17 = .ok (.goto 4, 3) := by decide +kernel
theorem dX3_sweepOften_20 : decode cX3_sweepOften 20 = .ok (.iconst 0, 1) := by decide +kernel
theorem dX3_sweepOften_21 : decode cX3_sweepOften 21 = .ok (.istore_n 3, 1) := by decide +kernel
theorem dX3_sweepOften_22 : decode cX3_sweepOften 22 = .ok (.iconst 1, 1) := by decide +kernel
theorem dX3_sweepOften_23 : decode cX3_sweepOften 23 = .ok (.istore 4, 2) := by decide +kernel
theorem dX3_sweepOften_25 : decode cX3_sweepOften 25 = .ok (.iload 4, 2) := by decide +kernel
theorem dX3_sweepOften_27 : decode cX3_sweepOften 27 = .ok (.aload_n 0, 1) := by decide +kernel
theorem dX3_sweepOften_28 : decode cX3_sweepOften 28 = .ok (.getfield 72, 3) := by decide +kernel
theorem dX3_sweepOften_31 : decode cX3_sweepOften 31 = .ok (.if_icmp .ge 46, 3) := by decide +kernel
theorem dX3_sweepOften_77 : decode cX3_sweepOften 77 = .ok (.aload_n 0, 1) := by decide +kernel
theorem dX3_sweepOften_78 : decode cX3_sweepOften 78 = .ok (.dup, 1) := by decide +kernel
theorem dX3_sweepOften_79 : decode cX3_sweepOften 79 = .ok (.getfield 59, 3) := by decide +kernel
theorem dX3_sweepOften_82 : decode cX3_sweepOften 82 = .ok (.iconst 1, 1) := by decide +kernel
theorem dX3_sweepOften_83 : decode cX3_sweepOften 83 = .ok (.iadd, 1) := by decide +kernel
theorem dX3_sweepOften_84 : decode cX3_sweepOften 84 = .ok (.putfield 59, 3) := by decide +kernel
theorem dX3_sweepOften_87 : decode cX3_sweepOften 87 = .ok (.iinc 2 1, 3) := by decide +kernel
theorem dX3_sweepOften_90 : decode cX3_sweepOften 90 = .ok (.goto (-88), 3) := by decide +kernel
theorem dX3_sweepOften_93 : decode cX3_sweepOften 93 = .ok (.return_, 1) := by decide +kernel
theorem dX3_tryOut_0 : decode cX3_tryOut 0 = .ok (.aload_n 0, 1) := by decide +kernel
theorem dX3_tryOut_1 : decode cX3_tryOut 1 = .ok (.getfield 59, 3) := by decide +kernel
theorem dX3_tryOut_4 : decode cX3_tryOut 4 = .ok (.istore_n 2, 1) := by decide +kernel
theorem dX3_tryOut_5 : decode cX3_tryOut 5 = .ok (.aload_n 0, 1) := by decide +kernel
theorem dX3_tryOut_6 : decode cX3_tryOut 6 = .ok (.getfield 22, 3) := by decide +kernel
theorem dX3_tryOut_9 : decode cX3_tryOut 9 = .ok (.aload_n 0, 1) := by decide +kernel
theorem dX3_tryOut_10 : decode cX3_tryOut 10 = .ok (.getfield 72, 3) := by decide +kernel
theorem dX3_tryOut_13 : decode cX3_tryOut 13 = .ok (.invokestatic 95, 3) := by decide +kernel
theorem dX3_tryOut_16 : decode cX3_tryOut 16 = .ok (.istore_n 3, 1) := by decide +kernel
theorem dX3_tryOut_17 : decode cX3_tryOut 17 = .ok (.iconst 0, 1) := by decide +kernel
theorem dX3_tryOut_18 : decode cX3_tryOut 18 = .ok (.istore 4, 2) := by decide +kernel
theorem dX3_tryOut_20 : decode cX3_tryOut 20 = .ok (.iload 4, 2) := by decide +kernel
theorem dX3_tryOut_22 : decode cX3_tryOut 22 = .ok (.iload_n 3, 1) := by decide +kernel
theorem dX3_tryOut_23 : decode cX3_tryOut 23 = .ok (.if_icmp .ge 27, 3) := by decide +kernel
theorem dX3_tryOut_50 : decode cX3_tryOut 50 = .ok (.aload_n 0, 1) := by decide +kernel
theorem dX3_tryOut_51 : decode cX3_tryOut 51 = .ok (.iload_n 1, 1) := by decide +kernel
theorem dX3_tryOut_52 : decode cX3_tryOut 52 = .ok (.invokevirtual 148, 3) := by decide +kernel
theorem dX3_tryOut_55 : decode cX3_tryOut 55 = .ok (.aload_n 0, 1) := by decide +kernel
theorem dX3_tryOut_56 : decode cX3_tryOut 56 = .ok (.invokevirtual 152, 3) := by decide +kernel
theorem dX3_tryOut_59 : decode cX3_tryOut 59 = .ok (.istore 4, 2) := by decide +kernel
theorem dX3_tryOut_61 : decode cX3_tryOut 61 = .ok (.iconst 0, 1) := by decide +kernel
theorem dX3_tryOut_62 : decode cX3_tryOut 62 = .ok (.istore 5, 2) := by decide +kernel
theorem dX3_tryOut_64 : decode cX3_tryOut 64 = .ok (.iload 5, 2) := by decide +kernel
theorem dX3_tryOut_66 : decode cX3_tryOut 66 = .ok (.aload_n 0, 1) := by decide +kernel
theorem dX3_tryOut_67 : decode cX3_tryOut 67 = .ok (.getfield 72, 3) := by decide +kernel
theorem dX3_tryOut_70 : decode cX3_tryOut 70 = .ok (.if_icmp .ge 59, 3) := by decide +kernel
theorem dX3_tryOut_129 : decode cX3_tryOut 129 = .ok (.aload_n 0, 1) := by decide +kernel
theorem dX3_tryOut_130 : decode cX3_tryOut 130 = .ok (.iload_n 2, 1) := by decide +kernel
theorem dX3_tryOut_131 : decode cX3_tryOut 131 = .ok (.putfield 59, 3) := by decide +kernel
theorem dX3_tryOut_134 : decode cX3_tryOut 134 = .ok (.iload 4, 2) := by decide +kernel
theorem dX3_tryOut_136 : decode cX3_tryOut 136 = .ok (.ireturn, 1) := by decide +kernel
theorem dX7_digestOfCode_0 : decode cX7_digestOfCode 0 = .ok (.lload_n 1, 1) := by decide +kernel
theorem dX7_digestOfCode_1 : decode cX7_digestOfCode 1 = .ok (.aload_n 0, 1) := by decide +kernel
theorem dX7_digestOfCode_2 : decode cX7_digestOfCode 2 = .ok (.getfield 10, 3) := by decide +kernel
theorem dX7_digestOfCode_5 : decode cX7_digestOfCode 5 = .ok (.getfield 51, 3) := by decide +kernel
theorem dX7_digestOfCode_8 : decode cX7_digestOfCode 8 = .ok (.invokestatic 308, 3) := by decide +kernel
theorem dX7_digestOfCode_11 : decode cX7_digestOfCode 11 = .ok (.lstore_n 3, 1) := by decide +kernel
theorem dX7_digestOfCode_12 : decode cX7_digestOfCode 12 = .ok (.iconst 0, 1) := by decide +kernel
theorem dX7_digestOfCode_13 : decode cX7_digestOfCode 13 = .ok (.istore 5, 2) := by decide +kernel
theorem dX7_digestOfCode_15 : decode cX7_digestOfCode 15 = .ok (.iload 5, 2) := by decide +kernel
theorem dX7_digestOfCode_17 : decode cX7_digestOfCode 17 = .ok (.aload_n 0, 1) := by decide +kernel
theorem dX7_digestOfCode_18 : decode cX7_digestOfCode 18 = .ok (.getfield 10, 3) := by decide +kernel
theorem dX7_digestOfCode_21 : decode cX7_digestOfCode 21 = .ok (.getfield 51, 3) := by decide +kernel
theorem dX7_digestOfCode_24 : decode cX7_digestOfCode 24 = .ok (.if_icmp .ge 60, 3) := by decide +kernel
theorem dX7_digestOfCode_84 : decode cX7_digestOfCode 84 = .ok (.lload_n 3, 1) := by decide +kernel
theorem dX7_digestOfCode_85 : decode cX7_digestOfCode 85 = .ok (.lreturn, 1) := by decide +kernel
theorem dX7_digestOfBlocks_0 : decode cX7_digestOfBlocks 0 = .ok (.lload_n 1, 1) := by decide +kernel
theorem dX7_digestOfBlocks_1 : decode cX7_digestOfBlocks 1 = .ok (.aload_n 0, 1) := by decide +kernel
theorem dX7_digestOfBlocks_2 : decode cX7_digestOfBlocks 2 = .ok (.getfield 19, 3) := by decide +kernel
theorem dX7_digestOfBlocks_5 : decode cX7_digestOfBlocks 5 = .ok (.getfield 127, 3) := by decide +kernel
theorem dX7_digestOfBlocks_8 : decode cX7_digestOfBlocks 8 = .ok (.invokestatic 308, 3) := by decide +kernel
theorem dX7_digestOfBlocks_11 : decode cX7_digestOfBlocks 11 = .ok (.lstore_n 3, 1) := by decide +kernel
theorem dX7_digestOfBlocks_12 : decode cX7_digestOfBlocks 12 = .ok (.iconst 0, 1) := by decide +kernel
theorem dX7_digestOfBlocks_13 : decode cX7_digestOfBlocks 13 = .ok (.istore 5, 2) := by decide +kernel
theorem dX7_digestOfBlocks_15 : decode cX7_digestOfBlocks 15 = .ok (.iload 5, 2) := by decide +kernel
theorem dX7_digestOfBlocks_17 : decode cX7_digestOfBlocks 17 = .ok (.aload_n 0, 1) := by decide +kernel
theorem dX7_digestOfBlocks_18 : decode cX7_digestOfBlocks 18 = .ok (.getfield 19, 3) := by decide +kernel
theorem dX7_digestOfBlocks_21 : decode cX7_digestOfBlocks 21 = .ok (.getfield 127, 3) := by decide +kernel
theorem dX7_digestOfBlocks_24 : decode cX7_digestOfBlocks 24 = .ok (.if_icmp .ge 156, 3) := by decide +kernel
theorem dX7_digestOfBlocks_180 : decode cX7_digestOfBlocks 180 = .ok (.lload_n 3, 1) := by decide +kernel
theorem dX7_digestOfBlocks_181 : decode cX7_digestOfBlocks 181 = .ok (.lreturn, 1) := by decide +kernel
theorem dX7_digestOfEdges_0 : decode cX7_digestOfEdges 0 = .ok (.lload_n 1, 1) := by decide +kernel
theorem dX7_digestOfEdges_1 : decode cX7_digestOfEdges 1 = .ok (.aload_n 0, 1) := by decide +kernel
theorem dX7_digestOfEdges_2 : decode cX7_digestOfEdges 2 = .ok (.getfield 19, 3) := by decide +kernel
theorem dX7_digestOfEdges_5 : decode cX7_digestOfEdges 5 = .ok (.getfield 147, 3) := by decide +kernel
theorem dX7_digestOfEdges_8 : decode cX7_digestOfEdges 8 = .ok (.invokestatic 308, 3) := by decide +kernel
theorem dX7_digestOfEdges_11 : decode cX7_digestOfEdges 11 = .ok (.lstore_n 3, 1) := by decide +kernel
theorem dX7_digestOfEdges_12 : decode cX7_digestOfEdges 12 = .ok (.iconst 0, 1) := by decide +kernel
theorem dX7_digestOfEdges_13 : decode cX7_digestOfEdges 13 = .ok (.istore 5, 2) := by decide +kernel
theorem dX7_digestOfEdges_15 : decode cX7_digestOfEdges 15 = .ok (.iload 5, 2) := by decide +kernel
theorem dX7_digestOfEdges_17 : decode cX7_digestOfEdges 17 = .ok (.aload_n 0, 1) := by decide +kernel
theorem dX7_digestOfEdges_18 : decode cX7_digestOfEdges 18 = .ok (.getfield 19, 3) := by decide +kernel
theorem dX7_digestOfEdges_21 : decode cX7_digestOfEdges 21 = .ok (.getfield 147, 3) := by decide +kernel
theorem dX7_digestOfEdges_24 : decode cX7_digestOfEdges 24 = .ok (.if_icmp .ge 96, 3) := by decide +kernel
theorem dX7_digestOfEdges_120 : decode cX7_digestOfEdges 120 = .ok (.lload_n 3, 1) := by decide +kernel
theorem dX7_digestOfEdges_121 : decode cX7_digestOfEdges 121 = .ok (.lreturn, 1) := by decide +kernel
theorem dX7_digestOfSteps_0 : decode cX7_digestOfSteps 0 = .ok (.lload_n 1, 1) := by decide +kernel
theorem dX7_digestOfSteps_1 : decode cX7_digestOfSteps 1 = .ok (.aload_n 0, 1) := by decide +kernel
theorem dX7_digestOfSteps_2 : decode cX7_digestOfSteps 2 = .ok (.getfield 40, 3) := by decide +kernel
theorem dX7_digestOfSteps_5 : decode cX7_digestOfSteps 5 = .ok (.getfield 218, 3) := by decide +kernel
theorem dX7_digestOfSteps_8 : decode cX7_digestOfSteps 8 = .ok (.invokestatic 308, 3) := by decide +kernel
theorem dX7_digestOfSteps_11 : decode cX7_digestOfSteps 11 = .ok (.lstore_n 3, 1) := by decide +kernel
theorem dX7_digestOfSteps_12 : decode cX7_digestOfSteps 12 = .ok (.iconst 0, 1) := by decide +kernel
theorem dX7_digestOfSteps_13 : decode cX7_digestOfSteps 13 = .ok (.istore 5, 2) := by decide +kernel
theorem dX7_digestOfSteps_15 : decode cX7_digestOfSteps 15 = .ok (.iload 5, 2) := by decide +kernel
theorem dX7_digestOfSteps_17 : decode cX7_digestOfSteps 17 = .ok (.aload_n 0, 1) := by decide +kernel
theorem dX7_digestOfSteps_18 : decode cX7_digestOfSteps 18 = .ok (.getfield 40, 3) := by decide +kernel
theorem dX7_digestOfSteps_21 : decode cX7_digestOfSteps 21 = .ok (.getfield 218, 3) := by decide +kernel
theorem dX7_digestOfSteps_24 : decode cX7_digestOfSteps 24 = .ok (.if_icmp .ge 43, 3) := by decide +kernel
theorem dX7_digestOfSteps_67 : decode cX7_digestOfSteps 67 = .ok (.lload_n 3, 1) := by decide +kernel
theorem dX7_digestOfSteps_68 : decode cX7_digestOfSteps 68 = .ok (.aload_n 0, 1) := by decide +kernel
theorem dX7_digestOfSteps_69 : decode cX7_digestOfSteps 69 = .ok (.getfield 40, 3) := by decide +kernel
theorem dX7_digestOfSteps_72 : decode cX7_digestOfSteps 72 = .ok (.getfield 230, 3) := by decide +kernel
theorem dX7_digestOfSteps_75 : decode cX7_digestOfSteps 75 = .ok (.invokestatic 188, 3) := by decide +kernel
theorem dX7_digestOfSteps_78 : decode cX7_digestOfSteps 78 = .ok (.invokestatic 308, 3) := by decide +kernel
theorem dX7_digestOfSteps_81 : decode cX7_digestOfSteps 81 = .ok (.lstore_n 3, 1) := by decide +kernel
theorem dX7_digestOfSteps_82 : decode cX7_digestOfSteps 82 = .ok (.lload_n 3, 1) := by decide +kernel
theorem dX7_digestOfSteps_83 : decode cX7_digestOfSteps 83 = .ok (.aload_n 0, 1) := by decide +kernel
theorem dX7_digestOfSteps_84 : decode cX7_digestOfSteps 84 = .ok (.getfield 40, 3) := by decide +kernel
theorem dX7_digestOfSteps_87 : decode cX7_digestOfSteps 87 = .ok (.getfield 230, 3) := by decide +kernel
theorem dX7_digestOfSteps_90 : decode cX7_digestOfSteps 90 = .ok (.invokestatic 188, 3) := by decide +kernel
theorem dX7_digestOfSteps_93 : decode cX7_digestOfSteps 93 = .ok (.iconst 1, 1) := by decide +kernel
theorem dX7_digestOfSteps_94 : decode cX7_digestOfSteps 94 = .ok (.if_icmp .ne 7, 3) := by decide +kernel
theorem dX7_digestOfSteps_101 : decode cX7_digestOfSteps 101 = .ok (.iconst 0, 1) := by decide +kernel
theorem dX7_digestOfSteps_102 : decode cX7_digestOfSteps 102 = .ok (.invokestatic 312, 3) := by decide +kernel
theorem dX7_digestOfSteps_105 : decode cX7_digestOfSteps 105 = .ok (.lreturn, 1) := by decide +kernel
theorem dX7_digestOfLayers_0 : decode cX7_digestOfLayers 0 = .ok (.lload_n 1, 1) := by decide +kernel
theorem dX7_digestOfLayers_1 : decode cX7_digestOfLayers 1 = .ok (.aload_n 0, 1) := by decide +kernel
theorem dX7_digestOfLayers_2 : decode cX7_digestOfLayers 2 = .ok (.getfield 47, 3) := by decide +kernel
theorem dX7_digestOfLayers_5 : decode cX7_digestOfLayers 5 = .ok (.getfield 238, 3) := by decide +kernel
theorem dX7_digestOfLayers_8 : decode cX7_digestOfLayers 8 = .ok (.invokestatic 308, 3) := by decide +kernel
theorem dX7_digestOfLayers_11 : decode cX7_digestOfLayers 11 = .ok (.lstore_n 3, 1) := by decide +kernel
theorem dX7_digestOfLayers_12 : decode cX7_digestOfLayers 12 = .ok (.iconst 0, 1) := by decide +kernel
theorem dX7_digestOfLayers_13 : decode cX7_digestOfLayers 13 = .ok (.istore 5, 2) := by decide +kernel
theorem dX7_digestOfLayers_15 : decode cX7_digestOfLayers 15 = .ok (.iload 5, 2) := by decide +kernel
theorem dX7_digestOfLayers_17 : decode cX7_digestOfLayers 17 = .ok (.aload_n 0, 1) := by decide +kernel
theorem dX7_digestOfLayers_18 : decode cX7_digestOfLayers 18 = .ok (.getfield 47, 3) := by decide +kernel
theorem dX7_digestOfLayers_21 : decode cX7_digestOfLayers 21 = .ok (.getfield 238, 3) := by decide +kernel
theorem dX7_digestOfLayers_24 : decode cX7_digestOfLayers 24 = .ok (.if_icmp .ge 59, 3) := by decide +kernel
theorem dX7_digestOfLayers_83 : decode cX7_digestOfLayers 83 = .ok (.lload_n 3, 1) := by decide +kernel
theorem dX7_digestOfLayers_84 : decode cX7_digestOfLayers 84 = .ok (.lreturn, 1) := by decide +kernel
theorem mw_231 : Cond.constantLong RJ13 314 (6148914691236517205) ∈ GW := gw_mem (inT2 _ (List.mem_of_getElem? (i := 152) rfl)) rfl
theorem mw_232 : Cond.constantLong RJ13 316 (3689348814741910323) ∈ GW := gw_mem (inT2 _ (List.mem_of_getElem? (i := 153) rfl)) rfl
theorem mw_233 : Cond.constantLong RJ13 318 (1085102592571150095) ∈ GW := gw_mem (inT2 _ (List.mem_of_getElem? (i := 154) rfl)) rfl
theorem mw_234 : Cond.constantLong RX7 364 (31) ∈ GW := gw_mem (inT3 _ (List.mem_of_getElem? (i := 171) rfl)) rfl
theorem mw_235 : Cond.code yX3_sweepOften cX3_sweepOften 5 (none : Option FieldType) ∈ GW := gw_mem (inT5 _ (List.mem_of_getElem? (i := 126) rfl)) rfl
theorem mw_236 : Cond.methodLink RX3 148 yX3_sweepOften ∈ GW := gw_mem (inT5 _ (List.mem_of_getElem? (i := 152) rfl)) rfl
theorem mw_237 : Cond.instanceMethod yX3_sweepOften ∈ GW := gw_mem (inT5 _ (List.mem_of_getElem? (i := 124) rfl)) rfl
theorem mw_238 : Cond.selects RX3 yX3_sweepOften yX3_sweepOften ∈ GW := gw_mem (inT5 _ (List.mem_of_getElem? (i := 125) rfl)) rfl
theorem mw_239 : Cond.code yX3_countCrossings cX3_countCrossings 3 (some Jvm.ClassFile.FieldType.int) ∈ GW := gw_mem (inT3 _ (List.mem_of_getElem? (i := 138) rfl)) rfl
theorem mw_240 : Cond.methodLink RX3 152 yX3_countCrossings ∈ GW := gw_mem (inT5 _ (List.mem_of_getElem? (i := 153) rfl)) rfl
theorem mw_241 : Cond.instanceMethod yX3_countCrossings ∈ GW := gw_mem (inT3 _ (List.mem_of_getElem? (i := 136) rfl)) rfl
theorem mw_242 : Cond.selects RX3 yX3_countCrossings yX3_countCrossings ∈ GW := gw_mem (inT3 _ (List.mem_of_getElem? (i := 137) rfl)) rfl
theorem mw_243 : Cond.code yX7_mix cX7_mix 3 (some Jvm.ClassFile.FieldType.long) ∈ GW := gw_mem (inT3 _ (List.mem_of_getElem? (i := 170) rfl)) rfl
theorem mw_244 : Cond.methodLink RX7 308 yX7_mix ∈ GW := gw_mem (inT3 _ (List.mem_of_getElem? (i := 168) rfl)) rfl
theorem mw_245 : Cond.static yX7_mix ∈ GW := gw_mem (inT3 _ (List.mem_of_getElem? (i := 169) rfl)) rfl
theorem mw_246 : Cond.code yJ13_bitCount_95d88 cJ13_bitCount_95d88 2 (some Jvm.ClassFile.FieldType.int) ∈ GW := gw_mem (inT2 _ (List.mem_of_getElem? (i := 151) rfl)) rfl
theorem mw_247 : Cond.methodLink RX7 188 yJ13_bitCount_95d88 ∈ GW := gw_mem (inT2 _ (List.mem_of_getElem? (i := 149) rfl)) rfl
theorem mw_248 : Cond.static yJ13_bitCount_95d88 ∈ GW := gw_mem (inT2 _ (List.mem_of_getElem? (i := 150) rfl)) rfl
theorem mw_249 : Cond.initialized RJ13 ∈ GW := gw_mem (inT1 _ (List.mem_of_getElem? (i := 18) rfl)) rfl
theorem mw_250 : Cond.code yX7_mix_ cX7_mix_ 3 (some Jvm.ClassFile.FieldType.long) ∈ GW := gw_mem (inT3 _ (List.mem_of_getElem? (i := 180) rfl)) rfl
theorem mw_251 : Cond.methodLink RX7 312 yX7_mix_ ∈ GW := gw_mem (inT3 _ (List.mem_of_getElem? (i := 178) rfl)) rfl
theorem mw_252 : Cond.static yX7_mix_ ∈ GW := gw_mem (inT3 _ (List.mem_of_getElem? (i := 179) rfl)) rfl
theorem pdv_X3_sweepOften : yX3_sweepOften.cls = RX3 ∧ yX3_sweepOften.cls ≠ "java/lang/invoke/MethodHandle" ∧ yX3_sweepOften.cls ≠ "java/lang/invoke/VarHandle" ∧ (parseMethodDescriptor yX3_sweepOften.desc).map (fun d => d.parameters.length) = some 1 := by decide +kernel
theorem pdv_X3_countCrossings : yX3_countCrossings.cls = RX3 ∧ yX3_countCrossings.cls ≠ "java/lang/invoke/MethodHandle" ∧ yX3_countCrossings.cls ≠ "java/lang/invoke/VarHandle" ∧ (parseMethodDescriptor yX3_countCrossings.desc).map (fun d => d.parameters.length) = some 0 := by decide +kernel
theorem pd_X7_mix : yX7_mix.cls ≠ "java/lang/invoke/MethodHandle" ∧ yX7_mix.cls ≠ "java/lang/invoke/VarHandle" ∧ (parseMethodDescriptor yX7_mix.desc).map (fun d => d.parameters.length) = some 2 := by decide +kernel
theorem pd_J13_bitCount_95d88 : yJ13_bitCount_95d88.cls ≠ "java/lang/invoke/MethodHandle" ∧ yJ13_bitCount_95d88.cls ≠ "java/lang/invoke/VarHandle" ∧ (parseMethodDescriptor yJ13_bitCount_95d88.desc).map (fun d => d.parameters.length) = some 1 := by decide +kernel
theorem pd_X7_mix_ : yX7_mix_.cls ≠ "java/lang/invoke/MethodHandle" ∧ yX7_mix_.cls ≠ "java/lang/invoke/VarHandle" ∧ (parseMethodDescriptor yX7_mix_.desc).map (fun d => d.parameters.length) = some 2 := by decide +kernel
theorem nn_of {k : Int32} (h : ¬ k < 1) : ¬ k < 0 := fun z => h (by
  rw [Int32.lt_iff_toInt_lt] at z ⊢
  have h0 : (0 : Int32).toInt = 0 := rfl
  have h1 : (1 : Int32).toInt = 1 := rfl
  omega)
theorem le_of_nlt0 {k : Int32} (h : ¬ k < 0) : (0 : Int32) ≤ k := by
  rw [Int32.lt_iff_toInt_lt] at h
  rw [Int32.le_iff_toInt_le]
  omega
def OKI (place kind target : Int32) : Prop := ¬ place < 0 ∧ place ≤ 0 ∧ ¬ kind < 0 ∧ kind ≤ 3 ∧ ((kind = 1 ∨ kind = 2) → ¬ target < 0 ∧ ¬ 40 < target)
theorem oki_bad {k t r1 r2 : Int32} (hj : r1 = 1 ∧ (k = 1 ∨ k = 2) ∨ r1 = 0 ∧ ¬ k = 1 ∧ ¬ k = 2) (ht : r2 = 1 ∧ ¬ t < 0 ∧ ¬ 40 < t ∨ r2 = 0 ∧ (t < 0 ∨ 40 < t)) (c1 : ¬ r1 = 0) (c2 : r2 = 0) : ¬ ((k = 1 ∨ k = 2) → ¬ t < 0 ∧ ¬ 40 < t) := by
  intro z
  rcases hj with ⟨-, hj⟩ | ⟨hj, -⟩
  · rcases ht with ⟨q, -⟩ | ⟨-, q⟩
    · rw [q] at c2; exact absurd c2 (by decide)
    · rcases q with q | q
      · exact (z hj).1 q
      · exact (z hj).2 q
  · exact c1 hj
theorem oki_no {k t r1 : Int32} (hj : r1 = 1 ∧ (k = 1 ∨ k = 2) ∨ r1 = 0 ∧ ¬ k = 1 ∧ ¬ k = 2) (c1 : r1 = 0) : ((k = 1 ∨ k = 2) → ¬ t < 0 ∧ ¬ 40 < t) := by
  intro z
  rcases hj with ⟨q, -⟩ | ⟨-, q1, q2⟩
  · rw [q] at c1; exact absurd c1 (by decide)
  · rcases z with z | z
    · exact absurd z q1
    · exact absurd z q2
theorem oki_yes {k t r2 : Int32} (ht : r2 = 1 ∧ ¬ t < 0 ∧ ¬ 40 < t ∨ r2 = 0 ∧ (t < 0 ∨ 40 < t)) (c2 : ¬ r2 = 0) : ((k = 1 ∨ k = 2) → ¬ t < 0 ∧ ¬ 40 < t) := by
  intro _
  rcases ht with ⟨-, q⟩ | ⟨q, -⟩
  · exact q
  · exact absurd q c2
set_option maxHeartbeats 4000000 in
set_option maxRecDepth 100000 in
theorem c_bitCount0 (l : Launch) (D : va_G) (cI cJ cZ : ClassId) (w : va_W) : CT l D (TY cI cJ cZ) yJ13_bitCount_95d88 (.code yJ13_bitCount_95d88 cJ13_bitCount_95d88 2 (some Jvm.ClassFile.FieldType.int)) 0 0 0 w [.long 0] (QI D (TY cI cJ cZ) (fun r u => r = 0 ∧ u = w)) := by
  refine ent (by decide) (Nat.le_of_ble_eq_true rfl) ?_
  intro p e s m below meth c ls A hx hb hr hg hown hml hlocks hnm hP hK hD hS hA hN hl
  have hl : lv_has ls 2 [(0, .long 0)] := hl
  refine lv_lload_n hx hb dJ13_bitCount_95d88_0 rfl (lv_at hl 0 rfl) ?_
  refine lv_lload_n hx hb dJ13_bitCount_95d88_1 rfl (lv_at hl 0 rfl) ?_
  refine lv_iconst (v := 1) hx hb dJ13_bitCount_95d88_2 (by decide) ?_
  refine lv_lushr (v := 0) hx hb dJ13_bitCount_95d88_3 (lushr0 _) ?_
  refine lv_ldc2 (v := 6148914691236517205) hx hb hown (hg _ mw_231) dJ13_bitCount_95d88_4 ?_
  refine lv_land hx hb dJ13_bitCount_95d88_7 ?_
  refine lv_topl (fun v_1 ev_1 => ?_)
  obtain rfl : v_1 = (0 : Int64) := ev_1.trans (by decide)
  refine lv_lsub hx hb dJ13_bitCount_95d88_8 ?_
  refine lv_topl (fun v_2 ev_2 => ?_)
  obtain rfl : v_2 = (0 : Int64) := ev_2.trans (by decide)
  refine lv_lstore_n (lv' := [(0, .long 0)]) hx hb dJ13_bitCount_95d88_9 rfl hl (by decide) rfl (fun ls hl => ?_)
  refine lv_lload_n hx hb dJ13_bitCount_95d88_10 rfl (lv_at hl 0 rfl) ?_
  refine lv_ldc2 (v := 3689348814741910323) hx hb hown (hg _ mw_232) dJ13_bitCount_95d88_11 ?_
  refine lv_land hx hb dJ13_bitCount_95d88_14 ?_
  refine lv_topl (fun v_3 ev_3 => ?_)
  obtain rfl : v_3 = (0 : Int64) := ev_3.trans (by decide)
  refine lv_lload_n hx hb dJ13_bitCount_95d88_15 rfl (lv_at hl 0 rfl) ?_
  refine lv_iconst (v := 2) hx hb dJ13_bitCount_95d88_16 (by decide) ?_
  refine lv_lushr (v := 0) hx hb dJ13_bitCount_95d88_17 (lushr0 _) ?_
  refine lv_ldc2 (v := 3689348814741910323) hx hb hown (hg _ mw_232) dJ13_bitCount_95d88_18 ?_
  refine lv_land hx hb dJ13_bitCount_95d88_21 ?_
  refine lv_topl (fun v_4 ev_4 => ?_)
  obtain rfl : v_4 = (0 : Int64) := ev_4.trans (by decide)
  refine lv_ladd hx hb dJ13_bitCount_95d88_22 ?_
  refine lv_topl (fun v_5 ev_5 => ?_)
  obtain rfl : v_5 = (0 : Int64) := ev_5.trans (by decide)
  refine lv_lstore_n (lv' := [(0, .long 0)]) hx hb dJ13_bitCount_95d88_23 rfl hl (by decide) rfl (fun ls hl => ?_)
  refine lv_lload_n hx hb dJ13_bitCount_95d88_24 rfl (lv_at hl 0 rfl) ?_
  refine lv_lload_n hx hb dJ13_bitCount_95d88_25 rfl (lv_at hl 0 rfl) ?_
  refine lv_iconst (v := 4) hx hb dJ13_bitCount_95d88_26 (by decide) ?_
  refine lv_lushr (v := 0) hx hb dJ13_bitCount_95d88_27 (lushr0 _) ?_
  refine lv_ladd hx hb dJ13_bitCount_95d88_28 ?_
  refine lv_topl (fun v_6 ev_6 => ?_)
  obtain rfl : v_6 = (0 : Int64) := ev_6.trans (by decide)
  refine lv_ldc2 (v := 1085102592571150095) hx hb hown (hg _ mw_233) dJ13_bitCount_95d88_29 ?_
  refine lv_land hx hb dJ13_bitCount_95d88_32 ?_
  refine lv_topl (fun v_7 ev_7 => ?_)
  obtain rfl : v_7 = (0 : Int64) := ev_7.trans (by decide)
  refine lv_lstore_n (lv' := [(0, .long 0)]) hx hb dJ13_bitCount_95d88_33 rfl hl (by decide) rfl (fun ls hl => ?_)
  refine lv_lload_n hx hb dJ13_bitCount_95d88_34 rfl (lv_at hl 0 rfl) ?_
  refine lv_lload_n hx hb dJ13_bitCount_95d88_35 rfl (lv_at hl 0 rfl) ?_
  refine lv_bipush (v := 8) hx hb dJ13_bitCount_95d88_36 (by decide) ?_
  refine lv_lushr (v := 0) hx hb dJ13_bitCount_95d88_38 (lushr0 _) ?_
  refine lv_ladd hx hb dJ13_bitCount_95d88_39 ?_
  refine lv_topl (fun v_8 ev_8 => ?_)
  obtain rfl : v_8 = (0 : Int64) := ev_8.trans (by decide)
  refine lv_lstore_n (lv' := [(0, .long 0)]) hx hb dJ13_bitCount_95d88_40 rfl hl (by decide) rfl (fun ls hl => ?_)
  refine lv_lload_n hx hb dJ13_bitCount_95d88_41 rfl (lv_at hl 0 rfl) ?_
  refine lv_lload_n hx hb dJ13_bitCount_95d88_42 rfl (lv_at hl 0 rfl) ?_
  refine lv_bipush (v := 16) hx hb dJ13_bitCount_95d88_43 (by decide) ?_
  refine lv_lushr (v := 0) hx hb dJ13_bitCount_95d88_45 (lushr0 _) ?_
  refine lv_ladd hx hb dJ13_bitCount_95d88_46 ?_
  refine lv_topl (fun v_9 ev_9 => ?_)
  obtain rfl : v_9 = (0 : Int64) := ev_9.trans (by decide)
  refine lv_lstore_n (lv' := [(0, .long 0)]) hx hb dJ13_bitCount_95d88_47 rfl hl (by decide) rfl (fun ls hl => ?_)
  refine lv_lload_n hx hb dJ13_bitCount_95d88_48 rfl (lv_at hl 0 rfl) ?_
  refine lv_lload_n hx hb dJ13_bitCount_95d88_49 rfl (lv_at hl 0 rfl) ?_
  refine lv_bipush (v := 32) hx hb dJ13_bitCount_95d88_50 (by decide) ?_
  refine lv_lushr (v := 0) hx hb dJ13_bitCount_95d88_52 (lushr0 _) ?_
  refine lv_ladd hx hb dJ13_bitCount_95d88_53 ?_
  refine lv_topl (fun v_10 ev_10 => ?_)
  obtain rfl : v_10 = (0 : Int64) := ev_10.trans (by decide)
  refine lv_lstore_n (lv' := [(0, .long 0)]) hx hb dJ13_bitCount_95d88_54 rfl hl (by decide) rfl (fun ls hl => ?_)
  refine lv_lload_n hx hb dJ13_bitCount_95d88_55 rfl (lv_at hl 0 rfl) ?_
  refine lv_l2i (v := 0) hx hb dJ13_bitCount_95d88_56 (by decide) ?_
  refine lv_bipush (v := 127) hx hb dJ13_bitCount_95d88_57 (by decide) ?_
  refine lv_iand hx hb dJ13_bitCount_95d88_59 ?_
  refine lv_topi (fun v_11 ev_11 => ?_)
  obtain rfl : v_11 = (0 : Int32) := ev_11.trans (by decide)
  exact W.iret (v := 0) hx hb hr (fun t ht hW => ⟨⟨0, w, rfl, ⟨rfl, rfl⟩, ⟨by rw [ht]; exact hP, va_K.moved hW.alike hK, hD⟩⟩, hS.F ht⟩) hS.2.2 dJ13_bitCount_95d88_60
set_option maxHeartbeats 4000000 in
set_option maxRecDepth 100000 in
theorem c_mix (l : Launch) (D : va_G) (cI cJ cZ : ClassId) (w : va_W) (x : Int64) (v : Int32) : CT l D (TY cI cJ cZ) yX7_mix (.code yX7_mix cX7_mix 3 (some Jvm.ClassFile.FieldType.long)) 0 0 0 w [.long x, .int v] (QL D (TY cI cJ cZ) (fun r u => r = x * 31 + v.toInt64 ∧ u = w)) := by
  refine ent (by decide) (Nat.le_of_ble_eq_true rfl) ?_
  intro p e s m below meth c ls A hx hb hr hg hown hml hlocks hnm hP hK hD hS hA hN hl
  have hl : lv_has ls 3 [(0, .long x), (2, .int v)] := hl
  refine lv_lload_n hx hb dX7_mix_0 rfl (lv_at hl 0 rfl) ?_
  refine lv_ldc2 (v := 31) hx hb hown (hg _ mw_234) dX7_mix_1 ?_
  refine lv_lmul hx hb dX7_mix_4 ?_
  refine lv_topl (fun v_1 ev_1 => ?_)
  refine lv_iload_n hx hb dX7_mix_5 rfl (lv_at hl 1 rfl) ?_
  refine lv_i2l hx hb dX7_mix_6 rfl ?_
  refine lv_ladd hx hb dX7_mix_7 ?_
  refine lv_topl (fun v_2 ev_2 => ?_)
  exact W.lret (v := v_2) hx hb hr (fun t ht hW => ⟨⟨v_2, w, rfl, ⟨by rw [ev_2, ev_1], rfl⟩, ⟨by rw [ht]; exact hP, va_K.moved hW.alike hK, hD⟩⟩, hS.F ht⟩) hS.2.2 dX7_mix_8
set_option maxHeartbeats 4000000 in
set_option maxRecDepth 100000 in
theorem c_mixZ0 (l : Launch) (D : va_G) (cI cJ cZ : ClassId) (w : va_W) (x : Int64) : CT l D (TY cI cJ cZ) yX7_mix_ (.code yX7_mix_ cX7_mix_ 3 (some Jvm.ClassFile.FieldType.long)) 0 0 0 w [.long x, .int 0] (QL D (TY cI cJ cZ) (fun r u => r = x * 31 + 0 ∧ u = w)) := by
  refine ent (by decide) (Nat.le_of_ble_eq_true rfl) ?_
  intro p e s m below meth c ls A hx hb hr hg hown hml hlocks hnm hP hK hD hS hA hN hl
  have hl : lv_has ls 3 [(0, .long x), (2, .int 0)] := hl
  refine lv_lload_n hx hb dX7_mix__0 rfl (lv_at hl 0 rfl) ?_
  refine lv_ldc2 (v := 31) hx hb hown (hg _ mw_234) dX7_mix__1 ?_
  refine lv_lmul hx hb dX7_mix__4 ?_
  refine lv_topl (fun v_1 ev_1 => ?_)
  refine lv_iload_n hx hb dX7_mix__5 rfl (lv_at hl 1 rfl) ?_
  refine lv_if_eq (tgt := 13) hx hb dX7_mix__6 (by decide) (fun c_6 => ?_) (fun c_6 => absurd (by decide) c_6)
  refine lv_lconst (v := 0) hx hb dX7_mix__13 (by decide) ?_
  refine lv_ladd hx hb dX7_mix__14 ?_
  refine lv_topl (fun v_2 ev_2 => ?_)
  exact W.lret (v := v_2) hx hb hr (fun t ht hW => ⟨⟨v_2, w, rfl, ⟨by rw [ev_2, ev_1], rfl⟩, ⟨by rw [ht]; exact hP, va_K.moved hW.alike hK, hD⟩⟩, hS.F ht⟩) hS.2.2 dX7_mix__15
set_option maxHeartbeats 4000000 in
set_option maxRecDepth 100000 in
theorem c_mixZ1 (l : Launch) (D : va_G) (cI cJ cZ : ClassId) (w : va_W) (x : Int64) : CT l D (TY cI cJ cZ) yX7_mix_ (.code yX7_mix_ cX7_mix_ 3 (some Jvm.ClassFile.FieldType.long)) 0 0 0 w [.long x, .int 1] (QL D (TY cI cJ cZ) (fun r u => r = x * 31 + 1 ∧ u = w)) := by
  refine ent (by decide) (Nat.le_of_ble_eq_true rfl) ?_
  intro p e s m below meth c ls A hx hb hr hg hown hml hlocks hnm hP hK hD hS hA hN hl
  have hl : lv_has ls 3 [(0, .long x), (2, .int 1)] := hl
  refine lv_lload_n hx hb dX7_mix__0 rfl (lv_at hl 0 rfl) ?_
  refine lv_ldc2 (v := 31) hx hb hown (hg _ mw_234) dX7_mix__1 ?_
  refine lv_lmul hx hb dX7_mix__4 ?_
  refine lv_topl (fun v_1 ev_1 => ?_)
  refine lv_iload_n hx hb dX7_mix__5 rfl (lv_at hl 1 rfl) ?_
  refine lv_if_eq (tgt := 13) hx hb dX7_mix__6 (by decide) (fun c_6 => absurd c_6 (by decide)) (fun c_6 => ?_)
  refine lv_lconst (v := 1) hx hb dX7_mix__9 (by decide) ?_
  refine lv_goto (tgt := 14) hx hb dX7_mix__10 (by decide) ?_
  refine lv_ladd hx hb dX7_mix__14 ?_
  refine lv_topl (fun v_2 ev_2 => ?_)
  exact W.lret (v := v_2) hx hb hr (fun t ht hW => ⟨⟨v_2, w, rfl, ⟨by rw [ev_2, ev_1], rfl⟩, ⟨by rw [ht]; exact hP, va_K.moved hW.alike hK, hD⟩⟩, hS.F ht⟩) hS.2.2 dX7_mix__15
set_option maxHeartbeats 4000000 in
set_option maxRecDepth 100000 in
theorem c_countWindings (l : Launch) (D : va_G) (cI cJ cZ : ClassId) (ad : Nat → Nat) (b : Nat → Int32) (F : Nat → Nat → Int32) (G : Nat → Nat → Int64) (R : va_W) : CT l D (TY cI cJ cZ) yX1_countWindings (.code yX1_countWindings cX1_countWindings 3 (some Jvm.ClassFile.FieldType.int)) 0 0 0 (XW ad cI cJ 0 b F G ++ R) [.ref (ad 2)] (QI D (TY cI cJ cZ) (fun r u => r = 0 ∧ u = XW ad cI cJ 0 b F G ++ R)) := by
  refine ent (by decide) (Nat.le_of_ble_eq_true rfl) ?_
  intro p e s m below meth c ls A hx hb hr hg hown hml hlocks hnm hP hK hD hS hA hN hl
  have hl : lv_has ls 3 [(0, .ref (ad 2))] := hl
  refine lv_aload_n hx hb dX1_countWindings_0 rfl (lv_at hl 0 rfl) ?_
  refine va_get (D := D) (ci := 1) (v := .int 0) (C := RX1) (T := TX1) (N := 11) hx hb hg inGX1 hown hK hP 2 rfl rfl 7 (by decide) (hg _ mw_97) (fun _ h9 => h9) rfl dX1_countWindings_1 ?_
  refine lv_if_ne (tgt := 9) hx hb dX1_countWindings_4 (by decide) (fun c_4 => absurd (by decide) c_4) (fun c_4 => ?_)
  refine lv_iconst (v := 0) hx hb dX1_countWindings_7 (by decide) ?_
  exact W.iret (v := 0) hx hb hr (fun t ht hW => ⟨⟨0, (XW ad cI cJ 0 b F G ++ R), rfl, ⟨rfl, rfl⟩, ⟨by rw [ht]; exact hP, va_K.moved hW.alike hK, hD⟩⟩, hS.F ht⟩) hS.2.2 dX1_countWindings_8
set_option maxHeartbeats 4000000 in
set_option maxRecDepth 100000 in
theorem c_countCrossings (l : Launch) (D : va_G) (cI cJ cZ : ClassId) (ad : Nat → Nat) (b : Nat → Int32) (F : Nat → Nat → Int32) (G : Nat → Nat → Int64) (R : va_W) : CT l D (TY cI cJ cZ) yX3_countCrossings (.code yX3_countCrossings cX3_countCrossings 3 (some Jvm.ClassFile.FieldType.int)) 0 0 0 (XW ad cI cJ 0 b F G ++ R) [.ref (ad 6)] (QI D (TY cI cJ cZ) (fun r u => r = 0 ∧ u = XW ad cI cJ 0 b F G ++ R)) := by
  refine ent (by decide) (Nat.le_of_ble_eq_true rfl) ?_
  intro p e s m below meth c ls A hx hb hr hg hown hml hlocks hnm hP hK hD hS hA hN hl
  have hl : lv_has ls 3 [(0, .ref (ad 6))] := hl
  refine lv_iconst (v := 0) hx hb dX3_countCrossings_0 (by decide) ?_
  refine lv_istore_n (lv' := [(1, .int 0), (0, .ref (ad 6))]) hx hb dX3_countCrossings_1 rfl hl (by decide) rfl (fun ls hl => ?_)
  refine lv_iconst (v := 0) hx hb dX3_countCrossings_2 (by decide) ?_
  refine lv_istore_n (lv' := [(2, .int 0), (1, .int 0), (0, .ref (ad 6))]) hx hb dX3_countCrossings_3 rfl hl (by decide) rfl (fun ls hl => ?_)
  refine lv_iload_n hx hb dX3_countCrossings_4 rfl (lv_at hl 0 rfl) ?_
  refine lv_aload_n hx hb dX3_countCrossings_5 rfl (lv_at hl 2 rfl) ?_
  refine va_get (D := D) (ci := 3) (v := .int 0) (C := RX3) (T := TX3) (N := 16) hx hb hg inGX3 hown hK hP 6 rfl rfl 13 (by decide) (hg _ mw_180) (fun _ h9 => h9) rfl dX3_countCrossings_6 ?_
  refine lv_iconst (v := 1) hx hb dX3_countCrossings_9 (by decide) ?_
  refine lv_isub hx hb dX3_countCrossings_10 ?_
  refine lv_topi (fun v_1 ev_1 => ?_)
  obtain rfl : v_1 = ((-1) : Int32) := ev_1.trans (by decide)
  refine lv_icmp_ge (tgt := 28) hx hb dX3_countCrossings_11 (by decide) (fun c_11 => ?_) (fun c_11 => absurd (by decide) c_11)
  refine lv_iload_n hx hb dX3_countCrossings_28 rfl (lv_at hl 1 rfl) ?_
  exact W.iret (v := 0) hx hb hr (fun t ht hW => ⟨⟨0, (XW ad cI cJ 0 b F G ++ R), rfl, ⟨rfl, rfl⟩, ⟨by rw [ht]; exact hP, va_K.moved hW.alike hK, hD⟩⟩, hS.F ht⟩) hS.2.2 dX3_countCrossings_29
set_option maxHeartbeats 4000000 in
set_option maxRecDepth 100000 in
theorem c_meanSpan (l : Launch) (D : va_G) (cI cJ cZ : ClassId) (ad : Nat → Nat) (b : Nat → Int32) (F : Nat → Nat → Int32) (G : Nat → Nat → Int64) (R : va_W) : CT l D (TY cI cJ cZ) yX3_meanSpan (.code yX3_meanSpan cX3_meanSpan 4 (some Jvm.ClassFile.FieldType.double)) 0 0 0 (XW ad cI cJ 0 b F G ++ R) [.ref (ad 6)] (QD D (TY cI cJ cZ) (fun r u => r = FP.dconst0 ∧ u = XW ad cI cJ 0 b F G ++ R)) := by
  refine ent (by decide) (Nat.le_of_ble_eq_true rfl) ?_
  intro p e s m below meth c ls A hx hb hr hg hown hml hlocks hnm hP hK hD hS hA hN hl
  have hl : lv_has ls 4 [(0, .ref (ad 6))] := hl
  refine lv_iconst (v := 0) hx hb dX3_meanSpan_0 (by decide) ?_
  refine lv_istore_n (lv' := [(1, .int 0), (0, .ref (ad 6))]) hx hb dX3_meanSpan_1 rfl hl (by decide) rfl (fun ls hl => ?_)
  refine lv_iconst (v := 0) hx hb dX3_meanSpan_2 (by decide) ?_
  refine lv_istore_n (lv' := [(2, .int 0), (1, .int 0), (0, .ref (ad 6))]) hx hb dX3_meanSpan_3 rfl hl (by decide) rfl (fun ls hl => ?_)
  refine lv_iconst (v := 0) hx hb dX3_meanSpan_4 (by decide) ?_
  refine lv_istore_n (lv' := [(3, .int 0), (2, .int 0), (1, .int 0), (0, .ref (ad 6))]) hx hb dX3_meanSpan_5 rfl hl (by decide) rfl (fun ls hl => ?_)
  refine lv_iload_n hx hb dX3_meanSpan_6 rfl (lv_at hl 0 rfl) ?_
  refine lv_aload_n hx hb dX3_meanSpan_7 rfl (lv_at hl 3 rfl) ?_
  refine va_get (D := D) (ci := 3) (v := .int 0) (C := RX3) (T := TX3) (N := 16) hx hb hg inGX3 hown hK hP 6 rfl rfl 12 (by decide) (hg _ mw_174) (fun _ h9 => h9) rfl dX3_meanSpan_8 ?_
  refine lv_icmp_ge (tgt := 48) hx hb dX3_meanSpan_11 (by decide) (fun c_11 => ?_) (fun c_11 => absurd (by decide) c_11)
  refine lv_iload_n hx hb dX3_meanSpan_48 rfl (lv_at hl 2 rfl) ?_
  refine lv_if_le (tgt := 60) hx hb dX3_meanSpan_49 (by decide) (fun c_49 => ?_) (fun c_49 => absurd (by decide) c_49)
  refine lv_dconst0 hx hb dX3_meanSpan_60 ?_
  exact W.dret (v := FP.dconst0) hx hb hr (fun t ht hW => ⟨⟨FP.dconst0, (XW ad cI cJ 0 b F G ++ R), rfl, ⟨rfl, rfl⟩, ⟨by rw [ht]; exact hP, va_K.moved hW.alike hK, hD⟩⟩, hS.F ht⟩) hS.2.2 dX3_meanSpan_61
set_option maxHeartbeats 4000000 in
set_option maxRecDepth 100000 in
theorem c_sweepOften (l : Launch) (D : va_G) (cI cJ cZ : ClassId) (ad : Nat → Nat) (b : Nat → Int32) (F : Nat → Nat → Int32) (G : Nat → Nat → Int64) (R : va_W) (k : Int32) (N : Nat) (hk : k = nI N) (hN31 : N < 2 ^ 31) : CT l D (TY cI cJ cZ) yX3_sweepOften (.code yX3_sweepOften cX3_sweepOften 5 (none : Option FieldType)) 0 0 0 (XW ad cI cJ 0 b F G ++ R) [.ref (ad 6), .int k] (QV D (TY cI cJ cZ) (fun u => ∃ b', u = XW ad cI cJ 0 b' F G ++ R)) := by
  refine ent (by decide) (Nat.le_of_ble_eq_true rfl) ?_
  intro p e s m below meth c ls A hx hb hr hg hown hml hlocks hnm hP hK hD hS hA hN hl
  have hl : lv_has ls 5 [(0, .ref (ad 6)), (1, .int k)] := hl
  refine lv_iconst (v := 0) hx hb dX3_sweepOften_0 (by decide) ?_
  refine lv_istore_n (lv' := [(2, .int 0), (0, .ref (ad 6)), (1, .int k)]) hx hb dX3_sweepOften_1 rfl hl (by decide) rfl (fun ls hl => ?_)
  -- the loop at 2
  refine w_loop (σ := Nat → Int32) (fun (i : Nat) (u_1 : Nat → Int32) (H : Heap) (locs : List Loc) (ls : Array Slot) => (True) ∧ va_P D vwCl (XW ad cI cJ 0 u_1 F G ++ R) H ∧ va_D A (XW ad cI cJ 0 u_1 F G ++ R) ∧ va_S A s.heap H locs ∧ lv_has ls 5 [(0, .ref (ad 6)), (1, .int k), (2, .int (nI i))]) N (fun u_1 H locs ls hI => ?_) (fun i u_1 H locs ls hi hI ih => ?_) 0 b (Nat.zero_le _) ⟨trivial, hP, hD, hS, by rw [nI_0]; exact lv_sub hl [1, 2, 0] rfl⟩
  · obtain ⟨hF_1, hP, hD, hS, hl⟩ := hI
    have hP : va_P D vwCl (XW ad cI cJ 0 u_1 F G ++ R) H := hP
    have hD : va_D A (XW ad cI cJ 0 u_1 F G ++ R) := hD
    have hl : lv_has ls 5 [(0, .ref (ad 6)), (1, .int k), (2, .int (nI N))] := hl
    refine lv_iload_n hx hb dX3_sweepOften_2 rfl (lv_at hl 2 rfl) ?_
    refine lv_iload_n hx hb dX3_sweepOften_3 rfl (lv_at hl 1 rfl) ?_
    refine lv_icmp_ge (tgt := 93) hx hb dX3_sweepOften_4 (by decide) (fun c_4 => ?_) (fun c_4 => absurd (by rw [hk]; exact Int32.le_refl _) c_4)
    exact W.vret hx hb hr (fun t ht hW => ⟨⟨(XW ad cI cJ 0 u_1 F G ++ R), rfl, ⟨_, rfl⟩, ⟨by rw [ht]; exact hP, va_K.moved hW.alike hK, hD⟩⟩, hS.F ht⟩) hS.2.2 dX3_sweepOften_93
  · obtain ⟨hF_1, hP, hD, hS, hl⟩ := hI
    have hP : va_P D vwCl (XW ad cI cJ 0 u_1 F G ++ R) H := hP
    have hD : va_D A (XW ad cI cJ 0 u_1 F G ++ R) := hD
    have hl : lv_has ls 5 [(0, .ref (ad 6)), (1, .int k), (2, .int (nI i))] := hl
    refine lv_iload_n hx hb dX3_sweepOften_2 rfl (lv_at hl 2 rfl) ?_
    refine lv_iload_n hx hb dX3_sweepOften_3 rfl (lv_at hl 1 rfl) ?_
    refine lv_icmp_ge (tgt := 93) hx hb dX3_sweepOften_4 (by decide) (fun c_4 => absurd c_4 (by rw [hk]; exact nI_ge hi hN31)) (fun c_4 => ?_)
    refine lv_aload_n hx hb dX3_sweepOften_7 rfl (lv_at hl 0 rfl) ?_
    refine va_get (D := D) (ci := 3) (v := .int (u_1 5)) (C := RX3) (T := TX3) (N := 16) hx hb hg inGX3 hown hK hP 6 rfl rfl 14 (by decide) (hg _ mw_189) (fun _ h9 => h9) rfl dX3_sweepOften_8 ?_
    refine lv_iconst (v := 1) hx hb dX3_sweepOften_11 (by decide) ?_
    refine lv_iand hx hb dX3_sweepOften_12 ?_
    refine lv_topi (fun v_2 ev_2 => ?_)
    refine lv_if_ne (tgt := 20) hx hb dX3_sweepOften_13 (by decide) (fun c_13 => ?_) (fun c_13 => ?_)
    · refine lv_iconst (v := 0) hx hb dX3_sweepOften_20 (by decide) ?_
      refine lv_istore_n (lv' := [(3, .int 0), (0, .ref (ad 6)), (1, .int k), (2, .int (nI i))]) hx hb dX3_sweepOften_21 rfl hl (by decide) rfl (fun ls hl => ?_)
      refine lv_iconst (v := 1) hx hb dX3_sweepOften_22 (by decide) ?_
      refine lv_istore (lv' := [(4, .int 1), (3, .int 0), (0, .ref (ad 6)), (1, .int k), (2, .int (nI i))]) hx hb dX3_sweepOften_23 hl (by decide) rfl (fun ls hl => ?_)
      refine lv_iload hx hb dX3_sweepOften_25 (lv_at hl 0 rfl) ?_
      refine lv_aload_n hx hb dX3_sweepOften_27 rfl (lv_at hl 2 rfl) ?_
      refine va_get (D := D) (ci := 3) (v := .int 0) (C := RX3) (T := TX3) (N := 16) hx hb hg inGX3 hown hK hP 6 rfl rfl 13 (by decide) (hg _ mw_180) (fun _ h9 => h9) rfl dX3_sweepOften_28 ?_
      refine lv_icmp_ge (tgt := 77) hx hb dX3_sweepOften_31 (by decide) (fun c_31 => ?_) (fun c_31 => absurd (by decide) c_31)
      refine lv_aload_n hx hb dX3_sweepOften_77 rfl (lv_at hl 2 rfl) ?_
      refine lv_dup hx hb dX3_sweepOften_78 rfl ?_
      refine va_get (D := D) (ci := 3) (v := .int (u_1 5)) (C := RX3) (T := TX3) (N := 16) hx hb hg inGX3 hown hK hP 6 rfl rfl 14 (by decide) (hg _ mw_189) (fun _ h9 => h9) rfl dX3_sweepOften_79 ?_
      refine lv_iconst (v := 1) hx hb dX3_sweepOften_82 (by decide) ?_
      refine lv_iadd hx hb dX3_sweepOften_83 ?_
      refine lv_topi (fun v_3 ev_3 => ?_)
      refine va_put (D := D) (ci := 3) (v := .int v_3) (C := RX3) (T := TX3) (N := 16) hx hb hg inGX3 tyX3 tyX3_ok nmX3 hown hK hP hD hS 6 rfl rfl 14 (by decide) (hg _ mw_189) (fun _ h9 => h9) rfl (tyX3_ok 14 (by decide)) rfl rfl (Nat.le_of_ble_eq_true rfl) dX3_sweepOften_84 (fun H locs hP hD hS => ?_)
      have hP : va_P D vwCl (XW ad cI cJ 0 (va_up u_1 5 v_3) F G ++ R) H := hP
      have hD : va_D A (XW ad cI cJ 0 (va_up u_1 5 v_3) F G ++ R) := hD
      refine lv_iinc (v := nI (i + 1)) (lv' := [(2, .int (nI (i + 1))), (4, .int 1), (3, .int 0), (0, .ref (ad 6)), (1, .int k)]) hx hb dX3_sweepOften_87 hl (k := 4) rfl (nI_1 i) (by decide) rfl (fun ls hl => ?_)
      refine lv_goto (tgt := 2) hx hb dX3_sweepOften_90 (by decide) ?_
      exact ih (va_up u_1 5 v_3) H locs ls ⟨trivial, hP, hD, hS, lv_sub hl [3, 4, 0] rfl⟩
    · refine lv_iconst (v := 1) hx hb dX3_sweepOften_16 (by decide) ?_
      refine lv_goto (tgt := 21) hx hb dX3_sweepOften_17 (by decide) ?_
      refine lv_istore_n (lv' := [(3, .int 1), (0, .ref (ad 6)), (1, .int k), (2, .int (nI i))]) hx hb dX3_sweepOften_21 rfl hl (by decide) rfl (fun ls hl => ?_)
      refine lv_iconst (v := 1) hx hb dX3_sweepOften_22 (by decide) ?_
      refine lv_istore (lv' := [(4, .int 1), (3, .int 1), (0, .ref (ad 6)), (1, .int k), (2, .int (nI i))]) hx hb dX3_sweepOften_23 hl (by decide) rfl (fun ls hl => ?_)
      refine lv_iload hx hb dX3_sweepOften_25 (lv_at hl 0 rfl) ?_
      refine lv_aload_n hx hb dX3_sweepOften_27 rfl (lv_at hl 2 rfl) ?_
      refine va_get (D := D) (ci := 3) (v := .int 0) (C := RX3) (T := TX3) (N := 16) hx hb hg inGX3 hown hK hP 6 rfl rfl 13 (by decide) (hg _ mw_180) (fun _ h9 => h9) rfl dX3_sweepOften_28 ?_
      refine lv_icmp_ge (tgt := 77) hx hb dX3_sweepOften_31 (by decide) (fun c_31 => ?_) (fun c_31 => absurd (by decide) c_31)
      refine lv_aload_n hx hb dX3_sweepOften_77 rfl (lv_at hl 2 rfl) ?_
      refine lv_dup hx hb dX3_sweepOften_78 rfl ?_
      refine va_get (D := D) (ci := 3) (v := .int (u_1 5)) (C := RX3) (T := TX3) (N := 16) hx hb hg inGX3 hown hK hP 6 rfl rfl 14 (by decide) (hg _ mw_189) (fun _ h9 => h9) rfl dX3_sweepOften_79 ?_
      refine lv_iconst (v := 1) hx hb dX3_sweepOften_82 (by decide) ?_
      refine lv_iadd hx hb dX3_sweepOften_83 ?_
      refine lv_topi (fun v_4 ev_4 => ?_)
      refine va_put (D := D) (ci := 3) (v := .int v_4) (C := RX3) (T := TX3) (N := 16) hx hb hg inGX3 tyX3 tyX3_ok nmX3 hown hK hP hD hS 6 rfl rfl 14 (by decide) (hg _ mw_189) (fun _ h9 => h9) rfl (tyX3_ok 14 (by decide)) rfl rfl (Nat.le_of_ble_eq_true rfl) dX3_sweepOften_84 (fun H locs hP hD hS => ?_)
      have hP : va_P D vwCl (XW ad cI cJ 0 (va_up u_1 5 v_4) F G ++ R) H := hP
      have hD : va_D A (XW ad cI cJ 0 (va_up u_1 5 v_4) F G ++ R) := hD
      refine lv_iinc (v := nI (i + 1)) (lv' := [(2, .int (nI (i + 1))), (4, .int 1), (3, .int 1), (0, .ref (ad 6)), (1, .int k)]) hx hb dX3_sweepOften_87 hl (k := 4) rfl (nI_1 i) (by decide) rfl (fun ls hl => ?_)
      refine lv_goto (tgt := 2) hx hb dX3_sweepOften_90 (by decide) ?_
      exact ih (va_up u_1 5 v_4) H locs ls ⟨trivial, hP, hD, hS, lv_sub hl [3, 4, 0] rfl⟩
set_option maxHeartbeats 4000000 in
set_option maxRecDepth 100000 in
theorem c_tryOut (l : Launch) (D : va_G) (cI cJ cZ : ClassId) (ad : Nat → Nat) (b : Nat → Int32) (F : Nat → Nat → Int32) (G : Nat → Nat → Int64) (R : va_W) (k : Int32) (N : Nat) (hk : k = nI N) (hN31 : N < 2 ^ 31) : CT l D (TY cI cJ cZ) yX3_tryOut (.code yX3_tryOut cX3_tryOut 7 (some Jvm.ClassFile.FieldType.int)) 1 0 0 (XW ad cI cJ 0 b F G ++ R) [.ref (ad 6), .int k] (QI D (TY cI cJ cZ) (fun r u => r = 0 ∧ ∃ b', u = XW ad cI cJ 0 b' F G ++ R)) := by
  refine ent (by decide) (Nat.le_of_ble_eq_true rfl) ?_
  intro p e s m below meth c ls A hx hb hr hg hown hml hlocks hnm hP hK hD hS hA hN hl
  have hl : lv_has ls 7 [(0, .ref (ad 6)), (1, .int k)] := hl
  refine lv_aload_n hx hb dX3_tryOut_0 rfl (lv_at hl 0 rfl) ?_
  refine va_get (D := D) (ci := 3) (v := .int (b 5)) (C := RX3) (T := TX3) (N := 16) hx hb hg inGX3 hown hK hP 6 rfl rfl 14 (by decide) (hg _ mw_189) (fun _ h9 => h9) rfl dX3_tryOut_1 ?_
  refine lv_istore_n (lv' := [(2, .int (b 5)), (0, .ref (ad 6)), (1, .int k)]) hx hb dX3_tryOut_4 rfl hl (by decide) rfl (fun ls hl => ?_)
  refine lv_aload_n hx hb dX3_tryOut_5 rfl (lv_at hl 1 rfl) ?_
  refine va_get (D := D) (ci := 3) (v := .ref (ad 35)) (C := RX3) (T := TX3) (N := 16) hx hb hg inGX3 hown hK hP 6 rfl rfl 2 (by decide) (hg _ mw_203) (fun _ h9 => h9) rfl dX3_tryOut_6 ?_
  refine lv_aload_n hx hb dX3_tryOut_9 rfl (lv_at hl 1 rfl) ?_
  refine va_get (D := D) (ci := 3) (v := .int 0) (C := RX3) (T := TX3) (N := 16) hx hb hg inGX3 hown hK hP 6 rfl rfl 13 (by decide) (hg _ mw_180) (fun _ h9 => h9) rfl dX3_tryOut_10 ?_
  refine kI (rSN hx hb hml hown hg hN hK hP hD (c_at l D cI cJ cZ (XW ad cI cJ 0 b F G ++ R) 35 (ad 35) 41 (fun _ => 0) 0 rfl (by decide)) mw_182 nw_96 mw_183 mw_110 pd_X7_at ⟨Nat.le_of_ble_eq_true rfl, Nat.le_of_ble_eq_true rfl⟩ rfl hl.1 rfl (Nat.le_of_ble_eq_true rfl) dX3_tryOut_13 ⟨Nat.le_of_ble_eq_true rfl, Nat.le_of_ble_eq_true rfl⟩) hD hS hA (fun r_1 u_1 H locs hp hP hD hS => ?_)
  obtain ⟨hp1, hp2, rfl⟩ := hp
  obtain rfl : r_1 = 0 := (Classical.em (vp_in 0 41)).elim hp1 hp2
  refine lv_istore_n (lv' := [(3, .int 0), (2, .int (b 5)), (0, .ref (ad 6)), (1, .int k)]) hx hb dX3_tryOut_16 rfl hl (by decide) rfl (fun ls hl => ?_)
  refine lv_iconst (v := 0) hx hb dX3_tryOut_17 (by decide) ?_
  refine lv_istore (lv' := [(4, .int 0), (3, .int 0), (2, .int (b 5)), (0, .ref (ad 6)), (1, .int k)]) hx hb dX3_tryOut_18 hl (by decide) rfl (fun ls hl => ?_)
  refine lv_iload hx hb dX3_tryOut_20 (lv_at hl 0 rfl) ?_
  refine lv_iload_n hx hb dX3_tryOut_22 rfl (lv_at hl 1 rfl) ?_
  refine lv_icmp_ge (tgt := 50) hx hb dX3_tryOut_23 (by decide) (fun c_23 => ?_) (fun c_23 => absurd (by decide) c_23)
  refine lv_aload_n hx hb dX3_tryOut_50 rfl (lv_at hl 3 rfl) ?_
  refine lv_iload_n hx hb dX3_tryOut_51 rfl (lv_at hl 4 rfl) ?_
  refine kV (rV (q0 := 6) (ci := 3) hx hb hml hown hg hN hK hP hD (c_sweepOften l D cI cJ cZ ad b F G R k N hk hN31) mw_235 mw_236 mw_237 mw_238 mw_179 pdv_X3_sweepOften ⟨Nat.le_of_ble_eq_true rfl, Nat.le_of_ble_eq_true rfl⟩ rfl rfl rfl hl.1 rfl (Nat.le_of_ble_eq_true rfl) dX3_tryOut_52 ⟨Nat.le_of_ble_eq_true rfl, Nat.le_of_ble_eq_true rfl⟩) hD hS hA (fun u_2 H locs hp hP hD hS => ?_)
  obtain ⟨b_3, rfl⟩ := hp
  refine lv_aload_n hx hb dX3_tryOut_55 rfl (lv_at hl 3 rfl) ?_
  refine kI (rV (q0 := 6) (ci := 3) hx hb hml hown hg hN hK hP hD (c_countCrossings l D cI cJ cZ ad b_3 F G R) mw_239 mw_240 mw_241 mw_242 mw_179 pdv_X3_countCrossings ⟨Nat.le_of_ble_eq_true rfl, Nat.le_of_ble_eq_true rfl⟩ rfl rfl rfl hl.1 rfl (Nat.le_of_ble_eq_true rfl) dX3_tryOut_56 ⟨Nat.le_of_ble_eq_true rfl, Nat.le_of_ble_eq_true rfl⟩) hD hS hA (fun r_6 u_6 H locs hp hP hD hS => ?_)
  obtain ⟨rfl, rfl⟩ := hp
  refine lv_istore (lv' := [(4, .int 0), (3, .int 0), (2, .int (b 5)), (0, .ref (ad 6)), (1, .int k)]) hx hb dX3_tryOut_59 hl (by decide) rfl (fun ls hl => ?_)
  refine lv_iconst (v := 0) hx hb dX3_tryOut_61 (by decide) ?_
  refine lv_istore (lv' := [(5, .int 0), (4, .int 0), (3, .int 0), (2, .int (b 5)), (0, .ref (ad 6)), (1, .int k)]) hx hb dX3_tryOut_62 hl (by decide) rfl (fun ls hl => ?_)
  refine lv_iload hx hb dX3_tryOut_64 (lv_at hl 0 rfl) ?_
  refine lv_aload_n hx hb dX3_tryOut_66 rfl (lv_at hl 4 rfl) ?_
  refine va_get (D := D) (ci := 3) (v := .int 0) (C := RX3) (T := TX3) (N := 16) hx hb hg inGX3 hown hK hP 6 rfl rfl 13 (by decide) (hg _ mw_180) (fun _ h9 => h9) rfl dX3_tryOut_67 ?_
  refine lv_icmp_ge (tgt := 129) hx hb dX3_tryOut_70 (by decide) (fun c_70 => ?_) (fun c_70 => absurd (by decide) c_70)
  refine lv_aload_n hx hb dX3_tryOut_129 rfl (lv_at hl 4 rfl) ?_
  refine lv_iload_n hx hb dX3_tryOut_130 rfl (lv_at hl 3 rfl) ?_
  refine va_put (D := D) (ci := 3) (v := .int (b 5)) (C := RX3) (T := TX3) (N := 16) hx hb hg inGX3 tyX3 tyX3_ok nmX3 hown hK hP hD hS 6 rfl rfl 14 (by decide) (hg _ mw_189) (fun _ h9 => h9) rfl (tyX3_ok 14 (by decide)) rfl rfl (Nat.le_of_ble_eq_true rfl) dX3_tryOut_131 (fun H locs hP hD hS => ?_)
  have hP : va_P D vwCl (XW ad cI cJ 0 (va_up b_3 5 (b 5)) F G ++ R) H := hP
  have hD : va_D A (XW ad cI cJ 0 (va_up b_3 5 (b 5)) F G ++ R) := hD
  refine lv_iload hx hb dX3_tryOut_134 (lv_at hl 1 rfl) ?_
  exact W.iret (v := 0) hx hb hr (fun t ht hW => ⟨⟨0, (XW ad cI cJ 0 (va_up b_3 5 (b 5)) F G ++ R), rfl, ⟨rfl, _, rfl⟩, ⟨by rw [ht]; exact hP, va_K.moved hW.alike hK, hD⟩⟩, hS.F ht⟩) hS.2.2 dX3_tryOut_136
set_option maxHeartbeats 4000000 in
set_option maxRecDepth 100000 in
theorem c_dCode (l : Launch) (D : va_G) (cI cJ cZ : ClassId) (ad : Nat → Nat) (b : Nat → Int32) (F : Nat → Nat → Int32) (G : Nat → Nat → Int64) (R : va_W) (x : Int64) : CT l D (TY cI cJ cZ) yX7_digestOfCode (.code yX7_digestOfCode cX7_digestOfCode 6 (some Jvm.ClassFile.FieldType.long)) 1 0 0 (XW ad cI cJ 0 b F G ++ R) [.ref (ad 0), .long x] (QL D (TY cI cJ cZ) (fun r u => r = x * 31 + (0 : Int32).toInt64 ∧ u = XW ad cI cJ 0 b F G ++ R)) := by
  refine ent (by decide) (Nat.le_of_ble_eq_true rfl) ?_
  intro p e s m below meth c ls A hx hb hr hg hown hml hlocks hnm hP hK hD hS hA hN hl
  have hl : lv_has ls 6 [(0, .ref (ad 0)), (1, .long x)] := hl
  refine lv_lload_n hx hb dX7_digestOfCode_0 rfl (lv_at hl 1 rfl) ?_
  refine lv_aload_n hx hb dX7_digestOfCode_1 rfl (lv_at hl 0 rfl) ?_
  refine va_get (D := D) (ci := 7) (v := .ref (ad 1)) (C := RX7) (T := TX7) (N := 6) hx hb hg inGX7 hown hK hP 0 rfl rfl 0 (by decide) (hg _ mw_113) (fun _ h9 => h9) rfl dX7_digestOfCode_2 ?_
  refine va_getN (D := D) (ci := 0) (v := .int 0) (C := RX0) (T := TX0) (N := 5) hx hb hg inGX0 hown hK hP 1 rfl rfl 4 (by decide) (hN.use nw_10) (fun _ h9 => h9) rfl dX7_digestOfCode_5 ?_
  refine kL (rS hx hb hml hown hg hN hK hP hD (c_mix l D cI cJ cZ (XW ad cI cJ 0 b F G ++ R) x 0) mw_243 mw_244 mw_245 mw_110 pd_X7_mix ⟨Nat.le_of_ble_eq_true rfl, Nat.le_of_ble_eq_true rfl⟩ rfl hl.1 rfl (Nat.le_of_ble_eq_true rfl) dX7_digestOfCode_8 ⟨Nat.le_of_ble_eq_true rfl, Nat.le_of_ble_eq_true rfl⟩) hD hS hA (fun r_1 u_1 H locs hp hP hD hS => ?_)
  obtain ⟨er_1, rfl⟩ := hp
  refine lv_lstore_n (lv' := [(3, .long r_1), (0, .ref (ad 0)), (1, .long x)]) hx hb dX7_digestOfCode_11 rfl hl (by decide) rfl (fun ls hl => ?_)
  refine lv_iconst (v := 0) hx hb dX7_digestOfCode_12 (by decide) ?_
  refine lv_istore (lv' := [(5, .int 0), (3, .long r_1), (0, .ref (ad 0)), (1, .long x)]) hx hb dX7_digestOfCode_13 hl (by decide) rfl (fun ls hl => ?_)
  refine lv_iload hx hb dX7_digestOfCode_15 (lv_at hl 0 rfl) ?_
  refine lv_aload_n hx hb dX7_digestOfCode_17 rfl (lv_at hl 2 rfl) ?_
  refine va_get (D := D) (ci := 7) (v := .ref (ad 1)) (C := RX7) (T := TX7) (N := 6) hx hb hg inGX7 hown hK hP 0 rfl rfl 0 (by decide) (hg _ mw_113) (fun _ h9 => h9) rfl dX7_digestOfCode_18 ?_
  refine va_getN (D := D) (ci := 0) (v := .int 0) (C := RX0) (T := TX0) (N := 5) hx hb hg inGX0 hown hK hP 1 rfl rfl 4 (by decide) (hN.use nw_10) (fun _ h9 => h9) rfl dX7_digestOfCode_21 ?_
  refine lv_icmp_ge (tgt := 84) hx hb dX7_digestOfCode_24 (by decide) (fun c_24 => ?_) (fun c_24 => absurd (by decide) c_24)
  refine lv_lload_n hx hb dX7_digestOfCode_84 rfl (lv_at hl 1 rfl) ?_
  exact W.lret (v := r_1) hx hb hr (fun t ht hW => ⟨⟨r_1, (XW ad cI cJ 0 b F G ++ R), rfl, ⟨by rw [er_1], rfl⟩, ⟨by rw [ht]; exact hP, va_K.moved hW.alike hK, hD⟩⟩, hS.F ht⟩) hS.2.2 dX7_digestOfCode_85
set_option maxHeartbeats 4000000 in
set_option maxRecDepth 100000 in
theorem c_dBlocks (l : Launch) (D : va_G) (cI cJ cZ : ClassId) (ad : Nat → Nat) (b : Nat → Int32) (F : Nat → Nat → Int32) (G : Nat → Nat → Int64) (R : va_W) (x : Int64) : CT l D (TY cI cJ cZ) yX7_digestOfBlocks (.code yX7_digestOfBlocks cX7_digestOfBlocks 6 (some Jvm.ClassFile.FieldType.long)) 1 0 0 (XW ad cI cJ 0 b F G ++ R) [.ref (ad 0), .long x] (QL D (TY cI cJ cZ) (fun r u => r = x * 31 + (0 : Int32).toInt64 ∧ u = XW ad cI cJ 0 b F G ++ R)) := by
  refine ent (by decide) (Nat.le_of_ble_eq_true rfl) ?_
  intro p e s m below meth c ls A hx hb hr hg hown hml hlocks hnm hP hK hD hS hA hN hl
  have hl : lv_has ls 6 [(0, .ref (ad 0)), (1, .long x)] := hl
  refine lv_lload_n hx hb dX7_digestOfBlocks_0 rfl (lv_at hl 1 rfl) ?_
  refine lv_aload_n hx hb dX7_digestOfBlocks_1 rfl (lv_at hl 0 rfl) ?_
  refine va_get (D := D) (ci := 7) (v := .ref (ad 2)) (C := RX7) (T := TX7) (N := 6) hx hb hg inGX7 hown hK hP 0 rfl rfl 1 (by decide) (hg _ mw_112) (fun _ h9 => h9) rfl dX7_digestOfBlocks_2 ?_
  refine va_getN (D := D) (ci := 1) (v := .int 0) (C := RX1) (T := TX1) (N := 11) hx hb hg inGX1 hown hK hP 2 rfl rfl 7 (by decide) (hN.use nw_28) (fun _ h9 => h9) rfl dX7_digestOfBlocks_5 ?_
  refine kL (rS hx hb hml hown hg hN hK hP hD (c_mix l D cI cJ cZ (XW ad cI cJ 0 b F G ++ R) x 0) mw_243 mw_244 mw_245 mw_110 pd_X7_mix ⟨Nat.le_of_ble_eq_true rfl, Nat.le_of_ble_eq_true rfl⟩ rfl hl.1 rfl (Nat.le_of_ble_eq_true rfl) dX7_digestOfBlocks_8 ⟨Nat.le_of_ble_eq_true rfl, Nat.le_of_ble_eq_true rfl⟩) hD hS hA (fun r_1 u_1 H locs hp hP hD hS => ?_)
  obtain ⟨er_1, rfl⟩ := hp
  refine lv_lstore_n (lv' := [(3, .long r_1), (0, .ref (ad 0)), (1, .long x)]) hx hb dX7_digestOfBlocks_11 rfl hl (by decide) rfl (fun ls hl => ?_)
  refine lv_iconst (v := 0) hx hb dX7_digestOfBlocks_12 (by decide) ?_
  refine lv_istore (lv' := [(5, .int 0), (3, .long r_1), (0, .ref (ad 0)), (1, .long x)]) hx hb dX7_digestOfBlocks_13 hl (by decide) rfl (fun ls hl => ?_)
  refine lv_iload hx hb dX7_digestOfBlocks_15 (lv_at hl 0 rfl) ?_
  refine lv_aload_n hx hb dX7_digestOfBlocks_17 rfl (lv_at hl 2 rfl) ?_
  refine va_get (D := D) (ci := 7) (v := .ref (ad 2)) (C := RX7) (T := TX7) (N := 6) hx hb hg inGX7 hown hK hP 0 rfl rfl 1 (by decide) (hg _ mw_112) (fun _ h9 => h9) rfl dX7_digestOfBlocks_18 ?_
  refine va_getN (D := D) (ci := 1) (v := .int 0) (C := RX1) (T := TX1) (N := 11) hx hb hg inGX1 hown hK hP 2 rfl rfl 7 (by decide) (hN.use nw_28) (fun _ h9 => h9) rfl dX7_digestOfBlocks_21 ?_
  refine lv_icmp_ge (tgt := 180) hx hb dX7_digestOfBlocks_24 (by decide) (fun c_24 => ?_) (fun c_24 => absurd (by decide) c_24)
  refine lv_lload_n hx hb dX7_digestOfBlocks_180 rfl (lv_at hl 1 rfl) ?_
  exact W.lret (v := r_1) hx hb hr (fun t ht hW => ⟨⟨r_1, (XW ad cI cJ 0 b F G ++ R), rfl, ⟨by rw [er_1], rfl⟩, ⟨by rw [ht]; exact hP, va_K.moved hW.alike hK, hD⟩⟩, hS.F ht⟩) hS.2.2 dX7_digestOfBlocks_181
set_option maxHeartbeats 4000000 in
set_option maxRecDepth 100000 in
theorem c_dEdges (l : Launch) (D : va_G) (cI cJ cZ : ClassId) (ad : Nat → Nat) (b : Nat → Int32) (F : Nat → Nat → Int32) (G : Nat → Nat → Int64) (R : va_W) (x : Int64) : CT l D (TY cI cJ cZ) yX7_digestOfEdges (.code yX7_digestOfEdges cX7_digestOfEdges 6 (some Jvm.ClassFile.FieldType.long)) 1 0 0 (XW ad cI cJ 0 b F G ++ R) [.ref (ad 0), .long x] (QL D (TY cI cJ cZ) (fun r u => r = x * 31 + (0 : Int32).toInt64 ∧ u = XW ad cI cJ 0 b F G ++ R)) := by
  refine ent (by decide) (Nat.le_of_ble_eq_true rfl) ?_
  intro p e s m below meth c ls A hx hb hr hg hown hml hlocks hnm hP hK hD hS hA hN hl
  have hl : lv_has ls 6 [(0, .ref (ad 0)), (1, .long x)] := hl
  refine lv_lload_n hx hb dX7_digestOfEdges_0 rfl (lv_at hl 1 rfl) ?_
  refine lv_aload_n hx hb dX7_digestOfEdges_1 rfl (lv_at hl 0 rfl) ?_
  refine va_get (D := D) (ci := 7) (v := .ref (ad 2)) (C := RX7) (T := TX7) (N := 6) hx hb hg inGX7 hown hK hP 0 rfl rfl 1 (by decide) (hg _ mw_112) (fun _ h9 => h9) rfl dX7_digestOfEdges_2 ?_
  refine va_getN (D := D) (ci := 1) (v := .int 0) (C := RX1) (T := TX1) (N := 11) hx hb hg inGX1 hown hK hP 2 rfl rfl 8 (by decide) (hN.use nw_31) (fun _ h9 => h9) rfl dX7_digestOfEdges_5 ?_
  refine kL (rS hx hb hml hown hg hN hK hP hD (c_mix l D cI cJ cZ (XW ad cI cJ 0 b F G ++ R) x 0) mw_243 mw_244 mw_245 mw_110 pd_X7_mix ⟨Nat.le_of_ble_eq_true rfl, Nat.le_of_ble_eq_true rfl⟩ rfl hl.1 rfl (Nat.le_of_ble_eq_true rfl) dX7_digestOfEdges_8 ⟨Nat.le_of_ble_eq_true rfl, Nat.le_of_ble_eq_true rfl⟩) hD hS hA (fun r_1 u_1 H locs hp hP hD hS => ?_)
  obtain ⟨er_1, rfl⟩ := hp
  refine lv_lstore_n (lv' := [(3, .long r_1), (0, .ref (ad 0)), (1, .long x)]) hx hb dX7_digestOfEdges_11 rfl hl (by decide) rfl (fun ls hl => ?_)
  refine lv_iconst (v := 0) hx hb dX7_digestOfEdges_12 (by decide) ?_
  refine lv_istore (lv' := [(5, .int 0), (3, .long r_1), (0, .ref (ad 0)), (1, .long x)]) hx hb dX7_digestOfEdges_13 hl (by decide) rfl (fun ls hl => ?_)
  refine lv_iload hx hb dX7_digestOfEdges_15 (lv_at hl 0 rfl) ?_
  refine lv_aload_n hx hb dX7_digestOfEdges_17 rfl (lv_at hl 2 rfl) ?_
  refine va_get (D := D) (ci := 7) (v := .ref (ad 2)) (C := RX7) (T := TX7) (N := 6) hx hb hg inGX7 hown hK hP 0 rfl rfl 1 (by decide) (hg _ mw_112) (fun _ h9 => h9) rfl dX7_digestOfEdges_18 ?_
  refine va_getN (D := D) (ci := 1) (v := .int 0) (C := RX1) (T := TX1) (N := 11) hx hb hg inGX1 hown hK hP 2 rfl rfl 8 (by decide) (hN.use nw_31) (fun _ h9 => h9) rfl dX7_digestOfEdges_21 ?_
  refine lv_icmp_ge (tgt := 120) hx hb dX7_digestOfEdges_24 (by decide) (fun c_24 => ?_) (fun c_24 => absurd (by decide) c_24)
  refine lv_lload_n hx hb dX7_digestOfEdges_120 rfl (lv_at hl 1 rfl) ?_
  exact W.lret (v := r_1) hx hb hr (fun t ht hW => ⟨⟨r_1, (XW ad cI cJ 0 b F G ++ R), rfl, ⟨by rw [er_1], rfl⟩, ⟨by rw [ht]; exact hP, va_K.moved hW.alike hK, hD⟩⟩, hS.F ht⟩) hS.2.2 dX7_digestOfEdges_121
set_option maxHeartbeats 4000000 in
set_option maxRecDepth 100000 in
theorem c_dSteps (l : Launch) (D : va_G) (cI cJ cZ : ClassId) (ad : Nat → Nat) (b : Nat → Int32) (F : Nat → Nat → Int32) (G : Nat → Nat → Int64) (R : va_W) (x : Int64) : CT l D (TY cI cJ cZ) yX7_digestOfSteps (.code yX7_digestOfSteps cX7_digestOfSteps 6 (some Jvm.ClassFile.FieldType.long)) 1 0 0 (XW ad cI cJ 0 b F G ++ R) [.ref (ad 0), .long x] (QL D (TY cI cJ cZ) (fun r u => r = ((x * 31 + (0 : Int32).toInt64) * 31 + (0 : Int32).toInt64) * 31 + 0 ∧ u = XW ad cI cJ 0 b F G ++ R)) := by
  refine ent (by decide) (Nat.le_of_ble_eq_true rfl) ?_
  intro p e s m below meth c ls A hx hb hr hg hown hml hlocks hnm hP hK hD hS hA hN hl
  have hl : lv_has ls 6 [(0, .ref (ad 0)), (1, .long x)] := hl
  refine lv_lload_n hx hb dX7_digestOfSteps_0 rfl (lv_at hl 1 rfl) ?_
  refine lv_aload_n hx hb dX7_digestOfSteps_1 rfl (lv_at hl 0 rfl) ?_
  refine va_get (D := D) (ci := 7) (v := .ref (ad 5)) (C := RX7) (T := TX7) (N := 6) hx hb hg inGX7 hown hK hP 0 rfl rfl 4 (by decide) (hg _ mw_209) (fun _ h9 => h9) rfl dX7_digestOfSteps_2 ?_
  refine va_getN (D := D) (ci := 5) (v := .int 0) (C := RX5) (T := TX5) (N := 8) hx hb hg inGX5 hown hK hP 5 rfl rfl 6 (by decide) (hN.use nw_51) (fun _ h9 => h9) rfl dX7_digestOfSteps_5 ?_
  refine kL (rS hx hb hml hown hg hN hK hP hD (c_mix l D cI cJ cZ (XW ad cI cJ 0 b F G ++ R) x 0) mw_243 mw_244 mw_245 mw_110 pd_X7_mix ⟨Nat.le_of_ble_eq_true rfl, Nat.le_of_ble_eq_true rfl⟩ rfl hl.1 rfl (Nat.le_of_ble_eq_true rfl) dX7_digestOfSteps_8 ⟨Nat.le_of_ble_eq_true rfl, Nat.le_of_ble_eq_true rfl⟩) hD hS hA (fun r_1 u_1 H locs hp hP hD hS => ?_)
  obtain ⟨er_1, rfl⟩ := hp
  refine lv_lstore_n (lv' := [(3, .long r_1), (0, .ref (ad 0)), (1, .long x)]) hx hb dX7_digestOfSteps_11 rfl hl (by decide) rfl (fun ls hl => ?_)
  refine lv_iconst (v := 0) hx hb dX7_digestOfSteps_12 (by decide) ?_
  refine lv_istore (lv' := [(5, .int 0), (3, .long r_1), (0, .ref (ad 0)), (1, .long x)]) hx hb dX7_digestOfSteps_13 hl (by decide) rfl (fun ls hl => ?_)
  refine lv_iload hx hb dX7_digestOfSteps_15 (lv_at hl 0 rfl) ?_
  refine lv_aload_n hx hb dX7_digestOfSteps_17 rfl (lv_at hl 2 rfl) ?_
  refine va_get (D := D) (ci := 7) (v := .ref (ad 5)) (C := RX7) (T := TX7) (N := 6) hx hb hg inGX7 hown hK hP 0 rfl rfl 4 (by decide) (hg _ mw_209) (fun _ h9 => h9) rfl dX7_digestOfSteps_18 ?_
  refine va_getN (D := D) (ci := 5) (v := .int 0) (C := RX5) (T := TX5) (N := 8) hx hb hg inGX5 hown hK hP 5 rfl rfl 6 (by decide) (hN.use nw_51) (fun _ h9 => h9) rfl dX7_digestOfSteps_21 ?_
  refine lv_icmp_ge (tgt := 67) hx hb dX7_digestOfSteps_24 (by decide) (fun c_24 => ?_) (fun c_24 => absurd (by decide) c_24)
  refine lv_lload_n hx hb dX7_digestOfSteps_67 rfl (lv_at hl 1 rfl) ?_
  refine lv_aload_n hx hb dX7_digestOfSteps_68 rfl (lv_at hl 2 rfl) ?_
  refine va_get (D := D) (ci := 7) (v := .ref (ad 5)) (C := RX7) (T := TX7) (N := 6) hx hb hg inGX7 hown hK hP 0 rfl rfl 4 (by decide) (hg _ mw_209) (fun _ h9 => h9) rfl dX7_digestOfSteps_69 ?_
  refine va_getN (D := D) (ci := 5) (v := .long 0) (C := RX5) (T := TX5) (N := 8) hx hb hg inGX5 hown hK hP 5 rfl rfl 5 (by decide) (hN.use nw_50) (fun _ h9 => h9) rfl dX7_digestOfSteps_72 ?_
  refine kI (rS hx hb hml hown hg hN hK hP hD (c_bitCount0 l D cI cJ cZ (XW ad cI cJ 0 b F G ++ R)) mw_246 mw_247 mw_248 mw_249 pd_J13_bitCount_95d88 ⟨Nat.le_of_ble_eq_true rfl, Nat.le_of_ble_eq_true rfl⟩ rfl hl.1 rfl (Nat.le_of_ble_eq_true rfl) dX7_digestOfSteps_75 ⟨Nat.le_of_ble_eq_true rfl, Nat.le_of_ble_eq_true rfl⟩) hD hS hA (fun r_2 u_2 H locs hp hP hD hS => ?_)
  obtain ⟨rfl, rfl⟩ := hp
  refine kL (rS hx hb hml hown hg hN hK hP hD (c_mix l D cI cJ cZ (XW ad cI cJ 0 b F G ++ R) r_1 0) mw_243 mw_244 mw_245 mw_110 pd_X7_mix ⟨Nat.le_of_ble_eq_true rfl, Nat.le_of_ble_eq_true rfl⟩ rfl hl.1 rfl (Nat.le_of_ble_eq_true rfl) dX7_digestOfSteps_78 ⟨Nat.le_of_ble_eq_true rfl, Nat.le_of_ble_eq_true rfl⟩) hD hS hA (fun r_3 u_3 H locs hp hP hD hS => ?_)
  obtain ⟨er_3, rfl⟩ := hp
  refine lv_lstore_n (lv' := [(3, .long r_3), (5, .int 0), (0, .ref (ad 0)), (1, .long x)]) hx hb dX7_digestOfSteps_81 rfl hl (by decide) rfl (fun ls hl => ?_)
  refine lv_lload_n hx hb dX7_digestOfSteps_82 rfl (lv_at hl 0 rfl) ?_
  refine lv_aload_n hx hb dX7_digestOfSteps_83 rfl (lv_at hl 2 rfl) ?_
  refine va_get (D := D) (ci := 7) (v := .ref (ad 5)) (C := RX7) (T := TX7) (N := 6) hx hb hg inGX7 hown hK hP 0 rfl rfl 4 (by decide) (hg _ mw_209) (fun _ h9 => h9) rfl dX7_digestOfSteps_84 ?_
  refine va_getN (D := D) (ci := 5) (v := .long 0) (C := RX5) (T := TX5) (N := 8) hx hb hg inGX5 hown hK hP 5 rfl rfl 5 (by decide) (hN.use nw_50) (fun _ h9 => h9) rfl dX7_digestOfSteps_87 ?_
  refine kI (rS hx hb hml hown hg hN hK hP hD (c_bitCount0 l D cI cJ cZ (XW ad cI cJ 0 b F G ++ R)) mw_246 mw_247 mw_248 mw_249 pd_J13_bitCount_95d88 ⟨Nat.le_of_ble_eq_true rfl, Nat.le_of_ble_eq_true rfl⟩ rfl hl.1 rfl (Nat.le_of_ble_eq_true rfl) dX7_digestOfSteps_90 ⟨Nat.le_of_ble_eq_true rfl, Nat.le_of_ble_eq_true rfl⟩) hD hS hA (fun r_4 u_4 H locs hp hP hD hS => ?_)
  obtain ⟨rfl, rfl⟩ := hp
  refine lv_iconst (v := 1) hx hb dX7_digestOfSteps_93 (by decide) ?_
  refine lv_icmp_ne (tgt := 101) hx hb dX7_digestOfSteps_94 (by decide) (fun c_94 => ?_) (fun c_94 => absurd c_94 (by decide))
  refine lv_iconst (v := 0) hx hb dX7_digestOfSteps_101 (by decide) ?_
  refine kL (rS hx hb hml hown hg hN hK hP hD (c_mixZ0 l D cI cJ cZ (XW ad cI cJ 0 b F G ++ R) r_3) mw_250 mw_251 mw_252 mw_110 pd_X7_mix_ ⟨Nat.le_of_ble_eq_true rfl, Nat.le_of_ble_eq_true rfl⟩ rfl hl.1 rfl (Nat.le_of_ble_eq_true rfl) dX7_digestOfSteps_102 ⟨Nat.le_of_ble_eq_true rfl, Nat.le_of_ble_eq_true rfl⟩) hD hS hA (fun r_5 u_5 H locs hp hP hD hS => ?_)
  obtain ⟨er_5, rfl⟩ := hp
  exact W.lret (v := r_5) hx hb hr (fun t ht hW => ⟨⟨r_5, (XW ad cI cJ 0 b F G ++ R), rfl, ⟨by rw [er_5, er_3, er_1], rfl⟩, ⟨by rw [ht]; exact hP, va_K.moved hW.alike hK, hD⟩⟩, hS.F ht⟩) hS.2.2 dX7_digestOfSteps_105
set_option maxHeartbeats 4000000 in
set_option maxRecDepth 100000 in
theorem c_dLayers (l : Launch) (D : va_G) (cI cJ cZ : ClassId) (ad : Nat → Nat) (b : Nat → Int32) (F : Nat → Nat → Int32) (G : Nat → Nat → Int64) (R : va_W) (x : Int64) : CT l D (TY cI cJ cZ) yX7_digestOfLayers (.code yX7_digestOfLayers cX7_digestOfLayers 8 (some Jvm.ClassFile.FieldType.long)) 1 0 0 (XW ad cI cJ 0 b F G ++ R) [.ref (ad 0), .long x] (QL D (TY cI cJ cZ) (fun r u => r = x * 31 + (0 : Int32).toInt64 ∧ u = XW ad cI cJ 0 b F G ++ R)) := by
  refine ent (by decide) (Nat.le_of_ble_eq_true rfl) ?_
  intro p e s m below meth c ls A hx hb hr hg hown hml hlocks hnm hP hK hD hS hA hN hl
  have hl : lv_has ls 8 [(0, .ref (ad 0)), (1, .long x)] := hl
  refine lv_lload_n hx hb dX7_digestOfLayers_0 rfl (lv_at hl 1 rfl) ?_
  refine lv_aload_n hx hb dX7_digestOfLayers_1 rfl (lv_at hl 0 rfl) ?_
  refine va_get (D := D) (ci := 7) (v := .ref (ad 6)) (C := RX7) (T := TX7) (N := 6) hx hb hg inGX7 hown hK hP 0 rfl rfl 5 (by decide) (hg _ mw_214) (fun _ h9 => h9) rfl dX7_digestOfLayers_2 ?_
  refine va_getN (D := D) (ci := 3) (v := .int 0) (C := RX3) (T := TX3) (N := 16) hx hb hg inGX3 hown hK hP 6 rfl rfl 13 (by decide) (hN.use nw_62) (fun _ h9 => h9) rfl dX7_digestOfLayers_5 ?_
  refine kL (rS hx hb hml hown hg hN hK hP hD (c_mix l D cI cJ cZ (XW ad cI cJ 0 b F G ++ R) x 0) mw_243 mw_244 mw_245 mw_110 pd_X7_mix ⟨Nat.le_of_ble_eq_true rfl, Nat.le_of_ble_eq_true rfl⟩ rfl hl.1 rfl (Nat.le_of_ble_eq_true rfl) dX7_digestOfLayers_8 ⟨Nat.le_of_ble_eq_true rfl, Nat.le_of_ble_eq_true rfl⟩) hD hS hA (fun r_1 u_1 H locs hp hP hD hS => ?_)
  obtain ⟨er_1, rfl⟩ := hp
  refine lv_lstore_n (lv' := [(3, .long r_1), (0, .ref (ad 0)), (1, .long x)]) hx hb dX7_digestOfLayers_11 rfl hl (by decide) rfl (fun ls hl => ?_)
  refine lv_iconst (v := 0) hx hb dX7_digestOfLayers_12 (by decide) ?_
  refine lv_istore (lv' := [(5, .int 0), (3, .long r_1), (0, .ref (ad 0)), (1, .long x)]) hx hb dX7_digestOfLayers_13 hl (by decide) rfl (fun ls hl => ?_)
  refine lv_iload hx hb dX7_digestOfLayers_15 (lv_at hl 0 rfl) ?_
  refine lv_aload_n hx hb dX7_digestOfLayers_17 rfl (lv_at hl 2 rfl) ?_
  refine va_get (D := D) (ci := 7) (v := .ref (ad 6)) (C := RX7) (T := TX7) (N := 6) hx hb hg inGX7 hown hK hP 0 rfl rfl 5 (by decide) (hg _ mw_214) (fun _ h9 => h9) rfl dX7_digestOfLayers_18 ?_
  refine va_getN (D := D) (ci := 3) (v := .int 0) (C := RX3) (T := TX3) (N := 16) hx hb hg inGX3 hown hK hP 6 rfl rfl 13 (by decide) (hN.use nw_62) (fun _ h9 => h9) rfl dX7_digestOfLayers_21 ?_
  refine lv_icmp_ge (tgt := 83) hx hb dX7_digestOfLayers_24 (by decide) (fun c_24 => ?_) (fun c_24 => absurd (by decide) c_24)
  refine lv_lload_n hx hb dX7_digestOfLayers_83 rfl (lv_at hl 1 rfl) ?_
  exact W.lret (v := r_1) hx hb hr (fun t ht hW => ⟨⟨r_1, (XW ad cI cJ 0 b F G ++ R), rfl, ⟨by rw [er_1], rfl⟩, ⟨by rw [ht]; exact hP, va_K.moved hW.alike hK, hD⟩⟩, hS.F ht⟩) hS.2.2 dX7_digestOfLayers_84
end
section
theorem dX7_instructions_0 : decode cX7_instructions 0 = .ok (.aload_n 0, 1) := by decide +kernel
theorem dX7_instructions_1 : decode cX7_instructions 1 = .ok (.getfield 10, 3) := by decide +kernel
theorem dX7_instructions_4 : decode cX7_instructions 4 = .ok (.getfield 51, 3) := by decide +kernel
theorem dX7_instructions_7 : decode cX7_instructions 7 = .ok (.ireturn, 1) := by decide +kernel
theorem dX7_blocks_0 : decode cX7_blocks 0 = .ok (.aload_n 0, 1) := by decide +kernel
theorem dX7_blocks_1 : decode cX7_blocks 1 = .ok (.invokevirtual 123, 3) := by decide +kernel
theorem dX7_blocks_4 : decode cX7_blocks 4 = .ok (.getfield 127, 3) := by decide +kernel
theorem dX7_blocks_7 : decode cX7_blocks 7 = .ok (.ireturn, 1) := by decide +kernel
theorem dX7_edges_0 : decode cX7_edges 0 = .ok (.aload_n 0, 1) := by decide +kernel
theorem dX7_edges_1 : decode cX7_edges 1 = .ok (.invokevirtual 123, 3) := by decide +kernel
theorem dX7_edges_4 : decode cX7_edges 4 = .ok (.getfield 147, 3) := by decide +kernel
theorem dX7_edges_7 : decode cX7_edges 7 = .ok (.ireturn, 1) := by decide +kernel
theorem dX7_loops_0 : decode cX7_loops 0 = .ok (.aload_n 0, 1) := by decide +kernel
theorem dX7_loops_1 : decode cX7_loops 1 = .ok (.invokevirtual 159, 3) := by decide +kernel
theorem dX7_loops_4 : decode cX7_loops 4 = .ok (.getfield 178, 3) := by decide +kernel
theorem dX7_loops_7 : decode cX7_loops 7 = .ok (.ireturn, 1) := by decide +kernel
theorem dX7_vain_0 : decode cX7_vain 0 = .ok (.aload_n 0, 1) := by decide +kernel
theorem dX7_vain_1 : decode cX7_vain 1 = .ok (.invokevirtual 200, 3) := by decide +kernel
theorem dX7_vain_4 : decode cX7_vain 4 = .ok (.getfield 207, 3) := by decide +kernel
theorem dX7_vain_7 : decode cX7_vain 7 = .ok (.ireturn, 1) := by decide +kernel
theorem dX7_windings_0 : decode cX7_windings 0 = .ok (.aload_n 0, 1) := by decide +kernel
theorem dX7_windings_1 : decode cX7_windings 1 = .ok (.invokevirtual 123, 3) := by decide +kernel
theorem dX7_windings_4 : decode cX7_windings 4 = .ok (.invokevirtual 210, 3) := by decide +kernel
theorem dX7_windings_7 : decode cX7_windings 7 = .ok (.ireturn, 1) := by decide +kernel
theorem dX7_steps_0 : decode cX7_steps 0 = .ok (.aload_n 0, 1) := by decide +kernel
theorem dX7_steps_1 : decode cX7_steps 1 = .ok (.invokevirtual 214, 3) := by decide +kernel
theorem dX7_steps_4 : decode cX7_steps 4 = .ok (.getfield 218, 3) := by decide +kernel
theorem dX7_steps_7 : decode cX7_steps 7 = .ok (.ireturn, 1) := by decide +kernel
theorem dX7_left_0 : decode cX7_left 0 = .ok (.aload_n 0, 1) := by decide +kernel
theorem dX7_left_1 : decode cX7_left 1 = .ok (.invokevirtual 214, 3) := by decide +kernel
theorem dX7_left_4 : decode cX7_left 4 = .ok (.getfield 230, 3) := by decide +kernel
theorem dX7_left_7 : decode cX7_left 7 = .ok (.invokestatic 188, 3) := by decide +kernel
theorem dX7_left_10 : decode cX7_left 10 = .ok (.ireturn, 1) := by decide +kernel
theorem dX7_layers_0 : decode cX7_layers 0 = .ok (.aload_n 0, 1) := by decide +kernel
theorem dX7_layers_1 : decode cX7_layers 1 = .ok (.invokevirtual 234, 3) := by decide +kernel
theorem dX7_layers_4 : decode cX7_layers 4 = .ok (.getfield 238, 3) := by decide +kernel
theorem dX7_layers_7 : decode cX7_layers 7 = .ok (.ireturn, 1) := by decide +kernel
theorem dX7_crossings_0 : decode cX7_crossings 0 = .ok (.aload_n 0, 1) := by decide +kernel
theorem dX7_crossings_1 : decode cX7_crossings 1 = .ok (.invokevirtual 234, 3) := by decide +kernel
theorem dX7_crossings_4 : decode cX7_crossings 4 = .ok (.invokevirtual 277, 3) := by decide +kernel
theorem dX7_crossings_7 : decode cX7_crossings 7 = .ok (.ireturn, 1) := by decide +kernel
theorem dX7_isTame_0 : decode cX7_isTame 0 = .ok (.aload_n 0, 1) := by decide +kernel
theorem dX7_isTame_1 : decode cX7_isTame 1 = .ok (.invokevirtual 159, 3) := by decide +kernel
theorem dX7_isTame_4 : decode cX7_isTame 4 = .ok (.getfield 197, 3) := by decide +kernel
theorem dX7_isTame_7 : decode cX7_isTame 7 = .ok (.ireturn, 1) := by decide +kernel
theorem dX7_isNeat_0 : decode cX7_isNeat 0 = .ok (.aload_n 0, 1) := by decide +kernel
theorem dX7_isNeat_1 : decode cX7_isNeat 1 = .ok (.invokevirtual 214, 3) := by decide +kernel
theorem dX7_isNeat_4 : decode cX7_isNeat 4 = .ok (.getfield 230, 3) := by decide +kernel
theorem dX7_isNeat_7 : decode cX7_isNeat 7 = .ok (.invokestatic 188, 3) := by decide +kernel
theorem dX7_isNeat_10 : decode cX7_isNeat 10 = .ok (.iconst 1, 1) := by decide +kernel
theorem dX7_isNeat_11 : decode cX7_isNeat 11 = .ok (.if_icmp .ne 7, 3) := by decide +kernel
theorem dX7_isNeat_18 : decode cX7_isNeat 18 = .ok (.iconst 0, 1) := by decide +kernel
theorem dX7_isNeat_19 : decode cX7_isNeat 19 = .ok (.ireturn, 1) := by decide +kernel
theorem dX7_swept_0 : decode cX7_swept 0 = .ok (.aload_n 0, 1) := by decide +kernel
theorem dX7_swept_1 : decode cX7_swept 1 = .ok (.invokevirtual 234, 3) := by decide +kernel
theorem dX7_swept_4 : decode cX7_swept 4 = .ok (.getfield 289, 3) := by decide +kernel
theorem dX7_swept_7 : decode cX7_swept 7 = .ok (.ireturn, 1) := by decide +kernel
theorem dX7_meanLength_0 : decode cX7_meanLength 0 = .ok (.aload_n 0, 1) := by decide +kernel
theorem dX7_meanLength_1 : decode cX7_meanLength 1 = .ok (.invokevirtual 234, 3) := by decide +kernel
theorem dX7_meanLength_4 : decode cX7_meanLength 4 = .ok (.invokevirtual 292, 3) := by decide +kernel
theorem dX7_meanLength_7 : decode cX7_meanLength 7 = .ok (.dreturn, 1) := by decide +kernel
theorem dX7_digest_0 : decode cX7_digest 0 = .ok (.aload_n 0, 1) := by decide +kernel
theorem dX7_digest_1 : decode cX7_digest 1 = .ok (.invokevirtual 159, 3) := by decide +kernel
theorem dX7_digest_4 : decode cX7_digest 4 = .ok (.pop, 1) := by decide +kernel
theorem dX7_digest_5 : decode cX7_digest 5 = .ok (.aload_n 0, 1) := by decide +kernel
theorem dX7_digest_6 : decode cX7_digest 6 = .ok (.invokevirtual 200, 3) := by decide +kernel
theorem dX7_digest_9 : decode cX7_digest 9 = .ok (.pop, 1) := by decide +kernel
theorem dX7_digest_10 : decode cX7_digest 10 = .ok (.aload_n 0, 1) := by decide +kernel
theorem dX7_digest_11 : decode cX7_digest 11 = .ok (.invokevirtual 214, 3) := by decide +kernel
theorem dX7_digest_14 : decode cX7_digest 14 = .ok (.pop, 1) := by decide +kernel
theorem dX7_digest_15 : decode cX7_digest 15 = .ok (.aload_n 0, 1) := by decide +kernel
theorem dX7_digest_16 : decode cX7_digest 16 = .ok (.invokevirtual 234, 3) := by decide +kernel
theorem dX7_digest_19 : decode cX7_digest 19 = .ok (.pop, 1) := by decide +kernel
theorem dX7_digest_20 : decode cX7_digest 20 = .ok (.aload_n 0, 1) := by decide +kernel
theorem dX7_digest_21 : decode cX7_digest 21 = .ok (.ldc2_w 296, 3) := by decide +kernel
theorem dX7_digest_24 : decode cX7_digest 24 = .ok (.invokevirtual 298, 3) := by decide +kernel
theorem dX7_digest_27 : decode cX7_digest 27 = .ok (.lstore_n 1, 1) := by decide +kernel
theorem dX7_digest_28 : decode cX7_digest 28 = .ok (.aload_n 0, 1) := by decide +kernel
theorem dX7_digest_29 : decode cX7_digest 29 = .ok (.lload_n 1, 1) := by decide +kernel
theorem dX7_digest_30 : decode cX7_digest 30 = .ok (.invokevirtual 302, 3) := by decide +kernel
theorem dX7_digest_33 : decode cX7_digest 33 = .ok (.lstore_n 1, 1) := by decide +kernel
theorem dX7_digest_34 : decode cX7_digest 34 = .ok (.aload_n 0, 1) := by decide +kernel
theorem dX7_digest_35 : decode cX7_digest 35 = .ok (.lload_n 1, 1) := by decide +kernel
theorem dX7_digest_36 : decode cX7_digest 36 = .ok (.invokevirtual 305, 3) := by decide +kernel
theorem dX7_digest_39 : decode cX7_digest 39 = .ok (.lstore_n 1, 1) := by decide +kernel
theorem dX7_digest_40 : decode cX7_digest 40 = .ok (.lload_n 1, 1) := by decide +kernel
theorem dX7_digest_41 : decode cX7_digest 41 = .ok (.aload_n 0, 1) := by decide +kernel
theorem dX7_digest_42 : decode cX7_digest 42 = .ok (.getfield 26, 3) := by decide +kernel
theorem dX7_digest_45 : decode cX7_digest 45 = .ok (.getfield 178, 3) := by decide +kernel
theorem dX7_digest_48 : decode cX7_digest 48 = .ok (.invokestatic 308, 3) := by decide +kernel
theorem dX7_digest_51 : decode cX7_digest 51 = .ok (.lstore_n 1, 1) := by decide +kernel
theorem dX7_digest_52 : decode cX7_digest 52 = .ok (.lload_n 1, 1) := by decide +kernel
theorem dX7_digest_53 : decode cX7_digest 53 = .ok (.aload_n 0, 1) := by decide +kernel
theorem dX7_digest_54 : decode cX7_digest 54 = .ok (.getfield 26, 3) := by decide +kernel
theorem dX7_digest_57 : decode cX7_digest 57 = .ok (.getfield 197, 3) := by decide +kernel
theorem dX7_digest_60 : decode cX7_digest 60 = .ok (.invokestatic 312, 3) := by decide +kernel
theorem dX7_digest_63 : decode cX7_digest 63 = .ok (.lstore_n 1, 1) := by decide +kernel
theorem dX7_digest_64 : decode cX7_digest 64 = .ok (.lload_n 1, 1) := by decide +kernel
theorem dX7_digest_65 : decode cX7_digest 65 = .ok (.aload_n 0, 1) := by decide +kernel
theorem dX7_digest_66 : decode cX7_digest 66 = .ok (.getfield 33, 3) := by decide +kernel
theorem dX7_digest_69 : decode cX7_digest 69 = .ok (.getfield 207, 3) := by decide +kernel
theorem dX7_digest_72 : decode cX7_digest 72 = .ok (.invokestatic 308, 3) := by decide +kernel
theorem dX7_digest_75 : decode cX7_digest 75 = .ok (.lstore_n 1, 1) := by decide +kernel
theorem dX7_digest_76 : decode cX7_digest 76 = .ok (.lload_n 1, 1) := by decide +kernel
theorem dX7_digest_77 : decode cX7_digest 77 = .ok (.aload_n 0, 1) := by decide +kernel
theorem dX7_digest_78 : decode cX7_digest 78 = .ok (.getfield 19, 3) := by decide +kernel
theorem dX7_digest_81 : decode cX7_digest 81 = .ok (.invokevirtual 210, 3) := by decide +kernel
theorem dX7_digest_84 : decode cX7_digest 84 = .ok (.invokestatic 308, 3) := by decide +kernel
theorem dX7_digest_87 : decode cX7_digest 87 = .ok (.lstore_n 1, 1) := by decide +kernel
theorem dX7_digest_88 : decode cX7_digest 88 = .ok (.aload_n 0, 1) := by decide +kernel
theorem dX7_digest_89 : decode cX7_digest 89 = .ok (.lload_n 1, 1) := by decide +kernel
theorem dX7_digest_90 : decode cX7_digest 90 = .ok (.invokevirtual 315, 3) := by decide +kernel
theorem dX7_digest_93 : decode cX7_digest 93 = .ok (.lstore_n 1, 1) := by decide +kernel
theorem dX7_digest_94 : decode cX7_digest 94 = .ok (.aload_n 0, 1) := by decide +kernel
theorem dX7_digest_95 : decode cX7_digest 95 = .ok (.lload_n 1, 1) := by decide +kernel
theorem dX7_digest_96 : decode cX7_digest 96 = .ok (.invokevirtual 318, 3) := by decide +kernel
theorem dX7_digest_99 : decode cX7_digest 99 = .ok (.lstore_n 1, 1) := by decide +kernel
theorem dX7_digest_100 : decode cX7_digest 100 = .ok (.lload_n 1, 1) := by decide +kernel
theorem dX7_digest_101 : decode cX7_digest 101 = .ok (.aload_n 0, 1) := by decide +kernel
theorem dX7_digest_102 : decode cX7_digest 102 = .ok (.getfield 47, 3) := by decide +kernel
theorem dX7_digest_105 : decode cX7_digest 105 = .ok (.invokevirtual 277, 3) := by decide +kernel
theorem dX7_digest_108 : decode cX7_digest 108 = .ok (.invokestatic 308, 3) := by decide +kernel
theorem dX7_digest_111 : decode cX7_digest 111 = .ok (.lstore_n 1, 1) := by decide +kernel
theorem dX7_digest_112 : decode cX7_digest 112 = .ok (.lload_n 1, 1) := by decide +kernel
theorem dX7_digest_113 : decode cX7_digest 113 = .ok (.aload_n 0, 1) := by decide +kernel
theorem dX7_digest_114 : decode cX7_digest 114 = .ok (.getfield 47, 3) := by decide +kernel
theorem dX7_digest_117 : decode cX7_digest 117 = .ok (.getfield 289, 3) := by decide +kernel
theorem dX7_digest_120 : decode cX7_digest 120 = .ok (.invokestatic 308, 3) := by decide +kernel
theorem dX7_digest_123 : decode cX7_digest 123 = .ok (.lreturn, 1) := by decide +kernel
theorem dX7_remove_0 : decode cX7_remove 0 = .ok (.aload_n 0, 1) := by decide +kernel
theorem dX7_remove_1 : decode cX7_remove 1 = .ok (.iload_n 1, 1) := by decide +kernel
theorem dX7_remove_2 : decode cX7_remove 2 = .ok (.invokevirtual 85, 3) := by decide +kernel
theorem dX7_kindOf_0 : decode cX7_kindOf 0 = .ok (.aload_n 0, 1) := by decide +kernel
theorem dX7_kindOf_1 : decode cX7_kindOf 1 = .ok (.iload_n 1, 1) := by decide +kernel
theorem dX7_kindOf_2 : decode cX7_kindOf 2 = .ok (.invokevirtual 85, 3) := by decide +kernel
theorem dX7_targetOf_0 : decode cX7_targetOf 0 = .ok (.aload_n 0, 1) := by decide +kernel
theorem dX7_targetOf_1 : decode cX7_targetOf 1 = .ok (.iload_n 1, 1) := by decide +kernel
theorem dX7_targetOf_2 : decode cX7_targetOf 2 = .ok (.invokevirtual 85, 3) := by decide +kernel
theorem dX7_blockOf_0 : decode cX7_blockOf 0 = .ok (.aload_n 0, 1) := by decide +kernel
theorem dX7_blockOf_1 : decode cX7_blockOf 1 = .ok (.iload_n 1, 1) := by decide +kernel
theorem dX7_blockOf_2 : decode cX7_blockOf 2 = .ok (.invokevirtual 85, 3) := by decide +kernel
theorem dX7_firstOf_0 : decode cX7_firstOf 0 = .ok (.aload_n 0, 1) := by decide +kernel
theorem dX7_firstOf_1 : decode cX7_firstOf 1 = .ok (.iload_n 1, 1) := by decide +kernel
theorem dX7_firstOf_2 : decode cX7_firstOf 2 = .ok (.invokevirtual 133, 3) := by decide +kernel
theorem dX7_parentOf_0 : decode cX7_parentOf 0 = .ok (.aload_n 0, 1) := by decide +kernel
theorem dX7_parentOf_1 : decode cX7_parentOf 1 = .ok (.iload_n 1, 1) := by decide +kernel
theorem dX7_parentOf_2 : decode cX7_parentOf 2 = .ok (.invokevirtual 133, 3) := by decide +kernel
theorem dX7_loopSize_0 : decode cX7_loopSize 0 = .ok (.aload_n 0, 1) := by decide +kernel
theorem dX7_loopSize_1 : decode cX7_loopSize 1 = .ok (.iload_n 1, 1) := by decide +kernel
theorem dX7_loopSize_2 : decode cX7_loopSize 2 = .ok (.invokevirtual 133, 3) := by decide +kernel
theorem dX7_depthOf_0 : decode cX7_depthOf 0 = .ok (.aload_n 0, 1) := by decide +kernel
theorem dX7_depthOf_1 : decode cX7_depthOf 1 = .ok (.iload_n 1, 1) := by decide +kernel
theorem dX7_depthOf_2 : decode cX7_depthOf 2 = .ok (.invokevirtual 133, 3) := by decide +kernel
theorem dX7_liveIn_0 : decode cX7_liveIn 0 = .ok (.aload_n 0, 1) := by decide +kernel
theorem dX7_liveIn_1 : decode cX7_liveIn 1 = .ok (.iload_n 1, 1) := by decide +kernel
theorem dX7_liveIn_2 : decode cX7_liveIn 2 = .ok (.invokevirtual 133, 3) := by decide +kernel
theorem dX7_endsIn_0 : decode cX7_endsIn 0 = .ok (.aload_n 0, 1) := by decide +kernel
theorem dX7_endsIn_1 : decode cX7_endsIn 1 = .ok (.iload_n 1, 1) := by decide +kernel
theorem dX7_endsIn_2 : decode cX7_endsIn 2 = .ok (.invokevirtual 133, 3) := by decide +kernel
theorem dX7_layerOf_0 : decode cX7_layerOf 0 = .ok (.aload_n 0, 1) := by decide +kernel
theorem dX7_layerOf_1 : decode cX7_layerOf 1 = .ok (.iload_n 1, 1) := by decide +kernel
theorem dX7_layerOf_2 : decode cX7_layerOf 2 = .ok (.invokevirtual 133, 3) := by decide +kernel
theorem dX7_placeOf_0 : decode cX7_placeOf 0 = .ok (.aload_n 0, 1) := by decide +kernel
theorem dX7_placeOf_1 : decode cX7_placeOf 1 = .ok (.iload_n 1, 1) := by decide +kernel
theorem dX7_placeOf_2 : decode cX7_placeOf 2 = .ok (.invokevirtual 133, 3) := by decide +kernel
theorem dX7_edgeFrom_0 : decode cX7_edgeFrom 0 = .ok (.aload_n 0, 1) := by decide +kernel
theorem dX7_edgeFrom_1 : decode cX7_edgeFrom 1 = .ok (.iload_n 1, 1) := by decide +kernel
theorem dX7_edgeFrom_2 : decode cX7_edgeFrom 2 = .ok (.invokevirtual 150, 3) := by decide +kernel
theorem dX7_edgeTo_0 : decode cX7_edgeTo 0 = .ok (.aload_n 0, 1) := by decide +kernel
theorem dX7_edgeTo_1 : decode cX7_edgeTo 1 = .ok (.iload_n 1, 1) := by decide +kernel
theorem dX7_edgeTo_2 : decode cX7_edgeTo 2 = .ok (.invokevirtual 150, 3) := by decide +kernel
theorem dX7_bends_0 : decode cX7_bends 0 = .ok (.aload_n 0, 1) := by decide +kernel
theorem dX7_bends_1 : decode cX7_bends 1 = .ok (.iload_n 1, 1) := by decide +kernel
theorem dX7_bends_2 : decode cX7_bends 2 = .ok (.invokevirtual 150, 3) := by decide +kernel
theorem dX7_ruleOf_0 : decode cX7_ruleOf 0 = .ok (.aload_n 0, 1) := by decide +kernel
theorem dX7_ruleOf_1 : decode cX7_ruleOf 1 = .ok (.iload_n 1, 1) := by decide +kernel
theorem dX7_ruleOf_2 : decode cX7_ruleOf 2 = .ok (.invokevirtual 221, 3) := by decide +kernel
theorem dX7_nodeOf_0 : decode cX7_nodeOf 0 = .ok (.aload_n 0, 1) := by decide +kernel
theorem dX7_nodeOf_1 : decode cX7_nodeOf 1 = .ok (.iload_n 1, 1) := by decide +kernel
theorem dX7_nodeOf_2 : decode cX7_nodeOf 2 = .ok (.invokevirtual 221, 3) := by decide +kernel
theorem dX7_points_0 : decode cX7_points 0 = .ok (.aload_n 0, 1) := by decide +kernel
theorem dX7_points_1 : decode cX7_points 1 = .ok (.iload_n 1, 1) := by decide +kernel
theorem dX7_points_2 : decode cX7_points 2 = .ok (.invokevirtual 253, 3) := by decide +kernel
theorem dX7_isReached_0 : decode cX7_isReached 0 = .ok (.aload_n 0, 1) := by decide +kernel
theorem dX7_isReached_1 : decode cX7_isReached 1 = .ok (.iload_n 1, 1) := by decide +kernel
theorem dX7_isReached_2 : decode cX7_isReached 2 = .ok (.invokevirtual 133, 3) := by decide +kernel
theorem dX7_isBack_0 : decode cX7_isBack 0 = .ok (.aload_n 0, 1) := by decide +kernel
theorem dX7_isBack_1 : decode cX7_isBack 1 = .ok (.iload_n 1, 1) := by decide +kernel
theorem dX7_isBack_2 : decode cX7_isBack 2 = .ok (.invokevirtual 150, 3) := by decide +kernel
theorem dX7_isTurned_0 : decode cX7_isTurned 0 = .ok (.aload_n 0, 1) := by decide +kernel
theorem dX7_isTurned_1 : decode cX7_isTurned 1 = .ok (.iload_n 1, 1) := by decide +kernel
theorem dX7_isTurned_2 : decode cX7_isTurned 2 = .ok (.invokevirtual 150, 3) := by decide +kernel
theorem dX7_setTarget_0 : decode cX7_setTarget 0 = .ok (.aload_n 0, 1) := by decide +kernel
theorem dX7_setTarget_1 : decode cX7_setTarget 1 = .ok (.iload_n 1, 1) := by decide +kernel
theorem dX7_setTarget_2 : decode cX7_setTarget 2 = .ok (.invokevirtual 85, 3) := by decide +kernel
theorem dX7_bendAt_0 : decode cX7_bendAt 0 = .ok (.aload_n 0, 1) := by decide +kernel
theorem dX7_bendAt_1 : decode cX7_bendAt 1 = .ok (.iload_n 1, 1) := by decide +kernel
theorem dX7_bendAt_2 : decode cX7_bendAt 2 = .ok (.invokevirtual 150, 3) := by decide +kernel
theorem dX7_pointAt_0 : decode cX7_pointAt 0 = .ok (.aload_n 0, 1) := by decide +kernel
theorem dX7_pointAt_1 : decode cX7_pointAt 1 = .ok (.iload_n 1, 1) := by decide +kernel
theorem dX7_pointAt_2 : decode cX7_pointAt 2 = .ok (.invokevirtual 253, 3) := by decide +kernel
theorem dX7_dominates_0 : decode cX7_dominates 0 = .ok (.aload_n 0, 1) := by decide +kernel
theorem dX7_dominates_1 : decode cX7_dominates 1 = .ok (.iload_n 1, 1) := by decide +kernel
theorem dX7_dominates_2 : decode cX7_dominates 2 = .ok (.invokevirtual 133, 3) := by decide +kernel
theorem dX7_comesBehind_0 : decode cX7_comesBehind 0 = .ok (.aload_n 0, 1) := by decide +kernel
theorem dX7_comesBehind_1 : decode cX7_comesBehind 1 = .ok (.iload_n 1, 1) := by decide +kernel
theorem dX7_comesBehind_2 : decode cX7_comesBehind 2 = .ok (.invokevirtual 133, 3) := by decide +kernel
theorem dX7_setUse_0 : decode cX7_setUse 0 = .ok (.aload_n 0, 1) := by decide +kernel
theorem dX7_setUse_1 : decode cX7_setUse 1 = .ok (.iload_n 1, 1) := by decide +kernel
theorem dX7_setUse_2 : decode cX7_setUse 2 = .ok (.invokevirtual 85, 3) := by decide +kernel
theorem dX7_sweep_0 : decode cX7_sweep 0 = .ok (.iload_n 1, 1) := by decide +kernel
theorem dX7_sweep_1 : decode cX7_sweep 1 = .ok (.invokestatic 280, 3) := by decide +kernel
theorem dX7_sweep_4 : decode cX7_sweep 4 = .ok (.aload_n 0, 1) := by decide +kernel
theorem dX7_sweep_5 : decode cX7_sweep 5 = .ok (.invokevirtual 234, 3) := by decide +kernel
theorem dX7_sweep_8 : decode cX7_sweep 8 = .ok (.iload_n 1, 1) := by decide +kernel
theorem dX7_sweep_9 : decode cX7_sweep 9 = .ok (.invokevirtual 283, 3) := by decide +kernel
theorem dX7_sweep_12 : decode cX7_sweep 12 = .ok (.aload_n 0, 1) := by decide +kernel
theorem dX7_sweep_13 : decode cX7_sweep 13 = .ok (.invokevirtual 234, 3) := by decide +kernel
theorem dX7_sweep_16 : decode cX7_sweep 16 = .ok (.invokevirtual 277, 3) := by decide +kernel
theorem dX7_sweep_19 : decode cX7_sweep 19 = .ok (.ireturn, 1) := by decide +kernel
theorem dX7_wouldCross_0 : decode cX7_wouldCross 0 = .ok (.iload_n 1, 1) := by decide +kernel
theorem dX7_wouldCross_1 : decode cX7_wouldCross 1 = .ok (.invokestatic 280, 3) := by decide +kernel
theorem dX7_wouldCross_4 : decode cX7_wouldCross 4 = .ok (.aload_n 0, 1) := by decide +kernel
theorem dX7_wouldCross_5 : decode cX7_wouldCross 5 = .ok (.invokevirtual 234, 3) := by decide +kernel
theorem dX7_wouldCross_8 : decode cX7_wouldCross 8 = .ok (.iload_n 1, 1) := by decide +kernel
theorem dX7_wouldCross_9 : decode cX7_wouldCross 9 = .ok (.invokevirtual 286, 3) := by decide +kernel
theorem dX7_wouldCross_12 : decode cX7_wouldCross 12 = .ok (.ireturn, 1) := by decide +kernel
theorem dX0_shiftTargets_0 : decode cX0_shiftTargets 0 = .ok (.iconst 0, 1) := by decide +kernel
theorem dX0_shiftTargets_1 : decode cX0_shiftTargets 1 = .ok (.istore_n 3, 1) := by decide +kernel
theorem dX0_shiftTargets_2 : decode cX0_shiftTargets 2 = .ok (.iload_n 3, 1) := by decide +kernel
theorem dX0_shiftTargets_3 : decode cX0_shiftTargets 3 = .ok (.aload_n 0, 1) := by decide +kernel
theorem dX0_shiftTargets_4 : decode cX0_shiftTargets 4 = .ok (.getfield 28, 3) := by decide +kernel
theorem dX0_shiftTargets_7 : decode cX0_shiftTargets 7 = .ok (.if_icmp .ge 42, 3) := by decide +kernel
theorem dX0_shiftTargets_49 : decode cX0_shiftTargets 49 = .ok (.return_, 1) := by decide +kernel
theorem dX0_add_0 : decode cX0_add 0 = .ok (.aload_n 0, 1) := by decide +kernel
theorem dX0_add_1 : decode cX0_add 1 = .ok (.iload_n 1, 1) := by decide +kernel
theorem dX0_add_2 : decode cX0_add 2 = .ok (.iconst 1, 1) := by decide +kernel
theorem dX0_add_3 : decode cX0_add 3 = .ok (.invokevirtual 24, 3) := by decide +kernel
theorem dX0_add_6 : decode cX0_add 6 = .ok (.aload_n 0, 1) := by decide +kernel
theorem dX0_add_7 : decode cX0_add 7 = .ok (.getfield 28, 3) := by decide +kernel
theorem dX0_add_10 : decode cX0_add 10 = .ok (.istore 4, 2) := by decide +kernel
theorem dX0_add_12 : decode cX0_add 12 = .ok (.iload 4, 2) := by decide +kernel
theorem dX0_add_14 : decode cX0_add 14 = .ok (.iload_n 1, 1) := by decide +kernel
theorem dX0_add_15 : decode cX0_add 15 = .ok (.if_icmp .le 19, 3) := by decide +kernel
theorem dX0_add_34 : decode cX0_add 34 = .ok (.aload_n 0, 1) := by decide +kernel
theorem dX0_add_35 : decode cX0_add 35 = .ok (.getfield 9, 3) := by decide +kernel
theorem dX0_add_38 : decode cX0_add 38 = .ok (.iload_n 1, 1) := by decide +kernel
theorem dX0_add_39 : decode cX0_add 39 = .ok (.iload_n 2, 1) := by decide +kernel
theorem dX0_add_40 : decode cX0_add 40 = .ok (.invokestatic 35, 3) := by decide +kernel
theorem dX0_add_43 : decode cX0_add 43 = .ok (.aload_n 0, 1) := by decide +kernel
theorem dX0_add_44 : decode cX0_add 44 = .ok (.getfield 15, 3) := by decide +kernel
theorem dX0_add_47 : decode cX0_add 47 = .ok (.iload_n 1, 1) := by decide +kernel
theorem dX0_add_48 : decode cX0_add 48 = .ok (.iload_n 3, 1) := by decide +kernel
theorem dX0_add_49 : decode cX0_add 49 = .ok (.invokestatic 35, 3) := by decide +kernel
theorem dX0_add_52 : decode cX0_add 52 = .ok (.aload_n 0, 1) := by decide +kernel
theorem dX0_add_53 : decode cX0_add 53 = .ok (.getfield 18, 3) := by decide +kernel
theorem dX0_add_56 : decode cX0_add 56 = .ok (.iload_n 1, 1) := by decide +kernel
theorem dX0_add_57 : decode cX0_add 57 = .ok (.iconst (-1), 1) := by decide +kernel
theorem dX0_add_58 : decode cX0_add 58 = .ok (.invokestatic 35, 3) := by decide +kernel
theorem dX0_add_61 : decode cX0_add 61 = .ok (.aload_n 0, 1) := by decide +kernel
theorem dX0_add_62 : decode cX0_add 62 = .ok (.getfield 21, 3) := by decide +kernel
theorem dX0_add_65 : decode cX0_add 65 = .ok (.iload_n 1, 1) := by decide +kernel
theorem dX0_add_66 : decode cX0_add 66 = .ok (.iconst 0, 1) := by decide +kernel
theorem dX0_add_67 : decode cX0_add 67 = .ok (.invokestatic 35, 3) := by decide +kernel
theorem dX0_add_70 : decode cX0_add 70 = .ok (.aload_n 0, 1) := by decide +kernel
theorem dX0_add_71 : decode cX0_add 71 = .ok (.dup, 1) := by decide +kernel
theorem dX0_add_72 : decode cX0_add 72 = .ok (.getfield 28, 3) := by decide +kernel
theorem dX0_add_75 : decode cX0_add 75 = .ok (.iconst 1, 1) := by decide +kernel
theorem dX0_add_76 : decode cX0_add 76 = .ok (.iadd, 1) := by decide +kernel
theorem dX0_add_77 : decode cX0_add 77 = .ok (.putfield 28, 3) := by decide +kernel
theorem dX0_add_80 : decode cX0_add 80 = .ok (.return_, 1) := by decide +kernel
theorem dX7_forget_0 : decode cX7_forget 0 = .ok (.aload_n 0, 1) := by decide +kernel
theorem dX7_forget_1 : decode cX7_forget 1 = .ok (.getfield 19, 3) := by decide +kernel
theorem dX7_forget_4 : decode cX7_forget 4 = .ok (.iconst 0, 1) := by decide +kernel
theorem dX7_forget_5 : decode cX7_forget 5 = .ok (.putfield 333, 3) := by decide +kernel
theorem dX7_forget_8 : decode cX7_forget 8 = .ok (.aload_n 0, 1) := by decide +kernel
theorem dX7_forget_9 : decode cX7_forget 9 = .ok (.getfield 26, 3) := by decide +kernel
theorem dX7_forget_12 : decode cX7_forget 12 = .ok (.iconst 0, 1) := by decide +kernel
theorem dX7_forget_13 : decode cX7_forget 13 = .ok (.putfield 334, 3) := by decide +kernel
theorem dX7_forget_16 : decode cX7_forget 16 = .ok (.aload_n 0, 1) := by decide +kernel
theorem dX7_forget_17 : decode cX7_forget 17 = .ok (.getfield 33, 3) := by decide +kernel
theorem dX7_forget_20 : decode cX7_forget 20 = .ok (.iconst 0, 1) := by decide +kernel
theorem dX7_forget_21 : decode cX7_forget 21 = .ok (.putfield 119, 3) := by decide +kernel
theorem dX7_forget_24 : decode cX7_forget 24 = .ok (.aload_n 0, 1) := by decide +kernel
theorem dX7_forget_25 : decode cX7_forget 25 = .ok (.getfield 40, 3) := by decide +kernel
theorem dX7_forget_28 : decode cX7_forget 28 = .ok (.iconst 0, 1) := by decide +kernel
theorem dX7_forget_29 : decode cX7_forget 29 = .ok (.putfield 335, 3) := by decide +kernel
theorem dX7_forget_32 : decode cX7_forget 32 = .ok (.aload_n 0, 1) := by decide +kernel
theorem dX7_forget_33 : decode cX7_forget 33 = .ok (.getfield 47, 3) := by decide +kernel
theorem dX7_forget_36 : decode cX7_forget 36 = .ok (.iconst 0, 1) := by decide +kernel
theorem dX7_forget_37 : decode cX7_forget 37 = .ok (.putfield 336, 3) := by decide +kernel
theorem dX7_forget_40 : decode cX7_forget 40 = .ok (.return_, 1) := by decide +kernel
theorem dX7_insert_0 : decode cX7_insert 0 = .ok (.iload_n 1, 1) := by decide +kernel
theorem dX7_insert_1 : decode cX7_insert 1 = .ok (.ifCond .lt 14, 3) := by decide +kernel
theorem dX7_insert_4 : decode cX7_insert 4 = .ok (.iload_n 1, 1) := by decide +kernel
theorem dX7_insert_5 : decode cX7_insert 5 = .ok (.aload_n 0, 1) := by decide +kernel
theorem dX7_insert_6 : decode cX7_insert 6 = .ok (.getfield 10, 3) := by decide +kernel
theorem dX7_insert_9 : decode cX7_insert 9 = .ok (.getfield 51, 3) := by decide +kernel
theorem dX7_insert_12 : decode cX7_insert 12 = .ok (.if_icmp .le 13, 3) := by decide +kernel
theorem dX7_insert_15 : decode cX7_insert 15 = .ok (.new 55, 3) := by decide +kernel
theorem dX7_insert_18 : decode cX7_insert 18 = .ok (.dup, 1) := by decide +kernel
theorem dX7_insert_19 : decode cX7_insert 19 = .ok (.ldc 57, 2) := by decide +kernel
theorem dX7_insert_21 : decode cX7_insert 21 = .ok (.invokespecial 59, 3) := by decide +kernel
theorem dX7_insert_24 : decode cX7_insert 24 = .ok (.athrow, 1) := by decide +kernel
theorem dX7_insert_25 : decode cX7_insert 25 = .ok (.iload_n 2, 1) := by decide +kernel
theorem dX7_insert_26 : decode cX7_insert 26 = .ok (.ifCond .lt 8, 3) := by decide +kernel
theorem dX7_insert_29 : decode cX7_insert 29 = .ok (.iload_n 2, 1) := by decide +kernel
theorem dX7_insert_30 : decode cX7_insert 30 = .ok (.iconst 3, 1) := by decide +kernel
theorem dX7_insert_31 : decode cX7_insert 31 = .ok (.if_icmp .le 13, 3) := by decide +kernel
theorem dX7_insert_34 : decode cX7_insert 34 = .ok (.new 55, 3) := by decide +kernel
theorem dX7_insert_37 : decode cX7_insert 37 = .ok (.dup, 1) := by decide +kernel
theorem dX7_insert_38 : decode cX7_insert 38 = .ok (.ldc 62, 2) := by decide +kernel
theorem dX7_insert_40 : decode cX7_insert 40 = .ok (.invokespecial 59, 3) := by decide +kernel
theorem dX7_insert_43 : decode cX7_insert 43 = .ok (.athrow, 1) := by decide +kernel
theorem dX7_insert_44 : decode cX7_insert 44 = .ok (.iload_n 2, 1) := by decide +kernel
theorem dX7_insert_45 : decode cX7_insert 45 = .ok (.invokestatic 64, 3) := by decide +kernel
theorem dX7_insert_48 : decode cX7_insert 48 = .ok (.ifCond .eq 20, 3) := by decide +kernel
theorem dX7_insert_51 : decode cX7_insert 51 = .ok (.iload_n 3, 1) := by decide +kernel
theorem dX7_insert_52 : decode cX7_insert 52 = .ok (.invokestatic 68, 3) := by decide +kernel
theorem dX7_insert_55 : decode cX7_insert 55 = .ok (.ifCond .ne 13, 3) := by decide +kernel
theorem dX7_insert_58 : decode cX7_insert 58 = .ok (.new 55, 3) := by decide +kernel
theorem dX7_insert_61 : decode cX7_insert 61 = .ok (.dup, 1) := by decide +kernel
theorem dX7_insert_62 : decode cX7_insert 62 = .ok (.ldc 71, 2) := by decide +kernel
theorem dX7_insert_64 : decode cX7_insert 64 = .ok (.invokespecial 59, 3) := by decide +kernel
theorem dX7_insert_67 : decode cX7_insert 67 = .ok (.athrow, 1) := by decide +kernel
theorem dX7_insert_68 : decode cX7_insert 68 = .ok (.aload_n 0, 1) := by decide +kernel
theorem dX7_insert_69 : decode cX7_insert 69 = .ok (.getfield 10, 3) := by decide +kernel
theorem dX7_insert_72 : decode cX7_insert 72 = .ok (.getfield 51, 3) := by decide +kernel
theorem dX7_insert_75 : decode cX7_insert 75 = .ok (.bipush 40, 2) := by decide +kernel
theorem dX7_insert_77 : decode cX7_insert 77 = .ok (.if_icmp .lt 13, 3) := by decide +kernel
theorem dX7_insert_90 : decode cX7_insert 90 = .ok (.aload_n 0, 1) := by decide +kernel
theorem dX7_insert_91 : decode cX7_insert 91 = .ok (.getfield 10, 3) := by decide +kernel
theorem dX7_insert_94 : decode cX7_insert 94 = .ok (.iload_n 1, 1) := by decide +kernel
theorem dX7_insert_95 : decode cX7_insert 95 = .ok (.iload_n 2, 1) := by decide +kernel
theorem dX7_insert_96 : decode cX7_insert 96 = .ok (.iload_n 2, 1) := by decide +kernel
theorem dX7_insert_97 : decode cX7_insert 97 = .ok (.invokestatic 64, 3) := by decide +kernel
theorem dX7_insert_100 : decode cX7_insert 100 = .ok (.ifCond .eq 7, 3) := by decide +kernel
theorem dX7_insert_103 : decode cX7_insert 103 = .ok (.iload_n 3, 1) := by decide +kernel
theorem dX7_insert_104 : decode cX7_insert 104 = .ok (.goto 4, 3) := by decide +kernel
theorem dX7_insert_107 : decode cX7_insert 107 = .ok (.iconst 0, 1) := by decide +kernel
theorem dX7_insert_108 : decode cX7_insert 108 = .ok (.invokevirtual 78, 3) := by decide +kernel
theorem dX7_insert_111 : decode cX7_insert 111 = .ok (.aload_n 0, 1) := by decide +kernel
theorem dX7_insert_112 : decode cX7_insert 112 = .ok (.invokevirtual 82, 3) := by decide +kernel
theorem dX7_insert_115 : decode cX7_insert 115 = .ok (.aload_n 0, 1) := by decide +kernel
theorem dX7_insert_116 : decode cX7_insert 116 = .ok (.getfield 10, 3) := by decide +kernel
theorem dX7_insert_119 : decode cX7_insert 119 = .ok (.getfield 51, 3) := by decide +kernel
theorem dX7_insert_122 : decode cX7_insert 122 = .ok (.ireturn, 1) := by decide +kernel
theorem mw_253 : Cond.code yX7_freshRanks cX7_freshRanks 1 (some (Jvm.ClassFile.FieldType.object "OrielChart$Ranks")) ∈ GW := gw_mem (inT2 _ (List.mem_of_getElem? (i := 168) rfl)) rfl
theorem mw_254 : Cond.methodLink RX7 159 yX7_freshRanks ∈ GW := gw_mem (inT2 _ (List.mem_of_getElem? (i := 165) rfl)) rfl
theorem mw_255 : Cond.instanceMethod yX7_freshRanks ∈ GW := gw_mem (inT2 _ (List.mem_of_getElem? (i := 167) rfl)) rfl
theorem mw_256 : Cond.selects RX7 yX7_freshRanks yX7_freshRanks ∈ GW := gw_mem (inTp (q := (yX7_freshRanks, 6)) (List.mem_of_getElem? (i := 4) rfl)) rfl
theorem mw_257 : Cond.code yX7_freshLives cX7_freshLives 1 (some (Jvm.ClassFile.FieldType.object "OrielChart$Lives")) ∈ GW := gw_mem (inT2 _ (List.mem_of_getElem? (i := 206) rfl)) rfl
theorem mw_258 : Cond.methodLink RX7 200 yX7_freshLives ∈ GW := gw_mem (inT2 _ (List.mem_of_getElem? (i := 203) rfl)) rfl
theorem mw_259 : Cond.instanceMethod yX7_freshLives ∈ GW := gw_mem (inT2 _ (List.mem_of_getElem? (i := 205) rfl)) rfl
theorem mw_260 : Cond.selects RX7 yX7_freshLives yX7_freshLives ∈ GW := gw_mem (inTp (q := (yX7_freshLives, 6)) (List.mem_of_getElem? (i := 7) rfl)) rfl
theorem mw_261 : Cond.code yX1_countWindings cX1_countWindings 3 (some Jvm.ClassFile.FieldType.int) ∈ GW := gw_mem (inT2 _ (List.mem_of_getElem? (i := 237) rfl)) rfl
theorem mw_262 : Cond.methodLink RX7 210 yX1_countWindings ∈ GW := gw_mem (inT2 _ (List.mem_of_getElem? (i := 234) rfl)) rfl
theorem mw_263 : Cond.instanceMethod yX1_countWindings ∈ GW := gw_mem (inT2 _ (List.mem_of_getElem? (i := 235) rfl)) rfl
theorem mw_264 : Cond.selects RX1 yX1_countWindings yX1_countWindings ∈ GW := gw_mem (inT2 _ (List.mem_of_getElem? (i := 236) rfl)) rfl
theorem mw_265 : Cond.methodLink RX7 277 yX3_countCrossings ∈ GW := gw_mem (inT3 _ (List.mem_of_getElem? (i := 135) rfl)) rfl
theorem mw_266 : Cond.code yX3_meanSpan cX3_meanSpan 4 (some Jvm.ClassFile.FieldType.double) ∈ GW := gw_mem (inT3 _ (List.mem_of_getElem? (i := 158) rfl)) rfl
theorem mw_267 : Cond.methodLink RX7 292 yX3_meanSpan ∈ GW := gw_mem (inT3 _ (List.mem_of_getElem? (i := 155) rfl)) rfl
theorem mw_268 : Cond.instanceMethod yX3_meanSpan ∈ GW := gw_mem (inT3 _ (List.mem_of_getElem? (i := 156) rfl)) rfl
theorem mw_269 : Cond.selects RX3 yX3_meanSpan yX3_meanSpan ∈ GW := gw_mem (inT3 _ (List.mem_of_getElem? (i := 157) rfl)) rfl
theorem mw_270 : Cond.constantLong RX7 296 (2557) ∈ GW := gw_mem (inT3 _ (List.mem_of_getElem? (i := 163) rfl)) rfl
theorem mw_271 : Cond.code yX7_digestOfCode cX7_digestOfCode 6 (some Jvm.ClassFile.FieldType.long) ∈ GW := gw_mem (inT3 _ (List.mem_of_getElem? (i := 167) rfl)) rfl
theorem mw_272 : Cond.methodLink RX7 298 yX7_digestOfCode ∈ GW := gw_mem (inT3 _ (List.mem_of_getElem? (i := 164) rfl)) rfl
theorem mw_273 : Cond.instanceMethod yX7_digestOfCode ∈ GW := gw_mem (inT3 _ (List.mem_of_getElem? (i := 166) rfl)) rfl
theorem mw_274 : Cond.selects RX7 yX7_digestOfCode yX7_digestOfCode ∈ GW := gw_mem (inTp (q := (yX7_digestOfCode, 6)) (List.mem_of_getElem? (i := 32) rfl)) rfl
theorem mw_275 : Cond.code yX7_digestOfBlocks cX7_digestOfBlocks 6 (some Jvm.ClassFile.FieldType.long) ∈ GW := gw_mem (inT3 _ (List.mem_of_getElem? (i := 176) rfl)) rfl
theorem mw_276 : Cond.methodLink RX7 302 yX7_digestOfBlocks ∈ GW := gw_mem (inT3 _ (List.mem_of_getElem? (i := 173) rfl)) rfl
theorem mw_277 : Cond.instanceMethod yX7_digestOfBlocks ∈ GW := gw_mem (inT3 _ (List.mem_of_getElem? (i := 175) rfl)) rfl
theorem mw_278 : Cond.selects RX7 yX7_digestOfBlocks yX7_digestOfBlocks ∈ GW := gw_mem (inTp (q := (yX7_digestOfBlocks, 6)) (List.mem_of_getElem? (i := 33) rfl)) rfl
theorem mw_279 : Cond.code yX7_digestOfEdges cX7_digestOfEdges 6 (some Jvm.ClassFile.FieldType.long) ∈ GW := gw_mem (inT3 _ (List.mem_of_getElem? (i := 197) rfl)) rfl
theorem mw_280 : Cond.methodLink RX7 305 yX7_digestOfEdges ∈ GW := gw_mem (inT3 _ (List.mem_of_getElem? (i := 194) rfl)) rfl
theorem mw_281 : Cond.instanceMethod yX7_digestOfEdges ∈ GW := gw_mem (inT3 _ (List.mem_of_getElem? (i := 196) rfl)) rfl
theorem mw_282 : Cond.selects RX7 yX7_digestOfEdges yX7_digestOfEdges ∈ GW := gw_mem (inTp (q := (yX7_digestOfEdges, 6)) (List.mem_of_getElem? (i := 34) rfl)) rfl
theorem mw_283 : Cond.code yX7_digestOfSteps cX7_digestOfSteps 6 (some Jvm.ClassFile.FieldType.long) ∈ GW := gw_mem (inT3 _ (List.mem_of_getElem? (i := 211) rfl)) rfl
theorem mw_284 : Cond.methodLink RX7 315 yX7_digestOfSteps ∈ GW := gw_mem (inT3 _ (List.mem_of_getElem? (i := 208) rfl)) rfl
theorem mw_285 : Cond.instanceMethod yX7_digestOfSteps ∈ GW := gw_mem (inT3 _ (List.mem_of_getElem? (i := 210) rfl)) rfl
theorem mw_286 : Cond.selects RX7 yX7_digestOfSteps yX7_digestOfSteps ∈ GW := gw_mem (inTp (q := (yX7_digestOfSteps, 6)) (List.mem_of_getElem? (i := 35) rfl)) rfl
theorem mw_287 : Cond.code yX7_digestOfLayers cX7_digestOfLayers 8 (some Jvm.ClassFile.FieldType.long) ∈ GW := gw_mem (inT3 _ (List.mem_of_getElem? (i := 215) rfl)) rfl
theorem mw_288 : Cond.methodLink RX7 318 yX7_digestOfLayers ∈ GW := gw_mem (inT3 _ (List.mem_of_getElem? (i := 212) rfl)) rfl
theorem mw_289 : Cond.instanceMethod yX7_digestOfLayers ∈ GW := gw_mem (inT3 _ (List.mem_of_getElem? (i := 214) rfl)) rfl
theorem mw_290 : Cond.selects RX7 yX7_digestOfLayers yX7_digestOfLayers ∈ GW := gw_mem (inTp (q := (yX7_digestOfLayers, 6)) (List.mem_of_getElem? (i := 36) rfl)) rfl
theorem mw_291 : Cond.code yX7_needInstruction cX7_needInstruction 2 (none : Option FieldType) ∈ GW := gw_mem (inT4 _ (List.mem_of_getElem? (i := 115) rfl)) rfl
theorem mw_292 : Cond.methodLink RX7 85 yX7_needInstruction ∈ GW := gw_mem (inT4 _ (List.mem_of_getElem? (i := 112) rfl)) rfl
theorem mw_293 : Cond.instanceMethod yX7_needInstruction ∈ GW := gw_mem (inT4 _ (List.mem_of_getElem? (i := 114) rfl)) rfl
theorem mw_294 : Cond.selects RX7 yX7_needInstruction yX7_needInstruction ∈ GW := gw_mem (inTp (q := (yX7_needInstruction, 6)) (List.mem_of_getElem? (i := 41) rfl)) rfl
theorem mw_295 : Cond.code yX7_needBlock cX7_needBlock 2 (none : Option FieldType) ∈ GW := gw_mem (inT4 _ (List.mem_of_getElem? (i := 185) rfl)) rfl
theorem mw_296 : Cond.methodLink RX7 133 yX7_needBlock ∈ GW := gw_mem (inT4 _ (List.mem_of_getElem? (i := 182) rfl)) rfl
theorem mw_297 : Cond.instanceMethod yX7_needBlock ∈ GW := gw_mem (inT4 _ (List.mem_of_getElem? (i := 184) rfl)) rfl
theorem mw_298 : Cond.selects RX7 yX7_needBlock yX7_needBlock ∈ GW := gw_mem (inTp (q := (yX7_needBlock, 6)) (List.mem_of_getElem? (i := 42) rfl)) rfl
theorem mw_299 : Cond.code yX7_needEdge cX7_needEdge 2 (none : Option FieldType) ∈ GW := gw_mem (inT4 _ (List.mem_of_getElem? (i := 204) rfl)) rfl
theorem mw_300 : Cond.methodLink RX7 150 yX7_needEdge ∈ GW := gw_mem (inT4 _ (List.mem_of_getElem? (i := 201) rfl)) rfl
theorem mw_301 : Cond.instanceMethod yX7_needEdge ∈ GW := gw_mem (inT4 _ (List.mem_of_getElem? (i := 203) rfl)) rfl
theorem mw_302 : Cond.selects RX7 yX7_needEdge yX7_needEdge ∈ GW := gw_mem (inTp (q := (yX7_needEdge, 6)) (List.mem_of_getElem? (i := 43) rfl)) rfl
theorem mw_303 : Cond.code yX7_needStep cX7_needStep 2 (none : Option FieldType) ∈ GW := gw_mem (inT5 _ (List.mem_of_getElem? (i := 37) rfl)) rfl
theorem mw_304 : Cond.methodLink RX7 221 yX7_needStep ∈ GW := gw_mem (inT5 _ (List.mem_of_getElem? (i := 34) rfl)) rfl
theorem mw_305 : Cond.instanceMethod yX7_needStep ∈ GW := gw_mem (inT5 _ (List.mem_of_getElem? (i := 36) rfl)) rfl
theorem mw_306 : Cond.selects RX7 yX7_needStep yX7_needStep ∈ GW := gw_mem (inTp (q := (yX7_needStep, 6)) (List.mem_of_getElem? (i := 44) rfl)) rfl
theorem mw_307 : Cond.code yX7_needLayer cX7_needLayer 2 (none : Option FieldType) ∈ GW := gw_mem (inT5 _ (List.mem_of_getElem? (i := 77) rfl)) rfl
theorem mw_308 : Cond.methodLink RX7 253 yX7_needLayer ∈ GW := gw_mem (inT5 _ (List.mem_of_getElem? (i := 74) rfl)) rfl
theorem mw_309 : Cond.instanceMethod yX7_needLayer ∈ GW := gw_mem (inT5 _ (List.mem_of_getElem? (i := 76) rfl)) rfl
theorem mw_310 : Cond.selects RX7 yX7_needLayer yX7_needLayer ∈ GW := gw_mem (inTp (q := (yX7_needLayer, 6)) (List.mem_of_getElem? (i := 45) rfl)) rfl
theorem mw_311 : Cond.code yX7_needSweeps cX7_needSweeps 1 (none : Option FieldType) ∈ GW := gw_mem (inT5 _ (List.mem_of_getElem? (i := 121) rfl)) rfl
theorem mw_312 : Cond.methodLink RX7 280 yX7_needSweeps ∈ GW := gw_mem (inT5 _ (List.mem_of_getElem? (i := 119) rfl)) rfl
theorem mw_313 : Cond.static yX7_needSweeps ∈ GW := gw_mem (inT5 _ (List.mem_of_getElem? (i := 120) rfl)) rfl
theorem mw_314 : Cond.methodLink RX7 283 yX3_sweepOften ∈ GW := gw_mem (inT5 _ (List.mem_of_getElem? (i := 123) rfl)) rfl
theorem mw_315 : Cond.code yX3_tryOut cX3_tryOut 7 (some Jvm.ClassFile.FieldType.int) ∈ GW := gw_mem (inT5 _ (List.mem_of_getElem? (i := 151) rfl)) rfl
theorem mw_316 : Cond.methodLink RX7 286 yX3_tryOut ∈ GW := gw_mem (inT5 _ (List.mem_of_getElem? (i := 148) rfl)) rfl
theorem mw_317 : Cond.instanceMethod yX3_tryOut ∈ GW := gw_mem (inT5 _ (List.mem_of_getElem? (i := 149) rfl)) rfl
theorem mw_318 : Cond.selects RX3 yX3_tryOut yX3_tryOut ∈ GW := gw_mem (inT5 _ (List.mem_of_getElem? (i := 150) rfl)) rfl
theorem mw_319 : Cond.fieldLink RX0 28 "OrielChart$Code" "count" "I" ∈ GW := gw_mem (inT1 _ (List.mem_of_getElem? (i := 49) rfl)) rfl
theorem mw_320 : Cond.code yX0_shiftTargets cX0_shiftTargets 5 (none : Option FieldType) ∈ GW := gw_mem (inT4 _ (List.mem_of_getElem? (i := 90) rfl)) rfl
theorem mw_321 : Cond.methodLink RX0 24 yX0_shiftTargets ∈ GW := gw_mem (inT4 _ (List.mem_of_getElem? (i := 87) rfl)) rfl
theorem mw_322 : Cond.instanceMethod yX0_shiftTargets ∈ GW := gw_mem (inT4 _ (List.mem_of_getElem? (i := 89) rfl)) rfl
theorem mw_323 : Cond.selects RX0 yX0_shiftTargets yX0_shiftTargets ∈ GW := gw_mem (inTp (q := (yX0_shiftTargets, 5)) (List.mem_of_getElem? (i := 38) rfl)) rfl
theorem mw_324 : Cond.initialized RX0 ∈ GW := gw_mem (inT1 _ (List.mem_of_getElem? (i := 2) rfl)) rfl
theorem mw_325 : Cond.fieldLink RX0 9 "OrielChart$Code" "kind" "[I" ∈ GW := gw_mem (inT1 _ (List.mem_of_getElem? (i := 36) rfl)) rfl
theorem mw_326 : Cond.fieldLink RX0 15 "OrielChart$Code" "target" "[I" ∈ GW := gw_mem (inT1 _ (List.mem_of_getElem? (i := 39) rfl)) rfl
theorem mw_327 : Cond.fieldLink RX0 18 "OrielChart$Code" "sets" "[I" ∈ GW := gw_mem (inT1 _ (List.mem_of_getElem? (i := 42) rfl)) rfl
theorem mw_328 : Cond.fieldLink RX0 21 "OrielChart$Code" "uses" "[I" ∈ GW := gw_mem (inT1 _ (List.mem_of_getElem? (i := 45) rfl)) rfl
theorem mw_329 : Cond.code yX7_jumps cX7_jumps 1 (some Jvm.ClassFile.FieldType.boolean) ∈ GW := gw_mem (inT2 _ (List.mem_of_getElem? (i := 117) rfl)) rfl
theorem mw_330 : Cond.methodLink RX7 64 yX7_jumps ∈ GW := gw_mem (inT4 _ (List.mem_of_getElem? (i := 62) rfl)) rfl
theorem mw_331 : Cond.static yX7_jumps ∈ GW := gw_mem (inT2 _ (List.mem_of_getElem? (i := 116) rfl)) rfl
theorem mw_332 : Cond.code yX0_add cX0_add 5 (none : Option FieldType) ∈ GW := gw_mem (inT4 _ (List.mem_of_getElem? (i := 86) rfl)) rfl
theorem mw_333 : Cond.methodLink RX7 78 yX0_add ∈ GW := gw_mem (inT4 _ (List.mem_of_getElem? (i := 83) rfl)) rfl
theorem mw_334 : Cond.instanceMethod yX0_add ∈ GW := gw_mem (inT4 _ (List.mem_of_getElem? (i := 84) rfl)) rfl
theorem mw_335 : Cond.selects RX0 yX0_add yX0_add ∈ GW := gw_mem (inT4 _ (List.mem_of_getElem? (i := 85) rfl)) rfl
theorem mw_336 : Cond.code yX7_forget cX7_forget 1 (none : Option FieldType) ∈ GW := gw_mem (inT4 _ (List.mem_of_getElem? (i := 103) rfl)) rfl
theorem mw_337 : Cond.methodLink RX7 82 yX7_forget ∈ GW := gw_mem (inT4 _ (List.mem_of_getElem? (i := 100) rfl)) rfl
theorem mw_338 : Cond.instanceMethod yX7_forget ∈ GW := gw_mem (inT4 _ (List.mem_of_getElem? (i := 102) rfl)) rfl
theorem mw_339 : Cond.selects RX7 yX7_forget yX7_forget ∈ GW := gw_mem (inTp (q := (yX7_forget, 6)) (List.mem_of_getElem? (i := 40) rfl)) rfl
theorem mw_340 : Cond.code yX7_isTarget cX7_isTarget 1 (some Jvm.ClassFile.FieldType.boolean) ∈ GW := gw_mem (inT4 _ (List.mem_of_getElem? (i := 65) rfl)) rfl
theorem mw_341 : Cond.methodLink RX7 68 yX7_isTarget ∈ GW := gw_mem (inT4 _ (List.mem_of_getElem? (i := 63) rfl)) rfl
theorem mw_342 : Cond.static yX7_isTarget ∈ GW := gw_mem (inT4 _ (List.mem_of_getElem? (i := 64) rfl)) rfl
theorem pdv_X7_freshRanks : yX7_freshRanks.cls = RX7 ∧ yX7_freshRanks.cls ≠ "java/lang/invoke/MethodHandle" ∧ yX7_freshRanks.cls ≠ "java/lang/invoke/VarHandle" ∧ (parseMethodDescriptor yX7_freshRanks.desc).map (fun d => d.parameters.length) = some 0 := by decide +kernel
theorem pdv_X7_freshLives : yX7_freshLives.cls = RX7 ∧ yX7_freshLives.cls ≠ "java/lang/invoke/MethodHandle" ∧ yX7_freshLives.cls ≠ "java/lang/invoke/VarHandle" ∧ (parseMethodDescriptor yX7_freshLives.desc).map (fun d => d.parameters.length) = some 0 := by decide +kernel
theorem pdv_X1_countWindings : yX1_countWindings.cls = RX1 ∧ yX1_countWindings.cls ≠ "java/lang/invoke/MethodHandle" ∧ yX1_countWindings.cls ≠ "java/lang/invoke/VarHandle" ∧ (parseMethodDescriptor yX1_countWindings.desc).map (fun d => d.parameters.length) = some 0 := by decide +kernel
theorem pdv_X3_meanSpan : yX3_meanSpan.cls = RX3 ∧ yX3_meanSpan.cls ≠ "java/lang/invoke/MethodHandle" ∧ yX3_meanSpan.cls ≠ "java/lang/invoke/VarHandle" ∧ (parseMethodDescriptor yX3_meanSpan.desc).map (fun d => d.parameters.length) = some 0 := by decide +kernel
theorem pdv_X7_digestOfCode : yX7_digestOfCode.cls = RX7 ∧ yX7_digestOfCode.cls ≠ "java/lang/invoke/MethodHandle" ∧ yX7_digestOfCode.cls ≠ "java/lang/invoke/VarHandle" ∧ (parseMethodDescriptor yX7_digestOfCode.desc).map (fun d => d.parameters.length) = some 1 := by decide +kernel
theorem pdv_X7_digestOfBlocks : yX7_digestOfBlocks.cls = RX7 ∧ yX7_digestOfBlocks.cls ≠ "java/lang/invoke/MethodHandle" ∧ yX7_digestOfBlocks.cls ≠ "java/lang/invoke/VarHandle" ∧ (parseMethodDescriptor yX7_digestOfBlocks.desc).map (fun d => d.parameters.length) = some 1 := by decide +kernel
theorem pdv_X7_digestOfEdges : yX7_digestOfEdges.cls = RX7 ∧ yX7_digestOfEdges.cls ≠ "java/lang/invoke/MethodHandle" ∧ yX7_digestOfEdges.cls ≠ "java/lang/invoke/VarHandle" ∧ (parseMethodDescriptor yX7_digestOfEdges.desc).map (fun d => d.parameters.length) = some 1 := by decide +kernel
theorem pdv_X7_digestOfSteps : yX7_digestOfSteps.cls = RX7 ∧ yX7_digestOfSteps.cls ≠ "java/lang/invoke/MethodHandle" ∧ yX7_digestOfSteps.cls ≠ "java/lang/invoke/VarHandle" ∧ (parseMethodDescriptor yX7_digestOfSteps.desc).map (fun d => d.parameters.length) = some 1 := by decide +kernel
theorem pdv_X7_digestOfLayers : yX7_digestOfLayers.cls = RX7 ∧ yX7_digestOfLayers.cls ≠ "java/lang/invoke/MethodHandle" ∧ yX7_digestOfLayers.cls ≠ "java/lang/invoke/VarHandle" ∧ (parseMethodDescriptor yX7_digestOfLayers.desc).map (fun d => d.parameters.length) = some 1 := by decide +kernel
theorem pdv_X7_needInstruction : yX7_needInstruction.cls = RX7 ∧ yX7_needInstruction.cls ≠ "java/lang/invoke/MethodHandle" ∧ yX7_needInstruction.cls ≠ "java/lang/invoke/VarHandle" ∧ (parseMethodDescriptor yX7_needInstruction.desc).map (fun d => d.parameters.length) = some 1 := by decide +kernel
theorem pdv_X7_needBlock : yX7_needBlock.cls = RX7 ∧ yX7_needBlock.cls ≠ "java/lang/invoke/MethodHandle" ∧ yX7_needBlock.cls ≠ "java/lang/invoke/VarHandle" ∧ (parseMethodDescriptor yX7_needBlock.desc).map (fun d => d.parameters.length) = some 1 := by decide +kernel
theorem pdv_X7_needEdge : yX7_needEdge.cls = RX7 ∧ yX7_needEdge.cls ≠ "java/lang/invoke/MethodHandle" ∧ yX7_needEdge.cls ≠ "java/lang/invoke/VarHandle" ∧ (parseMethodDescriptor yX7_needEdge.desc).map (fun d => d.parameters.length) = some 1 := by decide +kernel
theorem pdv_X7_needStep : yX7_needStep.cls = RX7 ∧ yX7_needStep.cls ≠ "java/lang/invoke/MethodHandle" ∧ yX7_needStep.cls ≠ "java/lang/invoke/VarHandle" ∧ (parseMethodDescriptor yX7_needStep.desc).map (fun d => d.parameters.length) = some 1 := by decide +kernel
theorem pdv_X7_needLayer : yX7_needLayer.cls = RX7 ∧ yX7_needLayer.cls ≠ "java/lang/invoke/MethodHandle" ∧ yX7_needLayer.cls ≠ "java/lang/invoke/VarHandle" ∧ (parseMethodDescriptor yX7_needLayer.desc).map (fun d => d.parameters.length) = some 1 := by decide +kernel
theorem pd_X7_needSweeps : yX7_needSweeps.cls ≠ "java/lang/invoke/MethodHandle" ∧ yX7_needSweeps.cls ≠ "java/lang/invoke/VarHandle" ∧ (parseMethodDescriptor yX7_needSweeps.desc).map (fun d => d.parameters.length) = some 1 := by decide +kernel
theorem pdv_X3_tryOut : yX3_tryOut.cls = RX3 ∧ yX3_tryOut.cls ≠ "java/lang/invoke/MethodHandle" ∧ yX3_tryOut.cls ≠ "java/lang/invoke/VarHandle" ∧ (parseMethodDescriptor yX3_tryOut.desc).map (fun d => d.parameters.length) = some 1 := by decide +kernel
theorem pdv_X0_shiftTargets : yX0_shiftTargets.cls = RX0 ∧ yX0_shiftTargets.cls ≠ "java/lang/invoke/MethodHandle" ∧ yX0_shiftTargets.cls ≠ "java/lang/invoke/VarHandle" ∧ (parseMethodDescriptor yX0_shiftTargets.desc).map (fun d => d.parameters.length) = some 2 := by decide +kernel
theorem pd_X7_jumps : yX7_jumps.cls ≠ "java/lang/invoke/MethodHandle" ∧ yX7_jumps.cls ≠ "java/lang/invoke/VarHandle" ∧ (parseMethodDescriptor yX7_jumps.desc).map (fun d => d.parameters.length) = some 1 := by decide +kernel
theorem pdv_X0_add : yX0_add.cls = RX0 ∧ yX0_add.cls ≠ "java/lang/invoke/MethodHandle" ∧ yX0_add.cls ≠ "java/lang/invoke/VarHandle" ∧ (parseMethodDescriptor yX0_add.desc).map (fun d => d.parameters.length) = some 3 := by decide +kernel
theorem pdv_X7_forget : yX7_forget.cls = RX7 ∧ yX7_forget.cls ≠ "java/lang/invoke/MethodHandle" ∧ yX7_forget.cls ≠ "java/lang/invoke/VarHandle" ∧ (parseMethodDescriptor yX7_forget.desc).map (fun d => d.parameters.length) = some 0 := by decide +kernel
theorem pd_X7_isTarget : yX7_isTarget.cls ≠ "java/lang/invoke/MethodHandle" ∧ yX7_isTarget.cls ≠ "java/lang/invoke/VarHandle" ∧ (parseMethodDescriptor yX7_isTarget.desc).map (fun d => d.parameters.length) = some 1 := by decide +kernel
set_option maxHeartbeats 4000000 in
set_option maxRecDepth 100000 in
theorem p_instructions (l : Launch) (D : va_G) (cI cJ cZ : ClassId) (ad : Nat → Nat) (b : Nat → Int32) (F : Nat → Nat → Int32) (G : Nat → Nat → Int64) (R : va_W) (hb0 : ∀ k, b k = 0) : CT l D (TY cI cJ cZ) yX7_instructions (.code yX7_instructions cX7_instructions 1 (some Jvm.ClassFile.FieldType.int)) 6 0 0 (XW ad cI cJ 0 b F G ++ R) [.ref (ad 0)] (QI D (TY cI cJ cZ) (fun r u => r = 0 ∧ ∃ n' b' F' G', u = XW ad cI cJ n' b' F' G' ++ R)) := by
  refine ent (by decide) (Nat.le_of_ble_eq_true rfl) ?_
  intro p e s m below meth c ls A hx hb hr hg hown hml hlocks hnm hP hK hD hS hA hN hl
  have hl : lv_has ls 1 [(0, .ref (ad 0))] := hl
  refine lv_aload_n hx hb dX7_instructions_0 rfl (lv_at hl 0 rfl) ?_
  refine va_get (D := D) (ci := 7) (v := .ref (ad 1)) (C := RX7) (T := TX7) (N := 6) hx hb hg inGX7 hown hK hP 0 rfl rfl 0 (by decide) (hg _ mw_113) (fun _ h9 => h9) rfl dX7_instructions_1 ?_
  refine va_getN (D := D) (ci := 0) (v := .int 0) (C := RX0) (T := TX0) (N := 5) hx hb hg inGX0 hown hK hP 1 rfl rfl 4 (by decide) (hN.use nw_10) (fun _ h9 => h9) rfl dX7_instructions_4 ?_
  exact W.iret (v := 0) hx hb hr (fun t ht hW => ⟨⟨0, (XW ad cI cJ 0 b F G ++ R), rfl, ⟨rfl, _, _, _, _, rfl⟩, ⟨by rw [ht]; exact hP, va_K.moved hW.alike hK, hD⟩⟩, hS.F ht⟩) hS.2.2 dX7_instructions_7
set_option maxHeartbeats 4000000 in
set_option maxRecDepth 100000 in
theorem p_blocks (l : Launch) (D : va_G) (cI cJ cZ : ClassId) (ad : Nat → Nat) (b : Nat → Int32) (F : Nat → Nat → Int32) (G : Nat → Nat → Int64) (R : va_W) (hb0 : ∀ k, b k = 0) : CT l D (TY cI cJ cZ) yX7_blocks (.code yX7_blocks cX7_blocks 1 (some Jvm.ClassFile.FieldType.int)) 6 0 0 (XW ad cI cJ 0 b F G ++ R) [.ref (ad 0)] (QI D (TY cI cJ cZ) (fun r u => r = 0 ∧ ∃ n' b' F' G', u = XW ad cI cJ n' b' F' G' ++ R)) := by
  refine ent (by decide) (Nat.le_of_ble_eq_true rfl) ?_
  intro p e s m below meth c ls A hx hb hr hg hown hml hlocks hnm hP hK hD hS hA hN hl
  have hl : lv_has ls 1 [(0, .ref (ad 0))] := hl
  refine lv_aload_n hx hb dX7_blocks_0 rfl (lv_at hl 0 rfl) ?_
  refine kR (rV (q0 := 0) (ci := 7) hx hb hml hown hg hN hK hP hD (c_freshFlow l D cI cJ cZ ad b F G R) mw_134 mw_135 mw_136 mw_137 mw_110 pdv_X7_freshFlow ⟨Nat.le_of_ble_eq_true rfl, Nat.le_of_ble_eq_true rfl⟩ rfl rfl rfl hl.1 rfl (Nat.le_of_ble_eq_true rfl) dX7_blocks_1 ⟨Nat.le_of_ble_eq_true rfl, Nat.le_of_ble_eq_true rfl⟩) hD hS hA (fun r_1 u_1 H locs hp hP hD hS => ?_)
  obtain ⟨rfl, b_2, F_3, G_4, rfl, hb_2⟩ := hp
  refine va_getN (D := D) (ci := 1) (v := .int 0) (C := RX1) (T := TX1) (N := 11) hx hb hg inGX1 hown hK hP 2 rfl rfl 7 (by decide) (hN.use nw_28) (fun _ h9 => h9) rfl dX7_blocks_4 ?_
  exact W.iret (v := 0) hx hb hr (fun t ht hW => ⟨⟨0, (XW ad cI cJ 0 b_2 F_3 G_4 ++ R), rfl, ⟨rfl, _, _, _, _, rfl⟩, ⟨by rw [ht]; exact hP, va_K.moved hW.alike hK, hD⟩⟩, hS.F ht⟩) hS.2.2 dX7_blocks_7
set_option maxHeartbeats 4000000 in
set_option maxRecDepth 100000 in
theorem p_edges (l : Launch) (D : va_G) (cI cJ cZ : ClassId) (ad : Nat → Nat) (b : Nat → Int32) (F : Nat → Nat → Int32) (G : Nat → Nat → Int64) (R : va_W) (hb0 : ∀ k, b k = 0) : CT l D (TY cI cJ cZ) yX7_edges (.code yX7_edges cX7_edges 1 (some Jvm.ClassFile.FieldType.int)) 6 0 0 (XW ad cI cJ 0 b F G ++ R) [.ref (ad 0)] (QI D (TY cI cJ cZ) (fun r u => r = 0 ∧ ∃ n' b' F' G', u = XW ad cI cJ n' b' F' G' ++ R)) := by
  refine ent (by decide) (Nat.le_of_ble_eq_true rfl) ?_
  intro p e s m below meth c ls A hx hb hr hg hown hml hlocks hnm hP hK hD hS hA hN hl
  have hl : lv_has ls 1 [(0, .ref (ad 0))] := hl
  refine lv_aload_n hx hb dX7_edges_0 rfl (lv_at hl 0 rfl) ?_
  refine kR (rV (q0 := 0) (ci := 7) hx hb hml hown hg hN hK hP hD (c_freshFlow l D cI cJ cZ ad b F G R) mw_134 mw_135 mw_136 mw_137 mw_110 pdv_X7_freshFlow ⟨Nat.le_of_ble_eq_true rfl, Nat.le_of_ble_eq_true rfl⟩ rfl rfl rfl hl.1 rfl (Nat.le_of_ble_eq_true rfl) dX7_edges_1 ⟨Nat.le_of_ble_eq_true rfl, Nat.le_of_ble_eq_true rfl⟩) hD hS hA (fun r_1 u_1 H locs hp hP hD hS => ?_)
  obtain ⟨rfl, b_2, F_3, G_4, rfl, hb_2⟩ := hp
  refine va_getN (D := D) (ci := 1) (v := .int 0) (C := RX1) (T := TX1) (N := 11) hx hb hg inGX1 hown hK hP 2 rfl rfl 8 (by decide) (hN.use nw_31) (fun _ h9 => h9) rfl dX7_edges_4 ?_
  exact W.iret (v := 0) hx hb hr (fun t ht hW => ⟨⟨0, (XW ad cI cJ 0 b_2 F_3 G_4 ++ R), rfl, ⟨rfl, _, _, _, _, rfl⟩, ⟨by rw [ht]; exact hP, va_K.moved hW.alike hK, hD⟩⟩, hS.F ht⟩) hS.2.2 dX7_edges_7
set_option maxHeartbeats 4000000 in
set_option maxRecDepth 100000 in
theorem p_loops (l : Launch) (D : va_G) (cI cJ cZ : ClassId) (ad : Nat → Nat) (b : Nat → Int32) (F : Nat → Nat → Int32) (G : Nat → Nat → Int64) (R : va_W) (hb0 : ∀ k, b k = 0) : CT l D (TY cI cJ cZ) yX7_loops (.code yX7_loops cX7_loops 1 (some Jvm.ClassFile.FieldType.int)) 6 0 0 (XW ad cI cJ 0 b F G ++ R) [.ref (ad 0)] (QI D (TY cI cJ cZ) (fun r u => r = 0 ∧ ∃ n' b' F' G', u = XW ad cI cJ n' b' F' G' ++ R)) := by
  refine ent (by decide) (Nat.le_of_ble_eq_true rfl) ?_
  intro p e s m below meth c ls A hx hb hr hg hown hml hlocks hnm hP hK hD hS hA hN hl
  have hl : lv_has ls 1 [(0, .ref (ad 0))] := hl
  refine lv_aload_n hx hb dX7_loops_0 rfl (lv_at hl 0 rfl) ?_
  refine kR (rV (q0 := 0) (ci := 7) hx hb hml hown hg hN hK hP hD (c_freshRanks l D cI cJ cZ ad b F G R (by first | assumption | exact hb0 2 | simp_all)) mw_253 mw_254 mw_255 mw_256 mw_110 pdv_X7_freshRanks ⟨Nat.le_of_ble_eq_true rfl, Nat.le_of_ble_eq_true rfl⟩ rfl rfl rfl hl.1 rfl (Nat.le_of_ble_eq_true rfl) dX7_loops_1 ⟨Nat.le_of_ble_eq_true rfl, Nat.le_of_ble_eq_true rfl⟩) hD hS hA (fun r_1 u_1 H locs hp hP hD hS => ?_)
  obtain ⟨rfl, b_2, F_3, G_4, rfl, h1b_2, hb_2⟩ := hp
  refine va_getN (D := D) (ci := 4) (v := .int 0) (C := RX4) (T := TX4) (N := 7) hx hb hg inGX4 hown hK hP 3 rfl rfl 4 (by decide) (hN.use nw_39) (fun _ h9 => h9) rfl dX7_loops_4 ?_
  exact W.iret (v := 0) hx hb hr (fun t ht hW => ⟨⟨0, (XW ad cI cJ 0 b_2 F_3 G_4 ++ R), rfl, ⟨rfl, _, _, _, _, rfl⟩, ⟨by rw [ht]; exact hP, va_K.moved hW.alike hK, hD⟩⟩, hS.F ht⟩) hS.2.2 dX7_loops_7
set_option maxHeartbeats 4000000 in
set_option maxRecDepth 100000 in
theorem p_vain (l : Launch) (D : va_G) (cI cJ cZ : ClassId) (ad : Nat → Nat) (b : Nat → Int32) (F : Nat → Nat → Int32) (G : Nat → Nat → Int64) (R : va_W) (hb0 : ∀ k, b k = 0) : CT l D (TY cI cJ cZ) yX7_vain (.code yX7_vain cX7_vain 1 (some Jvm.ClassFile.FieldType.int)) 6 0 0 (XW ad cI cJ 0 b F G ++ R) [.ref (ad 0)] (QI D (TY cI cJ cZ) (fun r u => r = 0 ∧ ∃ n' b' F' G', u = XW ad cI cJ n' b' F' G' ++ R)) := by
  refine ent (by decide) (Nat.le_of_ble_eq_true rfl) ?_
  intro p e s m below meth c ls A hx hb hr hg hown hml hlocks hnm hP hK hD hS hA hN hl
  have hl : lv_has ls 1 [(0, .ref (ad 0))] := hl
  refine lv_aload_n hx hb dX7_vain_0 rfl (lv_at hl 0 rfl) ?_
  refine kR (rV (q0 := 0) (ci := 7) hx hb hml hown hg hN hK hP hD (c_freshLives l D cI cJ cZ ad b F G R) mw_257 mw_258 mw_259 mw_260 mw_110 pdv_X7_freshLives ⟨Nat.le_of_ble_eq_true rfl, Nat.le_of_ble_eq_true rfl⟩ rfl rfl rfl hl.1 rfl (Nat.le_of_ble_eq_true rfl) dX7_vain_1 ⟨Nat.le_of_ble_eq_true rfl, Nat.le_of_ble_eq_true rfl⟩) hD hS hA (fun r_1 u_1 H locs hp hP hD hS => ?_)
  obtain ⟨rfl, b_2, F_3, G_4, rfl, hb_2⟩ := hp
  refine va_getN (D := D) (ci := 2) (v := .int 0) (C := RX2) (T := TX2) (N := 3) hx hb hg inGX2 hown hK hP 4 rfl rfl 1 (by decide) (hN.use nw_44) (fun _ h9 => h9) rfl dX7_vain_4 ?_
  exact W.iret (v := 0) hx hb hr (fun t ht hW => ⟨⟨0, (XW ad cI cJ 0 b_2 F_3 G_4 ++ R), rfl, ⟨rfl, _, _, _, _, rfl⟩, ⟨by rw [ht]; exact hP, va_K.moved hW.alike hK, hD⟩⟩, hS.F ht⟩) hS.2.2 dX7_vain_7
set_option maxHeartbeats 4000000 in
set_option maxRecDepth 100000 in
theorem p_windings (l : Launch) (D : va_G) (cI cJ cZ : ClassId) (ad : Nat → Nat) (b : Nat → Int32) (F : Nat → Nat → Int32) (G : Nat → Nat → Int64) (R : va_W) (hb0 : ∀ k, b k = 0) : CT l D (TY cI cJ cZ) yX7_windings (.code yX7_windings cX7_windings 1 (some Jvm.ClassFile.FieldType.int)) 6 0 0 (XW ad cI cJ 0 b F G ++ R) [.ref (ad 0)] (QI D (TY cI cJ cZ) (fun r u => r = 0 ∧ ∃ n' b' F' G', u = XW ad cI cJ n' b' F' G' ++ R)) := by
  refine ent (by decide) (Nat.le_of_ble_eq_true rfl) ?_
  intro p e s m below meth c ls A hx hb hr hg hown hml hlocks hnm hP hK hD hS hA hN hl
  have hl : lv_has ls 1 [(0, .ref (ad 0))] := hl
  refine lv_aload_n hx hb dX7_windings_0 rfl (lv_at hl 0 rfl) ?_
  refine kR (rV (q0 := 0) (ci := 7) hx hb hml hown hg hN hK hP hD (c_freshFlow l D cI cJ cZ ad b F G R) mw_134 mw_135 mw_136 mw_137 mw_110 pdv_X7_freshFlow ⟨Nat.le_of_ble_eq_true rfl, Nat.le_of_ble_eq_true rfl⟩ rfl rfl rfl hl.1 rfl (Nat.le_of_ble_eq_true rfl) dX7_windings_1 ⟨Nat.le_of_ble_eq_true rfl, Nat.le_of_ble_eq_true rfl⟩) hD hS hA (fun r_1 u_1 H locs hp hP hD hS => ?_)
  obtain ⟨rfl, b_2, F_3, G_4, rfl, hb_2⟩ := hp
  refine kI (rV (q0 := 2) (ci := 1) hx hb hml hown hg hN hK hP hD (c_countWindings l D cI cJ cZ ad b_2 F_3 G_4 R) mw_261 mw_262 mw_263 mw_264 mw_101 pdv_X1_countWindings ⟨Nat.le_of_ble_eq_true rfl, Nat.le_of_ble_eq_true rfl⟩ rfl rfl rfl hl.1 rfl (Nat.le_of_ble_eq_true rfl) dX7_windings_4 ⟨Nat.le_of_ble_eq_true rfl, Nat.le_of_ble_eq_true rfl⟩) hD hS hA (fun r_5 u_5 H locs hp hP hD hS => ?_)
  obtain ⟨rfl, rfl⟩ := hp
  exact W.iret (v := 0) hx hb hr (fun t ht hW => ⟨⟨0, (XW ad cI cJ 0 b_2 F_3 G_4 ++ R), rfl, ⟨rfl, _, _, _, _, rfl⟩, ⟨by rw [ht]; exact hP, va_K.moved hW.alike hK, hD⟩⟩, hS.F ht⟩) hS.2.2 dX7_windings_7
set_option maxHeartbeats 4000000 in
set_option maxRecDepth 100000 in
theorem p_steps (l : Launch) (D : va_G) (cI cJ cZ : ClassId) (ad : Nat → Nat) (b : Nat → Int32) (F : Nat → Nat → Int32) (G : Nat → Nat → Int64) (R : va_W) (hb0 : ∀ k, b k = 0) : CT l D (TY cI cJ cZ) yX7_steps (.code yX7_steps cX7_steps 1 (some Jvm.ClassFile.FieldType.int)) 6 0 0 (XW ad cI cJ 0 b F G ++ R) [.ref (ad 0)] (QI D (TY cI cJ cZ) (fun r u => r = 0 ∧ ∃ n' b' F' G', u = XW ad cI cJ n' b' F' G' ++ R)) := by
  refine ent (by decide) (Nat.le_of_ble_eq_true rfl) ?_
  intro p e s m below meth c ls A hx hb hr hg hown hml hlocks hnm hP hK hD hS hA hN hl
  have hl : lv_has ls 1 [(0, .ref (ad 0))] := hl
  refine lv_aload_n hx hb dX7_steps_0 rfl (lv_at hl 0 rfl) ?_
  refine kR (rV (q0 := 0) (ci := 7) hx hb hml hown hg hN hK hP hD (c_freshReduction l D cI cJ cZ ad b F G R) mw_221 mw_222 mw_223 mw_224 mw_110 pdv_X7_freshReduction ⟨Nat.le_of_ble_eq_true rfl, Nat.le_of_ble_eq_true rfl⟩ rfl rfl rfl hl.1 rfl (Nat.le_of_ble_eq_true rfl) dX7_steps_1 ⟨Nat.le_of_ble_eq_true rfl, Nat.le_of_ble_eq_true rfl⟩) hD hS hA (fun r_1 u_1 H locs hp hP hD hS => ?_)
  obtain ⟨rfl, b_2, F_3, G_4, rfl, hb_2⟩ := hp
  refine va_getN (D := D) (ci := 5) (v := .int 0) (C := RX5) (T := TX5) (N := 8) hx hb hg inGX5 hown hK hP 5 rfl rfl 6 (by decide) (hN.use nw_51) (fun _ h9 => h9) rfl dX7_steps_4 ?_
  exact W.iret (v := 0) hx hb hr (fun t ht hW => ⟨⟨0, (XW ad cI cJ 0 b_2 F_3 G_4 ++ R), rfl, ⟨rfl, _, _, _, _, rfl⟩, ⟨by rw [ht]; exact hP, va_K.moved hW.alike hK, hD⟩⟩, hS.F ht⟩) hS.2.2 dX7_steps_7
set_option maxHeartbeats 4000000 in
set_option maxRecDepth 100000 in
theorem p_left (l : Launch) (D : va_G) (cI cJ cZ : ClassId) (ad : Nat → Nat) (b : Nat → Int32) (F : Nat → Nat → Int32) (G : Nat → Nat → Int64) (R : va_W) (hb0 : ∀ k, b k = 0) : CT l D (TY cI cJ cZ) yX7_left (.code yX7_left cX7_left 1 (some Jvm.ClassFile.FieldType.int)) 6 0 0 (XW ad cI cJ 0 b F G ++ R) [.ref (ad 0)] (QI D (TY cI cJ cZ) (fun r u => r = 0 ∧ ∃ n' b' F' G', u = XW ad cI cJ n' b' F' G' ++ R)) := by
  refine ent (by decide) (Nat.le_of_ble_eq_true rfl) ?_
  intro p e s m below meth c ls A hx hb hr hg hown hml hlocks hnm hP hK hD hS hA hN hl
  have hl : lv_has ls 1 [(0, .ref (ad 0))] := hl
  refine lv_aload_n hx hb dX7_left_0 rfl (lv_at hl 0 rfl) ?_
  refine kR (rV (q0 := 0) (ci := 7) hx hb hml hown hg hN hK hP hD (c_freshReduction l D cI cJ cZ ad b F G R) mw_221 mw_222 mw_223 mw_224 mw_110 pdv_X7_freshReduction ⟨Nat.le_of_ble_eq_true rfl, Nat.le_of_ble_eq_true rfl⟩ rfl rfl rfl hl.1 rfl (Nat.le_of_ble_eq_true rfl) dX7_left_1 ⟨Nat.le_of_ble_eq_true rfl, Nat.le_of_ble_eq_true rfl⟩) hD hS hA (fun r_1 u_1 H locs hp hP hD hS => ?_)
  obtain ⟨rfl, b_2, F_3, G_4, rfl, hb_2⟩ := hp
  refine va_getN (D := D) (ci := 5) (v := .long 0) (C := RX5) (T := TX5) (N := 8) hx hb hg inGX5 hown hK hP 5 rfl rfl 5 (by decide) (hN.use nw_50) (fun _ h9 => h9) rfl dX7_left_4 ?_
  refine kI (rS hx hb hml hown hg hN hK hP hD (c_bitCount0 l D cI cJ cZ (XW ad cI cJ 0 b_2 F_3 G_4 ++ R)) mw_246 mw_247 mw_248 mw_249 pd_J13_bitCount_95d88 ⟨Nat.le_of_ble_eq_true rfl, Nat.le_of_ble_eq_true rfl⟩ rfl hl.1 rfl (Nat.le_of_ble_eq_true rfl) dX7_left_7 ⟨Nat.le_of_ble_eq_true rfl, Nat.le_of_ble_eq_true rfl⟩) hD hS hA (fun r_5 u_5 H locs hp hP hD hS => ?_)
  obtain ⟨rfl, rfl⟩ := hp
  exact W.iret (v := 0) hx hb hr (fun t ht hW => ⟨⟨0, (XW ad cI cJ 0 b_2 F_3 G_4 ++ R), rfl, ⟨rfl, _, _, _, _, rfl⟩, ⟨by rw [ht]; exact hP, va_K.moved hW.alike hK, hD⟩⟩, hS.F ht⟩) hS.2.2 dX7_left_10
set_option maxHeartbeats 4000000 in
set_option maxRecDepth 100000 in
theorem p_layers (l : Launch) (D : va_G) (cI cJ cZ : ClassId) (ad : Nat → Nat) (b : Nat → Int32) (F : Nat → Nat → Int32) (G : Nat → Nat → Int64) (R : va_W) (hb0 : ∀ k, b k = 0) : CT l D (TY cI cJ cZ) yX7_layers (.code yX7_layers cX7_layers 1 (some Jvm.ClassFile.FieldType.int)) 6 0 0 (XW ad cI cJ 0 b F G ++ R) [.ref (ad 0)] (QI D (TY cI cJ cZ) (fun r u => r = 0 ∧ ∃ n' b' F' G', u = XW ad cI cJ n' b' F' G' ++ R)) := by
  refine ent (by decide) (Nat.le_of_ble_eq_true rfl) ?_
  intro p e s m below meth c ls A hx hb hr hg hown hml hlocks hnm hP hK hD hS hA hN hl
  have hl : lv_has ls 1 [(0, .ref (ad 0))] := hl
  refine lv_aload_n hx hb dX7_layers_0 rfl (lv_at hl 0 rfl) ?_
  refine kR (rV (q0 := 0) (ci := 7) hx hb hml hown hg hN hK hP hD (c_freshPicture l D cI cJ cZ ad b F G R) mw_225 mw_226 mw_227 mw_228 mw_110 pdv_X7_freshPicture ⟨Nat.le_of_ble_eq_true rfl, Nat.le_of_ble_eq_true rfl⟩ rfl rfl rfl hl.1 rfl (Nat.le_of_ble_eq_true rfl) dX7_layers_1 ⟨Nat.le_of_ble_eq_true rfl, Nat.le_of_ble_eq_true rfl⟩) hD hS hA (fun r_1 u_1 H locs hp hP hD hS => ?_)
  obtain ⟨rfl, b_2, F_3, G_4, rfl, h5b_2, h6b_2, hb_2⟩ := hp
  refine va_getN (D := D) (ci := 3) (v := .int 0) (C := RX3) (T := TX3) (N := 16) hx hb hg inGX3 hown hK hP 6 rfl rfl 13 (by decide) (hN.use nw_62) (fun _ h9 => h9) rfl dX7_layers_4 ?_
  exact W.iret (v := 0) hx hb hr (fun t ht hW => ⟨⟨0, (XW ad cI cJ 0 b_2 F_3 G_4 ++ R), rfl, ⟨rfl, _, _, _, _, rfl⟩, ⟨by rw [ht]; exact hP, va_K.moved hW.alike hK, hD⟩⟩, hS.F ht⟩) hS.2.2 dX7_layers_7
set_option maxHeartbeats 4000000 in
set_option maxRecDepth 100000 in
theorem p_crossings (l : Launch) (D : va_G) (cI cJ cZ : ClassId) (ad : Nat → Nat) (b : Nat → Int32) (F : Nat → Nat → Int32) (G : Nat → Nat → Int64) (R : va_W) (hb0 : ∀ k, b k = 0) : CT l D (TY cI cJ cZ) yX7_crossings (.code yX7_crossings cX7_crossings 1 (some Jvm.ClassFile.FieldType.int)) 6 0 0 (XW ad cI cJ 0 b F G ++ R) [.ref (ad 0)] (QI D (TY cI cJ cZ) (fun r u => r = 0 ∧ ∃ n' b' F' G', u = XW ad cI cJ n' b' F' G' ++ R)) := by
  refine ent (by decide) (Nat.le_of_ble_eq_true rfl) ?_
  intro p e s m below meth c ls A hx hb hr hg hown hml hlocks hnm hP hK hD hS hA hN hl
  have hl : lv_has ls 1 [(0, .ref (ad 0))] := hl
  refine lv_aload_n hx hb dX7_crossings_0 rfl (lv_at hl 0 rfl) ?_
  refine kR (rV (q0 := 0) (ci := 7) hx hb hml hown hg hN hK hP hD (c_freshPicture l D cI cJ cZ ad b F G R) mw_225 mw_226 mw_227 mw_228 mw_110 pdv_X7_freshPicture ⟨Nat.le_of_ble_eq_true rfl, Nat.le_of_ble_eq_true rfl⟩ rfl rfl rfl hl.1 rfl (Nat.le_of_ble_eq_true rfl) dX7_crossings_1 ⟨Nat.le_of_ble_eq_true rfl, Nat.le_of_ble_eq_true rfl⟩) hD hS hA (fun r_1 u_1 H locs hp hP hD hS => ?_)
  obtain ⟨rfl, b_2, F_3, G_4, rfl, h5b_2, h6b_2, hb_2⟩ := hp
  refine kI (rV (q0 := 6) (ci := 3) hx hb hml hown hg hN hK hP hD (c_countCrossings l D cI cJ cZ ad b_2 F_3 G_4 R) mw_239 mw_265 mw_241 mw_242 mw_179 pdv_X3_countCrossings ⟨Nat.le_of_ble_eq_true rfl, Nat.le_of_ble_eq_true rfl⟩ rfl rfl rfl hl.1 rfl (Nat.le_of_ble_eq_true rfl) dX7_crossings_4 ⟨Nat.le_of_ble_eq_true rfl, Nat.le_of_ble_eq_true rfl⟩) hD hS hA (fun r_5 u_5 H locs hp hP hD hS => ?_)
  obtain ⟨rfl, rfl⟩ := hp
  exact W.iret (v := 0) hx hb hr (fun t ht hW => ⟨⟨0, (XW ad cI cJ 0 b_2 F_3 G_4 ++ R), rfl, ⟨rfl, _, _, _, _, rfl⟩, ⟨by rw [ht]; exact hP, va_K.moved hW.alike hK, hD⟩⟩, hS.F ht⟩) hS.2.2 dX7_crossings_7
set_option maxHeartbeats 4000000 in
set_option maxRecDepth 100000 in
theorem p_isTame (l : Launch) (D : va_G) (cI cJ cZ : ClassId) (ad : Nat → Nat) (b : Nat → Int32) (F : Nat → Nat → Int32) (G : Nat → Nat → Int64) (R : va_W) (hb0 : ∀ k, b k = 0) : CT l D (TY cI cJ cZ) yX7_isTame (.code yX7_isTame cX7_isTame 1 (some Jvm.ClassFile.FieldType.boolean)) 6 0 0 (XW ad cI cJ 0 b F G ++ R) [.ref (ad 0)] (QI D (TY cI cJ cZ) (fun r u => r = 1 ∧ ∃ n' b' F' G', u = XW ad cI cJ n' b' F' G' ++ R)) := by
  refine ent (by decide) (Nat.le_of_ble_eq_true rfl) ?_
  intro p e s m below meth c ls A hx hb hr hg hown hml hlocks hnm hP hK hD hS hA hN hl
  have hl : lv_has ls 1 [(0, .ref (ad 0))] := hl
  refine lv_aload_n hx hb dX7_isTame_0 rfl (lv_at hl 0 rfl) ?_
  refine kR (rV (q0 := 0) (ci := 7) hx hb hml hown hg hN hK hP hD (c_freshRanks l D cI cJ cZ ad b F G R (by first | assumption | exact hb0 2 | simp_all)) mw_253 mw_254 mw_255 mw_256 mw_110 pdv_X7_freshRanks ⟨Nat.le_of_ble_eq_true rfl, Nat.le_of_ble_eq_true rfl⟩ rfl rfl rfl hl.1 rfl (Nat.le_of_ble_eq_true rfl) dX7_isTame_1 ⟨Nat.le_of_ble_eq_true rfl, Nat.le_of_ble_eq_true rfl⟩) hD hS hA (fun r_1 u_1 H locs hp hP hD hS => ?_)
  obtain ⟨rfl, b_2, F_3, G_4, rfl, h1b_2, hb_2⟩ := hp
  refine va_getN (D := D) (ci := 4) (v := .int (b_2 1)) (C := RX4) (T := TX4) (N := 7) hx hb hg inGX4 hown hK hP 3 rfl rfl 5 (by decide) (hN.use nw_40) (fun _ h9 => h9) rfl dX7_isTame_4 ?_
  rw [h1b_2]
  exact W.zret (v := 1) hx hb hr rfl (fun t ht hW => ⟨⟨1, (XW ad cI cJ 0 b_2 F_3 G_4 ++ R), rfl, ⟨rfl, _, _, _, _, rfl⟩, ⟨by rw [ht]; exact hP, va_K.moved hW.alike hK, hD⟩⟩, hS.F ht⟩) hS.2.2 dX7_isTame_7
set_option maxHeartbeats 4000000 in
set_option maxRecDepth 100000 in
theorem p_isNeat (l : Launch) (D : va_G) (cI cJ cZ : ClassId) (ad : Nat → Nat) (b : Nat → Int32) (F : Nat → Nat → Int32) (G : Nat → Nat → Int64) (R : va_W) (hb0 : ∀ k, b k = 0) : CT l D (TY cI cJ cZ) yX7_isNeat (.code yX7_isNeat cX7_isNeat 1 (some Jvm.ClassFile.FieldType.boolean)) 6 0 0 (XW ad cI cJ 0 b F G ++ R) [.ref (ad 0)] (QI D (TY cI cJ cZ) (fun r u => r = 0 ∧ ∃ n' b' F' G', u = XW ad cI cJ n' b' F' G' ++ R)) := by
  refine ent (by decide) (Nat.le_of_ble_eq_true rfl) ?_
  intro p e s m below meth c ls A hx hb hr hg hown hml hlocks hnm hP hK hD hS hA hN hl
  have hl : lv_has ls 1 [(0, .ref (ad 0))] := hl
  refine lv_aload_n hx hb dX7_isNeat_0 rfl (lv_at hl 0 rfl) ?_
  refine kR (rV (q0 := 0) (ci := 7) hx hb hml hown hg hN hK hP hD (c_freshReduction l D cI cJ cZ ad b F G R) mw_221 mw_222 mw_223 mw_224 mw_110 pdv_X7_freshReduction ⟨Nat.le_of_ble_eq_true rfl, Nat.le_of_ble_eq_true rfl⟩ rfl rfl rfl hl.1 rfl (Nat.le_of_ble_eq_true rfl) dX7_isNeat_1 ⟨Nat.le_of_ble_eq_true rfl, Nat.le_of_ble_eq_true rfl⟩) hD hS hA (fun r_1 u_1 H locs hp hP hD hS => ?_)
  obtain ⟨rfl, b_2, F_3, G_4, rfl, hb_2⟩ := hp
  refine va_getN (D := D) (ci := 5) (v := .long 0) (C := RX5) (T := TX5) (N := 8) hx hb hg inGX5 hown hK hP 5 rfl rfl 5 (by decide) (hN.use nw_50) (fun _ h9 => h9) rfl dX7_isNeat_4 ?_
  refine kI (rS hx hb hml hown hg hN hK hP hD (c_bitCount0 l D cI cJ cZ (XW ad cI cJ 0 b_2 F_3 G_4 ++ R)) mw_246 mw_247 mw_248 mw_249 pd_J13_bitCount_95d88 ⟨Nat.le_of_ble_eq_true rfl, Nat.le_of_ble_eq_true rfl⟩ rfl hl.1 rfl (Nat.le_of_ble_eq_true rfl) dX7_isNeat_7 ⟨Nat.le_of_ble_eq_true rfl, Nat.le_of_ble_eq_true rfl⟩) hD hS hA (fun r_5 u_5 H locs hp hP hD hS => ?_)
  obtain ⟨rfl, rfl⟩ := hp
  refine lv_iconst (v := 1) hx hb dX7_isNeat_10 (by decide) ?_
  refine lv_icmp_ne (tgt := 18) hx hb dX7_isNeat_11 (by decide) (fun c_11 => ?_) (fun c_11 => absurd c_11 (by decide))
  refine lv_iconst (v := 0) hx hb dX7_isNeat_18 (by decide) ?_
  exact W.zret (v := 0) hx hb hr rfl (fun t ht hW => ⟨⟨0, (XW ad cI cJ 0 b_2 F_3 G_4 ++ R), rfl, ⟨rfl, _, _, _, _, rfl⟩, ⟨by rw [ht]; exact hP, va_K.moved hW.alike hK, hD⟩⟩, hS.F ht⟩) hS.2.2 dX7_isNeat_19
set_option maxHeartbeats 4000000 in
set_option maxRecDepth 100000 in
theorem p_swept (l : Launch) (D : va_G) (cI cJ cZ : ClassId) (ad : Nat → Nat) (b : Nat → Int32) (F : Nat → Nat → Int32) (G : Nat → Nat → Int64) (R : va_W) (hb0 : ∀ k, b k = 0) : CT l D (TY cI cJ cZ) yX7_swept (.code yX7_swept cX7_swept 1 (some Jvm.ClassFile.FieldType.int)) 6 0 0 (XW ad cI cJ 0 b F G ++ R) [.ref (ad 0)] (QI D (TY cI cJ cZ) (fun r u => r = 0 ∧ ∃ n' b' F' G', u = XW ad cI cJ n' b' F' G' ++ R)) := by
  refine ent (by decide) (Nat.le_of_ble_eq_true rfl) ?_
  intro p e s m below meth c ls A hx hb hr hg hown hml hlocks hnm hP hK hD hS hA hN hl
  have hl : lv_has ls 1 [(0, .ref (ad 0))] := hl
  refine lv_aload_n hx hb dX7_swept_0 rfl (lv_at hl 0 rfl) ?_
  refine kR (rV (q0 := 0) (ci := 7) hx hb hml hown hg hN hK hP hD (c_freshPicture l D cI cJ cZ ad b F G R) mw_225 mw_226 mw_227 mw_228 mw_110 pdv_X7_freshPicture ⟨Nat.le_of_ble_eq_true rfl, Nat.le_of_ble_eq_true rfl⟩ rfl rfl rfl hl.1 rfl (Nat.le_of_ble_eq_true rfl) dX7_swept_1 ⟨Nat.le_of_ble_eq_true rfl, Nat.le_of_ble_eq_true rfl⟩) hD hS hA (fun r_1 u_1 H locs hp hP hD hS => ?_)
  obtain ⟨rfl, b_2, F_3, G_4, rfl, h5b_2, h6b_2, hb_2⟩ := hp
  refine va_getN (D := D) (ci := 3) (v := .int (b_2 5)) (C := RX3) (T := TX3) (N := 16) hx hb hg inGX3 hown hK hP 6 rfl rfl 14 (by decide) (hN.use nw_63) (fun _ h9 => h9) rfl dX7_swept_4 ?_
  rw [(h5b_2 (by simp [hb0]))]
  exact W.iret (v := 0) hx hb hr (fun t ht hW => ⟨⟨0, (XW ad cI cJ 0 b_2 F_3 G_4 ++ R), rfl, ⟨rfl, _, _, _, _, rfl⟩, ⟨by rw [ht]; exact hP, va_K.moved hW.alike hK, hD⟩⟩, hS.F ht⟩) hS.2.2 dX7_swept_7
set_option maxHeartbeats 4000000 in
set_option maxRecDepth 100000 in
theorem p_meanLength (l : Launch) (D : va_G) (cI cJ cZ : ClassId) (ad : Nat → Nat) (b : Nat → Int32) (F : Nat → Nat → Int32) (G : Nat → Nat → Int64) (R : va_W) (hb0 : ∀ k, b k = 0) : CT l D (TY cI cJ cZ) yX7_meanLength (.code yX7_meanLength cX7_meanLength 1 (some Jvm.ClassFile.FieldType.double)) 6 0 0 (XW ad cI cJ 0 b F G ++ R) [.ref (ad 0)] (QD D (TY cI cJ cZ) (fun r u => r = FP.dconst0 ∧ ∃ n' b' F' G', u = XW ad cI cJ n' b' F' G' ++ R)) := by
  refine ent (by decide) (Nat.le_of_ble_eq_true rfl) ?_
  intro p e s m below meth c ls A hx hb hr hg hown hml hlocks hnm hP hK hD hS hA hN hl
  have hl : lv_has ls 1 [(0, .ref (ad 0))] := hl
  refine lv_aload_n hx hb dX7_meanLength_0 rfl (lv_at hl 0 rfl) ?_
  refine kR (rV (q0 := 0) (ci := 7) hx hb hml hown hg hN hK hP hD (c_freshPicture l D cI cJ cZ ad b F G R) mw_225 mw_226 mw_227 mw_228 mw_110 pdv_X7_freshPicture ⟨Nat.le_of_ble_eq_true rfl, Nat.le_of_ble_eq_true rfl⟩ rfl rfl rfl hl.1 rfl (Nat.le_of_ble_eq_true rfl) dX7_meanLength_1 ⟨Nat.le_of_ble_eq_true rfl, Nat.le_of_ble_eq_true rfl⟩) hD hS hA (fun r_1 u_1 H locs hp hP hD hS => ?_)
  obtain ⟨rfl, b_2, F_3, G_4, rfl, h5b_2, h6b_2, hb_2⟩ := hp
  refine kD (rV (q0 := 6) (ci := 3) hx hb hml hown hg hN hK hP hD (c_meanSpan l D cI cJ cZ ad b_2 F_3 G_4 R) mw_266 mw_267 mw_268 mw_269 mw_179 pdv_X3_meanSpan ⟨Nat.le_of_ble_eq_true rfl, Nat.le_of_ble_eq_true rfl⟩ rfl rfl rfl hl.1 rfl (Nat.le_of_ble_eq_true rfl) dX7_meanLength_4 ⟨Nat.le_of_ble_eq_true rfl, Nat.le_of_ble_eq_true rfl⟩) hD hS hA (fun r_5 u_5 H locs hp hP hD hS => ?_)
  obtain ⟨rfl, rfl⟩ := hp
  exact W.dret (v := FP.dconst0) hx hb hr (fun t ht hW => ⟨⟨FP.dconst0, (XW ad cI cJ 0 b_2 F_3 G_4 ++ R), rfl, ⟨rfl, _, _, _, _, rfl⟩, ⟨by rw [ht]; exact hP, va_K.moved hW.alike hK, hD⟩⟩, hS.F ht⟩) hS.2.2 dX7_meanLength_7
set_option maxHeartbeats 4000000 in
set_option maxRecDepth 100000 in
theorem p_digest (l : Launch) (D : va_G) (cI cJ cZ : ClassId) (ad : Nat → Nat) (b : Nat → Int32) (F : Nat → Nat → Int32) (G : Nat → Nat → Int64) (R : va_W) (hb0 : ∀ k, b k = 0) : CT l D (TY cI cJ cZ) yX7_digest (.code yX7_digest cX7_digest 3 (some Jvm.ClassFile.FieldType.long)) 6 0 0 (XW ad cI cJ 0 b F G ++ R) [.ref (ad 0)] (QL D (TY cI cJ cZ) (fun r u => r = (-6562806086967277532) ∧ ∃ n' b' F' G', u = XW ad cI cJ n' b' F' G' ++ R)) := by
  refine ent (by decide) (Nat.le_of_ble_eq_true rfl) ?_
  intro p e s m below meth c ls A hx hb hr hg hown hml hlocks hnm hP hK hD hS hA hN hl
  have hl : lv_has ls 3 [(0, .ref (ad 0))] := hl
  refine lv_aload_n hx hb dX7_digest_0 rfl (lv_at hl 0 rfl) ?_
  refine kR (rV (q0 := 0) (ci := 7) hx hb hml hown hg hN hK hP hD (c_freshRanks l D cI cJ cZ ad b F G R (by first | assumption | exact hb0 2 | simp_all)) mw_253 mw_254 mw_255 mw_256 mw_110 pdv_X7_freshRanks ⟨Nat.le_of_ble_eq_true rfl, Nat.le_of_ble_eq_true rfl⟩ rfl rfl rfl hl.1 rfl (Nat.le_of_ble_eq_true rfl) dX7_digest_1 ⟨Nat.le_of_ble_eq_true rfl, Nat.le_of_ble_eq_true rfl⟩) hD hS hA (fun r_1 u_1 H locs hp hP hD hS => ?_)
  obtain ⟨rfl, b_2, F_3, G_4, rfl, h1b_2, hb_2⟩ := hp
  refine lv_pop hx hb dX7_digest_4 rfl ?_
  refine lv_aload_n hx hb dX7_digest_5 rfl (lv_at hl 0 rfl) ?_
  refine kR (rV (q0 := 0) (ci := 7) hx hb hml hown hg hN hK hP hD (c_freshLives l D cI cJ cZ ad b_2 F_3 G_4 R) mw_257 mw_258 mw_259 mw_260 mw_110 pdv_X7_freshLives ⟨Nat.le_of_ble_eq_true rfl, Nat.le_of_ble_eq_true rfl⟩ rfl rfl rfl hl.1 rfl (Nat.le_of_ble_eq_true rfl) dX7_digest_6 ⟨Nat.le_of_ble_eq_true rfl, Nat.le_of_ble_eq_true rfl⟩) hD hS hA (fun r_5 u_5 H locs hp hP hD hS => ?_)
  obtain ⟨rfl, b_6, F_7, G_8, rfl, hb_6⟩ := hp
  refine lv_pop hx hb dX7_digest_9 rfl ?_
  refine lv_aload_n hx hb dX7_digest_10 rfl (lv_at hl 0 rfl) ?_
  refine kR (rV (q0 := 0) (ci := 7) hx hb hml hown hg hN hK hP hD (c_freshReduction l D cI cJ cZ ad b_6 F_7 G_8 R) mw_221 mw_222 mw_223 mw_224 mw_110 pdv_X7_freshReduction ⟨Nat.le_of_ble_eq_true rfl, Nat.le_of_ble_eq_true rfl⟩ rfl rfl rfl hl.1 rfl (Nat.le_of_ble_eq_true rfl) dX7_digest_11 ⟨Nat.le_of_ble_eq_true rfl, Nat.le_of_ble_eq_true rfl⟩) hD hS hA (fun r_9 u_9 H locs hp hP hD hS => ?_)
  obtain ⟨rfl, b_10, F_11, G_12, rfl, hb_10⟩ := hp
  refine lv_pop hx hb dX7_digest_14 rfl ?_
  refine lv_aload_n hx hb dX7_digest_15 rfl (lv_at hl 0 rfl) ?_
  refine kR (rV (q0 := 0) (ci := 7) hx hb hml hown hg hN hK hP hD (c_freshPicture l D cI cJ cZ ad b_10 F_11 G_12 R) mw_225 mw_226 mw_227 mw_228 mw_110 pdv_X7_freshPicture ⟨Nat.le_of_ble_eq_true rfl, Nat.le_of_ble_eq_true rfl⟩ rfl rfl rfl hl.1 rfl (Nat.le_of_ble_eq_true rfl) dX7_digest_16 ⟨Nat.le_of_ble_eq_true rfl, Nat.le_of_ble_eq_true rfl⟩) hD hS hA (fun r_13 u_13 H locs hp hP hD hS => ?_)
  obtain ⟨rfl, b_14, F_15, G_16, rfl, h5b_14, h6b_14, hb_14⟩ := hp
  refine lv_pop hx hb dX7_digest_19 rfl ?_
  refine lv_aload_n hx hb dX7_digest_20 rfl (lv_at hl 0 rfl) ?_
  refine lv_ldc2 (v := 2557) hx hb hown (hg _ mw_270) dX7_digest_21 ?_
  refine kL (rV (q0 := 0) (ci := 7) hx hb hml hown hg hN hK hP hD (c_dCode l D cI cJ cZ ad b_14 F_15 G_16 R (2557)) mw_271 mw_272 mw_273 mw_274 mw_110 pdv_X7_digestOfCode ⟨Nat.le_of_ble_eq_true rfl, Nat.le_of_ble_eq_true rfl⟩ rfl rfl rfl hl.1 rfl (Nat.le_of_ble_eq_true rfl) dX7_digest_24 ⟨Nat.le_of_ble_eq_true rfl, Nat.le_of_ble_eq_true rfl⟩) hD hS hA (fun r_17 u_17 H locs hp hP hD hS => ?_)
  obtain ⟨hm, rfl⟩ := hp
  obtain rfl : r_17 = 79267 := hm.trans (by decide)
  refine lv_lstore_n (lv' := [(1, .long 79267), (0, .ref (ad 0))]) hx hb dX7_digest_27 rfl hl (by decide) rfl (fun ls hl => ?_)
  refine lv_aload_n hx hb dX7_digest_28 rfl (lv_at hl 1 rfl) ?_
  refine lv_lload_n hx hb dX7_digest_29 rfl (lv_at hl 0 rfl) ?_
  refine kL (rV (q0 := 0) (ci := 7) hx hb hml hown hg hN hK hP hD (c_dBlocks l D cI cJ cZ ad b_14 F_15 G_16 R (79267)) mw_275 mw_276 mw_277 mw_278 mw_110 pdv_X7_digestOfBlocks ⟨Nat.le_of_ble_eq_true rfl, Nat.le_of_ble_eq_true rfl⟩ rfl rfl rfl hl.1 rfl (Nat.le_of_ble_eq_true rfl) dX7_digest_30 ⟨Nat.le_of_ble_eq_true rfl, Nat.le_of_ble_eq_true rfl⟩) hD hS hA (fun r_18 u_18 H locs hp hP hD hS => ?_)
  obtain ⟨hm, rfl⟩ := hp
  obtain rfl : r_18 = 2457277 := hm.trans (by decide)
  refine lv_lstore_n (lv' := [(1, .long 2457277), (0, .ref (ad 0))]) hx hb dX7_digest_33 rfl hl (by decide) rfl (fun ls hl => ?_)
  refine lv_aload_n hx hb dX7_digest_34 rfl (lv_at hl 1 rfl) ?_
  refine lv_lload_n hx hb dX7_digest_35 rfl (lv_at hl 0 rfl) ?_
  refine kL (rV (q0 := 0) (ci := 7) hx hb hml hown hg hN hK hP hD (c_dEdges l D cI cJ cZ ad b_14 F_15 G_16 R (2457277)) mw_279 mw_280 mw_281 mw_282 mw_110 pdv_X7_digestOfEdges ⟨Nat.le_of_ble_eq_true rfl, Nat.le_of_ble_eq_true rfl⟩ rfl rfl rfl hl.1 rfl (Nat.le_of_ble_eq_true rfl) dX7_digest_36 ⟨Nat.le_of_ble_eq_true rfl, Nat.le_of_ble_eq_true rfl⟩) hD hS hA (fun r_19 u_19 H locs hp hP hD hS => ?_)
  obtain ⟨hm, rfl⟩ := hp
  obtain rfl : r_19 = 76175587 := hm.trans (by decide)
  refine lv_lstore_n (lv' := [(1, .long 76175587), (0, .ref (ad 0))]) hx hb dX7_digest_39 rfl hl (by decide) rfl (fun ls hl => ?_)
  refine lv_lload_n hx hb dX7_digest_40 rfl (lv_at hl 0 rfl) ?_
  refine lv_aload_n hx hb dX7_digest_41 rfl (lv_at hl 1 rfl) ?_
  refine va_get (D := D) (ci := 7) (v := .ref (ad 3)) (C := RX7) (T := TX7) (N := 6) hx hb hg inGX7 hown hK hP 0 rfl rfl 2 (by decide) (hg _ mw_133) (fun _ h9 => h9) rfl dX7_digest_42 ?_
  refine va_getN (D := D) (ci := 4) (v := .int 0) (C := RX4) (T := TX4) (N := 7) hx hb hg inGX4 hown hK hP 3 rfl rfl 4 (by decide) (hN.use nw_39) (fun _ h9 => h9) rfl dX7_digest_45 ?_
  refine kL (rS hx hb hml hown hg hN hK hP hD (c_mix l D cI cJ cZ (XW ad cI cJ 0 b_14 F_15 G_16 ++ R) 76175587 0) mw_243 mw_244 mw_245 mw_110 pd_X7_mix ⟨Nat.le_of_ble_eq_true rfl, Nat.le_of_ble_eq_true rfl⟩ rfl hl.1 rfl (Nat.le_of_ble_eq_true rfl) dX7_digest_48 ⟨Nat.le_of_ble_eq_true rfl, Nat.le_of_ble_eq_true rfl⟩) hD hS hA (fun r_20 u_20 H locs hp hP hD hS => ?_)
  obtain ⟨hm, rfl⟩ := hp
  obtain rfl : r_20 = 2361443197 := hm.trans (by decide)
  refine lv_lstore_n (lv' := [(1, .long 2361443197), (0, .ref (ad 0))]) hx hb dX7_digest_51 rfl hl (by decide) rfl (fun ls hl => ?_)
  refine lv_lload_n hx hb dX7_digest_52 rfl (lv_at hl 0 rfl) ?_
  refine lv_aload_n hx hb dX7_digest_53 rfl (lv_at hl 1 rfl) ?_
  refine va_get (D := D) (ci := 7) (v := .ref (ad 3)) (C := RX7) (T := TX7) (N := 6) hx hb hg inGX7 hown hK hP 0 rfl rfl 2 (by decide) (hg _ mw_133) (fun _ h9 => h9) rfl dX7_digest_54 ?_
  refine va_getN (D := D) (ci := 4) (v := .int (b_14 1)) (C := RX4) (T := TX4) (N := 7) hx hb hg inGX4 hown hK hP 3 rfl rfl 5 (by decide) (hN.use nw_40) (fun _ h9 => h9) rfl dX7_digest_57 ?_
  rw [((hb_14 1 (by decide) (by decide) (by decide)).trans ((hb_10 1 (by decide) (by decide)).trans ((hb_6 1 (by decide) (by decide)).trans h1b_2)))]
  refine kL (rS hx hb hml hown hg hN hK hP hD (c_mixZ1 l D cI cJ cZ (XW ad cI cJ 0 b_14 F_15 G_16 ++ R) 2361443197) mw_250 mw_251 mw_252 mw_110 pd_X7_mix_ ⟨Nat.le_of_ble_eq_true rfl, Nat.le_of_ble_eq_true rfl⟩ rfl hl.1 rfl (Nat.le_of_ble_eq_true rfl) dX7_digest_60 ⟨Nat.le_of_ble_eq_true rfl, Nat.le_of_ble_eq_true rfl⟩) hD hS hA (fun r_21 u_21 H locs hp hP hD hS => ?_)
  obtain ⟨hm, rfl⟩ := hp
  obtain rfl : r_21 = 73204739108 := hm.trans (by decide)
  refine lv_lstore_n (lv' := [(1, .long 73204739108), (0, .ref (ad 0))]) hx hb dX7_digest_63 rfl hl (by decide) rfl (fun ls hl => ?_)
  refine lv_lload_n hx hb dX7_digest_64 rfl (lv_at hl 0 rfl) ?_
  refine lv_aload_n hx hb dX7_digest_65 rfl (lv_at hl 1 rfl) ?_
  refine va_get (D := D) (ci := 7) (v := .ref (ad 4)) (C := RX7) (T := TX7) (N := 6) hx hb hg inGX7 hown hK hP 0 rfl rfl 3 (by decide) (hg _ mw_204) (fun _ h9 => h9) rfl dX7_digest_66 ?_
  refine va_getN (D := D) (ci := 2) (v := .int 0) (C := RX2) (T := TX2) (N := 3) hx hb hg inGX2 hown hK hP 4 rfl rfl 1 (by decide) (hN.use nw_44) (fun _ h9 => h9) rfl dX7_digest_69 ?_
  refine kL (rS hx hb hml hown hg hN hK hP hD (c_mix l D cI cJ cZ (XW ad cI cJ 0 b_14 F_15 G_16 ++ R) 73204739108 0) mw_243 mw_244 mw_245 mw_110 pd_X7_mix ⟨Nat.le_of_ble_eq_true rfl, Nat.le_of_ble_eq_true rfl⟩ rfl hl.1 rfl (Nat.le_of_ble_eq_true rfl) dX7_digest_72 ⟨Nat.le_of_ble_eq_true rfl, Nat.le_of_ble_eq_true rfl⟩) hD hS hA (fun r_22 u_22 H locs hp hP hD hS => ?_)
  obtain ⟨hm, rfl⟩ := hp
  obtain rfl : r_22 = 2269346912348 := hm.trans (by decide)
  refine lv_lstore_n (lv' := [(1, .long 2269346912348), (0, .ref (ad 0))]) hx hb dX7_digest_75 rfl hl (by decide) rfl (fun ls hl => ?_)
  refine lv_lload_n hx hb dX7_digest_76 rfl (lv_at hl 0 rfl) ?_
  refine lv_aload_n hx hb dX7_digest_77 rfl (lv_at hl 1 rfl) ?_
  refine va_get (D := D) (ci := 7) (v := .ref (ad 2)) (C := RX7) (T := TX7) (N := 6) hx hb hg inGX7 hown hK hP 0 rfl rfl 1 (by decide) (hg _ mw_112) (fun _ h9 => h9) rfl dX7_digest_78 ?_
  refine kI (rV (q0 := 2) (ci := 1) hx hb hml hown hg hN hK hP hD (c_countWindings l D cI cJ cZ ad b_14 F_15 G_16 R) mw_261 mw_262 mw_263 mw_264 mw_101 pdv_X1_countWindings ⟨Nat.le_of_ble_eq_true rfl, Nat.le_of_ble_eq_true rfl⟩ rfl rfl rfl hl.1 rfl (Nat.le_of_ble_eq_true rfl) dX7_digest_81 ⟨Nat.le_of_ble_eq_true rfl, Nat.le_of_ble_eq_true rfl⟩) hD hS hA (fun r_23 u_23 H locs hp hP hD hS => ?_)
  obtain ⟨rfl, rfl⟩ := hp
  refine kL (rS hx hb hml hown hg hN hK hP hD (c_mix l D cI cJ cZ (XW ad cI cJ 0 b_14 F_15 G_16 ++ R) 2269346912348 0) mw_243 mw_244 mw_245 mw_110 pd_X7_mix ⟨Nat.le_of_ble_eq_true rfl, Nat.le_of_ble_eq_true rfl⟩ rfl hl.1 rfl (Nat.le_of_ble_eq_true rfl) dX7_digest_84 ⟨Nat.le_of_ble_eq_true rfl, Nat.le_of_ble_eq_true rfl⟩) hD hS hA (fun r_24 u_24 H locs hp hP hD hS => ?_)
  obtain ⟨hm, rfl⟩ := hp
  obtain rfl : r_24 = 70349754282788 := hm.trans (by decide)
  refine lv_lstore_n (lv' := [(1, .long 70349754282788), (0, .ref (ad 0))]) hx hb dX7_digest_87 rfl hl (by decide) rfl (fun ls hl => ?_)
  refine lv_aload_n hx hb dX7_digest_88 rfl (lv_at hl 1 rfl) ?_
  refine lv_lload_n hx hb dX7_digest_89 rfl (lv_at hl 0 rfl) ?_
  refine kL (rV (q0 := 0) (ci := 7) hx hb hml hown hg hN hK hP hD (c_dSteps l D cI cJ cZ ad b_14 F_15 G_16 R (70349754282788)) mw_283 mw_284 mw_285 mw_286 mw_110 pdv_X7_digestOfSteps ⟨Nat.le_of_ble_eq_true rfl, Nat.le_of_ble_eq_true rfl⟩ rfl rfl rfl hl.1 rfl (Nat.le_of_ble_eq_true rfl) dX7_digest_90 ⟨Nat.le_of_ble_eq_true rfl, Nat.le_of_ble_eq_true rfl⟩) hD hS hA (fun r_25 u_25 H locs hp hP hD hS => ?_)
  obtain ⟨hm, rfl⟩ := hp
  obtain rfl : r_25 = 2095789529838537308 := hm.trans (by decide)
  refine lv_lstore_n (lv' := [(1, .long 2095789529838537308), (0, .ref (ad 0))]) hx hb dX7_digest_93 rfl hl (by decide) rfl (fun ls hl => ?_)
  refine lv_aload_n hx hb dX7_digest_94 rfl (lv_at hl 1 rfl) ?_
  refine lv_lload_n hx hb dX7_digest_95 rfl (lv_at hl 0 rfl) ?_
  refine kL (rV (q0 := 0) (ci := 7) hx hb hml hown hg hN hK hP hD (c_dLayers l D cI cJ cZ ad b_14 F_15 G_16 R (2095789529838537308)) mw_287 mw_288 mw_289 mw_290 mw_110 pdv_X7_digestOfLayers ⟨Nat.le_of_ble_eq_true rfl, Nat.le_of_ble_eq_true rfl⟩ rfl rfl rfl hl.1 rfl (Nat.le_of_ble_eq_true rfl) dX7_digest_96 ⟨Nat.le_of_ble_eq_true rfl, Nat.le_of_ble_eq_true rfl⟩) hD hS hA (fun r_26 u_26 H locs hp hP hD hS => ?_)
  obtain ⟨hm, rfl⟩ := hp
  obtain rfl : r_26 = (-8817500869843549916) := hm.trans (by decide)
  refine lv_lstore_n (lv' := [(1, .long (-8817500869843549916)), (0, .ref (ad 0))]) hx hb dX7_digest_99 rfl hl (by decide) rfl (fun ls hl => ?_)
  refine lv_lload_n hx hb dX7_digest_100 rfl (lv_at hl 0 rfl) ?_
  refine lv_aload_n hx hb dX7_digest_101 rfl (lv_at hl 1 rfl) ?_
  refine va_get (D := D) (ci := 7) (v := .ref (ad 6)) (C := RX7) (T := TX7) (N := 6) hx hb hg inGX7 hown hK hP 0 rfl rfl 5 (by decide) (hg _ mw_214) (fun _ h9 => h9) rfl dX7_digest_102 ?_
  refine kI (rV (q0 := 6) (ci := 3) hx hb hml hown hg hN hK hP hD (c_countCrossings l D cI cJ cZ ad b_14 F_15 G_16 R) mw_239 mw_265 mw_241 mw_242 mw_179 pdv_X3_countCrossings ⟨Nat.le_of_ble_eq_true rfl, Nat.le_of_ble_eq_true rfl⟩ rfl rfl rfl hl.1 rfl (Nat.le_of_ble_eq_true rfl) dX7_digest_105 ⟨Nat.le_of_ble_eq_true rfl, Nat.le_of_ble_eq_true rfl⟩) hD hS hA (fun r_27 u_27 H locs hp hP hD hS => ?_)
  obtain ⟨rfl, rfl⟩ := hp
  refine kL (rS hx hb hml hown hg hN hK hP hD (c_mix l D cI cJ cZ (XW ad cI cJ 0 b_14 F_15 G_16 ++ R) (-8817500869843549916) 0) mw_243 mw_244 mw_245 mw_110 pd_X7_mix ⟨Nat.le_of_ble_eq_true rfl, Nat.le_of_ble_eq_true rfl⟩ rfl hl.1 rfl (Nat.le_of_ble_eq_true rfl) dX7_digest_108 ⟨Nat.le_of_ble_eq_true rfl, Nat.le_of_ble_eq_true rfl⟩) hD hS hA (fun r_28 u_28 H locs hp hP hD hS => ?_)
  obtain ⟨hm, rfl⟩ := hp
  obtain rfl : r_28 = 3358634140493226844 := hm.trans (by decide)
  refine lv_lstore_n (lv' := [(1, .long 3358634140493226844), (0, .ref (ad 0))]) hx hb dX7_digest_111 rfl hl (by decide) rfl (fun ls hl => ?_)
  refine lv_lload_n hx hb dX7_digest_112 rfl (lv_at hl 0 rfl) ?_
  refine lv_aload_n hx hb dX7_digest_113 rfl (lv_at hl 1 rfl) ?_
  refine va_get (D := D) (ci := 7) (v := .ref (ad 6)) (C := RX7) (T := TX7) (N := 6) hx hb hg inGX7 hown hK hP 0 rfl rfl 5 (by decide) (hg _ mw_214) (fun _ h9 => h9) rfl dX7_digest_114 ?_
  refine va_getN (D := D) (ci := 3) (v := .int (b_14 5)) (C := RX3) (T := TX3) (N := 16) hx hb hg inGX3 hown hK hP 6 rfl rfl 14 (by decide) (hN.use nw_63) (fun _ h9 => h9) rfl dX7_digest_117 ?_
  rw [(h5b_14 (by simp [hb_2, hb_6, hb_10, hb0]))]
  refine kL (rS hx hb hml hown hg hN hK hP hD (c_mix l D cI cJ cZ (XW ad cI cJ 0 b_14 F_15 G_16 ++ R) 3358634140493226844 0) mw_243 mw_244 mw_245 mw_110 pd_X7_mix ⟨Nat.le_of_ble_eq_true rfl, Nat.le_of_ble_eq_true rfl⟩ rfl hl.1 rfl (Nat.le_of_ble_eq_true rfl) dX7_digest_120 ⟨Nat.le_of_ble_eq_true rfl, Nat.le_of_ble_eq_true rfl⟩) hD hS hA (fun r_29 u_29 H locs hp hP hD hS => ?_)
  obtain ⟨hm, rfl⟩ := hp
  obtain rfl : r_29 = (-6562806086967277532) := hm.trans (by decide)
  exact W.lret (v := (-6562806086967277532)) hx hb hr (fun t ht hW => ⟨⟨(-6562806086967277532), (XW ad cI cJ 0 b_14 F_15 G_16 ++ R), rfl, ⟨rfl, _, _, _, _, rfl⟩, ⟨by rw [ht]; exact hP, va_K.moved hW.alike hK, hD⟩⟩, hS.F ht⟩) hS.2.2 dX7_digest_123
set_option maxHeartbeats 4000000 in
set_option maxRecDepth 100000 in
theorem p_remove (l : Launch) (hfl : l.stackTraces = false) (D : va_G) (cI cJ cZ : ClassId) (ad : Nat → Nat) (b : Nat → Int32) (F : Nat → Nat → Int32) (G : Nat → Nat → Int64) (R : va_W) (k : Int32) : CX l D (TY cI cJ cZ) yX7_remove (.code yX7_remove cX7_remove 2 (some Jvm.ClassFile.FieldType.int)) 7 1 6 (XW ad cI cJ 0 b F G ++ R) [.ref (ad 0), .int k] (QI D (TY cI cJ cZ) (fun r u => False)) EIOB (True) := by
  refine entX (by decide) (Nat.le_of_ble_eq_true rfl) ?_
  intro p e s m below meth c ls A hx hb hr hg hown hml hlocks hnm hP hK hD hS hA hN hl hE hST hSR hAw
  have hl : lv_has ls 2 [(0, .ref (ad 0)), (1, .int k)] := hl
  refine lv_aload_n hx hb dX7_remove_0 rfl (lv_at hl 0 rfl) ?_
  refine lv_iload_n hx hb dX7_remove_1 rfl (lv_at hl 1 rfl) ?_
  refine kXV (rXV (q0 := 0) (ci := 7) hx hb hml hown hg hN hK hP hD hST hSR hS hA (c_needInstruction l hfl D cI cJ cZ ad b F G R k) mw_291 mw_292 mw_293 mw_294 mw_110 pdv_X7_needInstruction ⟨Nat.le_of_ble_eq_true rfl, Nat.le_of_ble_eq_true rfl⟩ rfl rfl rfl hl.1 rfl (Nat.le_of_ble_eq_true rfl) dX7_remove_2 ⟨Nat.le_of_ble_eq_true rfl, Nat.le_of_ble_eq_true rfl⟩) hD hS hA (fun ce q9 H locs hpx hz9 hk9 hS h1 h2 h3 => xout trivial hE hlocks hS h1 h2 h3 (Nat.le_of_ble_eq_true rfl) (Nat.le_of_ble_eq_true rfl)) (fun u_1 H locs hp hP hD hS => ?_)
  exact hp.elim
set_option maxHeartbeats 4000000 in
set_option maxRecDepth 100000 in
theorem p_kindOf (l : Launch) (hfl : l.stackTraces = false) (D : va_G) (cI cJ cZ : ClassId) (ad : Nat → Nat) (b : Nat → Int32) (F : Nat → Nat → Int32) (G : Nat → Nat → Int64) (R : va_W) (k : Int32) : CX l D (TY cI cJ cZ) yX7_kindOf (.code yX7_kindOf cX7_kindOf 2 (some Jvm.ClassFile.FieldType.int)) 7 1 6 (XW ad cI cJ 0 b F G ++ R) [.ref (ad 0), .int k] (QI D (TY cI cJ cZ) (fun r u => False)) EIOB (True) := by
  refine entX (by decide) (Nat.le_of_ble_eq_true rfl) ?_
  intro p e s m below meth c ls A hx hb hr hg hown hml hlocks hnm hP hK hD hS hA hN hl hE hST hSR hAw
  have hl : lv_has ls 2 [(0, .ref (ad 0)), (1, .int k)] := hl
  refine lv_aload_n hx hb dX7_kindOf_0 rfl (lv_at hl 0 rfl) ?_
  refine lv_iload_n hx hb dX7_kindOf_1 rfl (lv_at hl 1 rfl) ?_
  refine kXV (rXV (q0 := 0) (ci := 7) hx hb hml hown hg hN hK hP hD hST hSR hS hA (c_needInstruction l hfl D cI cJ cZ ad b F G R k) mw_291 mw_292 mw_293 mw_294 mw_110 pdv_X7_needInstruction ⟨Nat.le_of_ble_eq_true rfl, Nat.le_of_ble_eq_true rfl⟩ rfl rfl rfl hl.1 rfl (Nat.le_of_ble_eq_true rfl) dX7_kindOf_2 ⟨Nat.le_of_ble_eq_true rfl, Nat.le_of_ble_eq_true rfl⟩) hD hS hA (fun ce q9 H locs hpx hz9 hk9 hS h1 h2 h3 => xout trivial hE hlocks hS h1 h2 h3 (Nat.le_of_ble_eq_true rfl) (Nat.le_of_ble_eq_true rfl)) (fun u_1 H locs hp hP hD hS => ?_)
  exact hp.elim
set_option maxHeartbeats 4000000 in
set_option maxRecDepth 100000 in
theorem p_targetOf (l : Launch) (hfl : l.stackTraces = false) (D : va_G) (cI cJ cZ : ClassId) (ad : Nat → Nat) (b : Nat → Int32) (F : Nat → Nat → Int32) (G : Nat → Nat → Int64) (R : va_W) (k : Int32) : CX l D (TY cI cJ cZ) yX7_targetOf (.code yX7_targetOf cX7_targetOf 2 (some Jvm.ClassFile.FieldType.int)) 7 1 6 (XW ad cI cJ 0 b F G ++ R) [.ref (ad 0), .int k] (QI D (TY cI cJ cZ) (fun r u => False)) EIOB (True) := by
  refine entX (by decide) (Nat.le_of_ble_eq_true rfl) ?_
  intro p e s m below meth c ls A hx hb hr hg hown hml hlocks hnm hP hK hD hS hA hN hl hE hST hSR hAw
  have hl : lv_has ls 2 [(0, .ref (ad 0)), (1, .int k)] := hl
  refine lv_aload_n hx hb dX7_targetOf_0 rfl (lv_at hl 0 rfl) ?_
  refine lv_iload_n hx hb dX7_targetOf_1 rfl (lv_at hl 1 rfl) ?_
  refine kXV (rXV (q0 := 0) (ci := 7) hx hb hml hown hg hN hK hP hD hST hSR hS hA (c_needInstruction l hfl D cI cJ cZ ad b F G R k) mw_291 mw_292 mw_293 mw_294 mw_110 pdv_X7_needInstruction ⟨Nat.le_of_ble_eq_true rfl, Nat.le_of_ble_eq_true rfl⟩ rfl rfl rfl hl.1 rfl (Nat.le_of_ble_eq_true rfl) dX7_targetOf_2 ⟨Nat.le_of_ble_eq_true rfl, Nat.le_of_ble_eq_true rfl⟩) hD hS hA (fun ce q9 H locs hpx hz9 hk9 hS h1 h2 h3 => xout trivial hE hlocks hS h1 h2 h3 (Nat.le_of_ble_eq_true rfl) (Nat.le_of_ble_eq_true rfl)) (fun u_1 H locs hp hP hD hS => ?_)
  exact hp.elim
set_option maxHeartbeats 4000000 in
set_option maxRecDepth 100000 in
theorem p_blockOf (l : Launch) (hfl : l.stackTraces = false) (D : va_G) (cI cJ cZ : ClassId) (ad : Nat → Nat) (b : Nat → Int32) (F : Nat → Nat → Int32) (G : Nat → Nat → Int64) (R : va_W) (k : Int32) : CX l D (TY cI cJ cZ) yX7_blockOf (.code yX7_blockOf cX7_blockOf 2 (some Jvm.ClassFile.FieldType.int)) 7 1 6 (XW ad cI cJ 0 b F G ++ R) [.ref (ad 0), .int k] (QI D (TY cI cJ cZ) (fun r u => False)) EIOB (True) := by
  refine entX (by decide) (Nat.le_of_ble_eq_true rfl) ?_
  intro p e s m below meth c ls A hx hb hr hg hown hml hlocks hnm hP hK hD hS hA hN hl hE hST hSR hAw
  have hl : lv_has ls 2 [(0, .ref (ad 0)), (1, .int k)] := hl
  refine lv_aload_n hx hb dX7_blockOf_0 rfl (lv_at hl 0 rfl) ?_
  refine lv_iload_n hx hb dX7_blockOf_1 rfl (lv_at hl 1 rfl) ?_
  refine kXV (rXV (q0 := 0) (ci := 7) hx hb hml hown hg hN hK hP hD hST hSR hS hA (c_needInstruction l hfl D cI cJ cZ ad b F G R k) mw_291 mw_292 mw_293 mw_294 mw_110 pdv_X7_needInstruction ⟨Nat.le_of_ble_eq_true rfl, Nat.le_of_ble_eq_true rfl⟩ rfl rfl rfl hl.1 rfl (Nat.le_of_ble_eq_true rfl) dX7_blockOf_2 ⟨Nat.le_of_ble_eq_true rfl, Nat.le_of_ble_eq_true rfl⟩) hD hS hA (fun ce q9 H locs hpx hz9 hk9 hS h1 h2 h3 => xout trivial hE hlocks hS h1 h2 h3 (Nat.le_of_ble_eq_true rfl) (Nat.le_of_ble_eq_true rfl)) (fun u_1 H locs hp hP hD hS => ?_)
  exact hp.elim
set_option maxHeartbeats 4000000 in
set_option maxRecDepth 100000 in
theorem p_firstOf (l : Launch) (hfl : l.stackTraces = false) (D : va_G) (cI cJ cZ : ClassId) (ad : Nat → Nat) (b : Nat → Int32) (F : Nat → Nat → Int32) (G : Nat → Nat → Int64) (R : va_W) (k : Int32) : CX l D (TY cI cJ cZ) yX7_firstOf (.code yX7_firstOf cX7_firstOf 2 (some Jvm.ClassFile.FieldType.int)) 7 1 6 (XW ad cI cJ 0 b F G ++ R) [.ref (ad 0), .int k] (QI D (TY cI cJ cZ) (fun r u => False)) EIOB (True) := by
  refine entX (by decide) (Nat.le_of_ble_eq_true rfl) ?_
  intro p e s m below meth c ls A hx hb hr hg hown hml hlocks hnm hP hK hD hS hA hN hl hE hST hSR hAw
  have hl : lv_has ls 2 [(0, .ref (ad 0)), (1, .int k)] := hl
  refine lv_aload_n hx hb dX7_firstOf_0 rfl (lv_at hl 0 rfl) ?_
  refine lv_iload_n hx hb dX7_firstOf_1 rfl (lv_at hl 1 rfl) ?_
  refine kXV (rXV (q0 := 0) (ci := 7) hx hb hml hown hg hN hK hP hD hST hSR hS hA (c_needBlock l hfl D cI cJ cZ ad b F G R k) mw_295 mw_296 mw_297 mw_298 mw_110 pdv_X7_needBlock ⟨Nat.le_of_ble_eq_true rfl, Nat.le_of_ble_eq_true rfl⟩ rfl rfl rfl hl.1 rfl (Nat.le_of_ble_eq_true rfl) dX7_firstOf_2 ⟨Nat.le_of_ble_eq_true rfl, Nat.le_of_ble_eq_true rfl⟩) hD hS hA (fun ce q9 H locs hpx hz9 hk9 hS h1 h2 h3 => xout trivial hE hlocks hS h1 h2 h3 (Nat.le_of_ble_eq_true rfl) (Nat.le_of_ble_eq_true rfl)) (fun u_1 H locs hp hP hD hS => ?_)
  exact hp.elim
set_option maxHeartbeats 4000000 in
set_option maxRecDepth 100000 in
theorem p_parentOf (l : Launch) (hfl : l.stackTraces = false) (D : va_G) (cI cJ cZ : ClassId) (ad : Nat → Nat) (b : Nat → Int32) (F : Nat → Nat → Int32) (G : Nat → Nat → Int64) (R : va_W) (k : Int32) : CX l D (TY cI cJ cZ) yX7_parentOf (.code yX7_parentOf cX7_parentOf 2 (some Jvm.ClassFile.FieldType.int)) 7 1 6 (XW ad cI cJ 0 b F G ++ R) [.ref (ad 0), .int k] (QI D (TY cI cJ cZ) (fun r u => False)) EIOB (True) := by
  refine entX (by decide) (Nat.le_of_ble_eq_true rfl) ?_
  intro p e s m below meth c ls A hx hb hr hg hown hml hlocks hnm hP hK hD hS hA hN hl hE hST hSR hAw
  have hl : lv_has ls 2 [(0, .ref (ad 0)), (1, .int k)] := hl
  refine lv_aload_n hx hb dX7_parentOf_0 rfl (lv_at hl 0 rfl) ?_
  refine lv_iload_n hx hb dX7_parentOf_1 rfl (lv_at hl 1 rfl) ?_
  refine kXV (rXV (q0 := 0) (ci := 7) hx hb hml hown hg hN hK hP hD hST hSR hS hA (c_needBlock l hfl D cI cJ cZ ad b F G R k) mw_295 mw_296 mw_297 mw_298 mw_110 pdv_X7_needBlock ⟨Nat.le_of_ble_eq_true rfl, Nat.le_of_ble_eq_true rfl⟩ rfl rfl rfl hl.1 rfl (Nat.le_of_ble_eq_true rfl) dX7_parentOf_2 ⟨Nat.le_of_ble_eq_true rfl, Nat.le_of_ble_eq_true rfl⟩) hD hS hA (fun ce q9 H locs hpx hz9 hk9 hS h1 h2 h3 => xout trivial hE hlocks hS h1 h2 h3 (Nat.le_of_ble_eq_true rfl) (Nat.le_of_ble_eq_true rfl)) (fun u_1 H locs hp hP hD hS => ?_)
  exact hp.elim
set_option maxHeartbeats 4000000 in
set_option maxRecDepth 100000 in
theorem p_loopSize (l : Launch) (hfl : l.stackTraces = false) (D : va_G) (cI cJ cZ : ClassId) (ad : Nat → Nat) (b : Nat → Int32) (F : Nat → Nat → Int32) (G : Nat → Nat → Int64) (R : va_W) (k : Int32) : CX l D (TY cI cJ cZ) yX7_loopSize (.code yX7_loopSize cX7_loopSize 2 (some Jvm.ClassFile.FieldType.int)) 7 1 6 (XW ad cI cJ 0 b F G ++ R) [.ref (ad 0), .int k] (QI D (TY cI cJ cZ) (fun r u => False)) EIOB (True) := by
  refine entX (by decide) (Nat.le_of_ble_eq_true rfl) ?_
  intro p e s m below meth c ls A hx hb hr hg hown hml hlocks hnm hP hK hD hS hA hN hl hE hST hSR hAw
  have hl : lv_has ls 2 [(0, .ref (ad 0)), (1, .int k)] := hl
  refine lv_aload_n hx hb dX7_loopSize_0 rfl (lv_at hl 0 rfl) ?_
  refine lv_iload_n hx hb dX7_loopSize_1 rfl (lv_at hl 1 rfl) ?_
  refine kXV (rXV (q0 := 0) (ci := 7) hx hb hml hown hg hN hK hP hD hST hSR hS hA (c_needBlock l hfl D cI cJ cZ ad b F G R k) mw_295 mw_296 mw_297 mw_298 mw_110 pdv_X7_needBlock ⟨Nat.le_of_ble_eq_true rfl, Nat.le_of_ble_eq_true rfl⟩ rfl rfl rfl hl.1 rfl (Nat.le_of_ble_eq_true rfl) dX7_loopSize_2 ⟨Nat.le_of_ble_eq_true rfl, Nat.le_of_ble_eq_true rfl⟩) hD hS hA (fun ce q9 H locs hpx hz9 hk9 hS h1 h2 h3 => xout trivial hE hlocks hS h1 h2 h3 (Nat.le_of_ble_eq_true rfl) (Nat.le_of_ble_eq_true rfl)) (fun u_1 H locs hp hP hD hS => ?_)
  exact hp.elim
set_option maxHeartbeats 4000000 in
set_option maxRecDepth 100000 in
theorem p_depthOf (l : Launch) (hfl : l.stackTraces = false) (D : va_G) (cI cJ cZ : ClassId) (ad : Nat → Nat) (b : Nat → Int32) (F : Nat → Nat → Int32) (G : Nat → Nat → Int64) (R : va_W) (k : Int32) : CX l D (TY cI cJ cZ) yX7_depthOf (.code yX7_depthOf cX7_depthOf 2 (some Jvm.ClassFile.FieldType.int)) 7 1 6 (XW ad cI cJ 0 b F G ++ R) [.ref (ad 0), .int k] (QI D (TY cI cJ cZ) (fun r u => False)) EIOB (True) := by
  refine entX (by decide) (Nat.le_of_ble_eq_true rfl) ?_
  intro p e s m below meth c ls A hx hb hr hg hown hml hlocks hnm hP hK hD hS hA hN hl hE hST hSR hAw
  have hl : lv_has ls 2 [(0, .ref (ad 0)), (1, .int k)] := hl
  refine lv_aload_n hx hb dX7_depthOf_0 rfl (lv_at hl 0 rfl) ?_
  refine lv_iload_n hx hb dX7_depthOf_1 rfl (lv_at hl 1 rfl) ?_
  refine kXV (rXV (q0 := 0) (ci := 7) hx hb hml hown hg hN hK hP hD hST hSR hS hA (c_needBlock l hfl D cI cJ cZ ad b F G R k) mw_295 mw_296 mw_297 mw_298 mw_110 pdv_X7_needBlock ⟨Nat.le_of_ble_eq_true rfl, Nat.le_of_ble_eq_true rfl⟩ rfl rfl rfl hl.1 rfl (Nat.le_of_ble_eq_true rfl) dX7_depthOf_2 ⟨Nat.le_of_ble_eq_true rfl, Nat.le_of_ble_eq_true rfl⟩) hD hS hA (fun ce q9 H locs hpx hz9 hk9 hS h1 h2 h3 => xout trivial hE hlocks hS h1 h2 h3 (Nat.le_of_ble_eq_true rfl) (Nat.le_of_ble_eq_true rfl)) (fun u_1 H locs hp hP hD hS => ?_)
  exact hp.elim
set_option maxHeartbeats 4000000 in
set_option maxRecDepth 100000 in
theorem p_liveIn (l : Launch) (hfl : l.stackTraces = false) (D : va_G) (cI cJ cZ : ClassId) (ad : Nat → Nat) (b : Nat → Int32) (F : Nat → Nat → Int32) (G : Nat → Nat → Int64) (R : va_W) (k : Int32) : CX l D (TY cI cJ cZ) yX7_liveIn (.code yX7_liveIn cX7_liveIn 2 (some Jvm.ClassFile.FieldType.int)) 7 1 6 (XW ad cI cJ 0 b F G ++ R) [.ref (ad 0), .int k] (QI D (TY cI cJ cZ) (fun r u => False)) EIOB (True) := by
  refine entX (by decide) (Nat.le_of_ble_eq_true rfl) ?_
  intro p e s m below meth c ls A hx hb hr hg hown hml hlocks hnm hP hK hD hS hA hN hl hE hST hSR hAw
  have hl : lv_has ls 2 [(0, .ref (ad 0)), (1, .int k)] := hl
  refine lv_aload_n hx hb dX7_liveIn_0 rfl (lv_at hl 0 rfl) ?_
  refine lv_iload_n hx hb dX7_liveIn_1 rfl (lv_at hl 1 rfl) ?_
  refine kXV (rXV (q0 := 0) (ci := 7) hx hb hml hown hg hN hK hP hD hST hSR hS hA (c_needBlock l hfl D cI cJ cZ ad b F G R k) mw_295 mw_296 mw_297 mw_298 mw_110 pdv_X7_needBlock ⟨Nat.le_of_ble_eq_true rfl, Nat.le_of_ble_eq_true rfl⟩ rfl rfl rfl hl.1 rfl (Nat.le_of_ble_eq_true rfl) dX7_liveIn_2 ⟨Nat.le_of_ble_eq_true rfl, Nat.le_of_ble_eq_true rfl⟩) hD hS hA (fun ce q9 H locs hpx hz9 hk9 hS h1 h2 h3 => xout trivial hE hlocks hS h1 h2 h3 (Nat.le_of_ble_eq_true rfl) (Nat.le_of_ble_eq_true rfl)) (fun u_1 H locs hp hP hD hS => ?_)
  exact hp.elim
set_option maxHeartbeats 4000000 in
set_option maxRecDepth 100000 in
theorem p_endsIn (l : Launch) (hfl : l.stackTraces = false) (D : va_G) (cI cJ cZ : ClassId) (ad : Nat → Nat) (b : Nat → Int32) (F : Nat → Nat → Int32) (G : Nat → Nat → Int64) (R : va_W) (k : Int32) : CX l D (TY cI cJ cZ) yX7_endsIn (.code yX7_endsIn cX7_endsIn 2 (some Jvm.ClassFile.FieldType.int)) 7 1 6 (XW ad cI cJ 0 b F G ++ R) [.ref (ad 0), .int k] (QI D (TY cI cJ cZ) (fun r u => False)) EIOB (True) := by
  refine entX (by decide) (Nat.le_of_ble_eq_true rfl) ?_
  intro p e s m below meth c ls A hx hb hr hg hown hml hlocks hnm hP hK hD hS hA hN hl hE hST hSR hAw
  have hl : lv_has ls 2 [(0, .ref (ad 0)), (1, .int k)] := hl
  refine lv_aload_n hx hb dX7_endsIn_0 rfl (lv_at hl 0 rfl) ?_
  refine lv_iload_n hx hb dX7_endsIn_1 rfl (lv_at hl 1 rfl) ?_
  refine kXV (rXV (q0 := 0) (ci := 7) hx hb hml hown hg hN hK hP hD hST hSR hS hA (c_needBlock l hfl D cI cJ cZ ad b F G R k) mw_295 mw_296 mw_297 mw_298 mw_110 pdv_X7_needBlock ⟨Nat.le_of_ble_eq_true rfl, Nat.le_of_ble_eq_true rfl⟩ rfl rfl rfl hl.1 rfl (Nat.le_of_ble_eq_true rfl) dX7_endsIn_2 ⟨Nat.le_of_ble_eq_true rfl, Nat.le_of_ble_eq_true rfl⟩) hD hS hA (fun ce q9 H locs hpx hz9 hk9 hS h1 h2 h3 => xout trivial hE hlocks hS h1 h2 h3 (Nat.le_of_ble_eq_true rfl) (Nat.le_of_ble_eq_true rfl)) (fun u_1 H locs hp hP hD hS => ?_)
  exact hp.elim
set_option maxHeartbeats 4000000 in
set_option maxRecDepth 100000 in
theorem p_layerOf (l : Launch) (hfl : l.stackTraces = false) (D : va_G) (cI cJ cZ : ClassId) (ad : Nat → Nat) (b : Nat → Int32) (F : Nat → Nat → Int32) (G : Nat → Nat → Int64) (R : va_W) (k : Int32) : CX l D (TY cI cJ cZ) yX7_layerOf (.code yX7_layerOf cX7_layerOf 2 (some Jvm.ClassFile.FieldType.int)) 7 1 6 (XW ad cI cJ 0 b F G ++ R) [.ref (ad 0), .int k] (QI D (TY cI cJ cZ) (fun r u => False)) EIOB (True) := by
  refine entX (by decide) (Nat.le_of_ble_eq_true rfl) ?_
  intro p e s m below meth c ls A hx hb hr hg hown hml hlocks hnm hP hK hD hS hA hN hl hE hST hSR hAw
  have hl : lv_has ls 2 [(0, .ref (ad 0)), (1, .int k)] := hl
  refine lv_aload_n hx hb dX7_layerOf_0 rfl (lv_at hl 0 rfl) ?_
  refine lv_iload_n hx hb dX7_layerOf_1 rfl (lv_at hl 1 rfl) ?_
  refine kXV (rXV (q0 := 0) (ci := 7) hx hb hml hown hg hN hK hP hD hST hSR hS hA (c_needBlock l hfl D cI cJ cZ ad b F G R k) mw_295 mw_296 mw_297 mw_298 mw_110 pdv_X7_needBlock ⟨Nat.le_of_ble_eq_true rfl, Nat.le_of_ble_eq_true rfl⟩ rfl rfl rfl hl.1 rfl (Nat.le_of_ble_eq_true rfl) dX7_layerOf_2 ⟨Nat.le_of_ble_eq_true rfl, Nat.le_of_ble_eq_true rfl⟩) hD hS hA (fun ce q9 H locs hpx hz9 hk9 hS h1 h2 h3 => xout trivial hE hlocks hS h1 h2 h3 (Nat.le_of_ble_eq_true rfl) (Nat.le_of_ble_eq_true rfl)) (fun u_1 H locs hp hP hD hS => ?_)
  exact hp.elim
set_option maxHeartbeats 4000000 in
set_option maxRecDepth 100000 in
theorem p_placeOf (l : Launch) (hfl : l.stackTraces = false) (D : va_G) (cI cJ cZ : ClassId) (ad : Nat → Nat) (b : Nat → Int32) (F : Nat → Nat → Int32) (G : Nat → Nat → Int64) (R : va_W) (k : Int32) : CX l D (TY cI cJ cZ) yX7_placeOf (.code yX7_placeOf cX7_placeOf 2 (some Jvm.ClassFile.FieldType.int)) 7 1 6 (XW ad cI cJ 0 b F G ++ R) [.ref (ad 0), .int k] (QI D (TY cI cJ cZ) (fun r u => False)) EIOB (True) := by
  refine entX (by decide) (Nat.le_of_ble_eq_true rfl) ?_
  intro p e s m below meth c ls A hx hb hr hg hown hml hlocks hnm hP hK hD hS hA hN hl hE hST hSR hAw
  have hl : lv_has ls 2 [(0, .ref (ad 0)), (1, .int k)] := hl
  refine lv_aload_n hx hb dX7_placeOf_0 rfl (lv_at hl 0 rfl) ?_
  refine lv_iload_n hx hb dX7_placeOf_1 rfl (lv_at hl 1 rfl) ?_
  refine kXV (rXV (q0 := 0) (ci := 7) hx hb hml hown hg hN hK hP hD hST hSR hS hA (c_needBlock l hfl D cI cJ cZ ad b F G R k) mw_295 mw_296 mw_297 mw_298 mw_110 pdv_X7_needBlock ⟨Nat.le_of_ble_eq_true rfl, Nat.le_of_ble_eq_true rfl⟩ rfl rfl rfl hl.1 rfl (Nat.le_of_ble_eq_true rfl) dX7_placeOf_2 ⟨Nat.le_of_ble_eq_true rfl, Nat.le_of_ble_eq_true rfl⟩) hD hS hA (fun ce q9 H locs hpx hz9 hk9 hS h1 h2 h3 => xout trivial hE hlocks hS h1 h2 h3 (Nat.le_of_ble_eq_true rfl) (Nat.le_of_ble_eq_true rfl)) (fun u_1 H locs hp hP hD hS => ?_)
  exact hp.elim
set_option maxHeartbeats 4000000 in
set_option maxRecDepth 100000 in
theorem p_edgeFrom (l : Launch) (hfl : l.stackTraces = false) (D : va_G) (cI cJ cZ : ClassId) (ad : Nat → Nat) (b : Nat → Int32) (F : Nat → Nat → Int32) (G : Nat → Nat → Int64) (R : va_W) (k : Int32) : CX l D (TY cI cJ cZ) yX7_edgeFrom (.code yX7_edgeFrom cX7_edgeFrom 2 (some Jvm.ClassFile.FieldType.int)) 7 1 6 (XW ad cI cJ 0 b F G ++ R) [.ref (ad 0), .int k] (QI D (TY cI cJ cZ) (fun r u => False)) EIOB (True) := by
  refine entX (by decide) (Nat.le_of_ble_eq_true rfl) ?_
  intro p e s m below meth c ls A hx hb hr hg hown hml hlocks hnm hP hK hD hS hA hN hl hE hST hSR hAw
  have hl : lv_has ls 2 [(0, .ref (ad 0)), (1, .int k)] := hl
  refine lv_aload_n hx hb dX7_edgeFrom_0 rfl (lv_at hl 0 rfl) ?_
  refine lv_iload_n hx hb dX7_edgeFrom_1 rfl (lv_at hl 1 rfl) ?_
  refine kXV (rXV (q0 := 0) (ci := 7) hx hb hml hown hg hN hK hP hD hST hSR hS hA (c_needEdge l hfl D cI cJ cZ ad b F G R k) mw_299 mw_300 mw_301 mw_302 mw_110 pdv_X7_needEdge ⟨Nat.le_of_ble_eq_true rfl, Nat.le_of_ble_eq_true rfl⟩ rfl rfl rfl hl.1 rfl (Nat.le_of_ble_eq_true rfl) dX7_edgeFrom_2 ⟨Nat.le_of_ble_eq_true rfl, Nat.le_of_ble_eq_true rfl⟩) hD hS hA (fun ce q9 H locs hpx hz9 hk9 hS h1 h2 h3 => xout trivial hE hlocks hS h1 h2 h3 (Nat.le_of_ble_eq_true rfl) (Nat.le_of_ble_eq_true rfl)) (fun u_1 H locs hp hP hD hS => ?_)
  exact hp.elim
set_option maxHeartbeats 4000000 in
set_option maxRecDepth 100000 in
theorem p_edgeTo (l : Launch) (hfl : l.stackTraces = false) (D : va_G) (cI cJ cZ : ClassId) (ad : Nat → Nat) (b : Nat → Int32) (F : Nat → Nat → Int32) (G : Nat → Nat → Int64) (R : va_W) (k : Int32) : CX l D (TY cI cJ cZ) yX7_edgeTo (.code yX7_edgeTo cX7_edgeTo 2 (some Jvm.ClassFile.FieldType.int)) 7 1 6 (XW ad cI cJ 0 b F G ++ R) [.ref (ad 0), .int k] (QI D (TY cI cJ cZ) (fun r u => False)) EIOB (True) := by
  refine entX (by decide) (Nat.le_of_ble_eq_true rfl) ?_
  intro p e s m below meth c ls A hx hb hr hg hown hml hlocks hnm hP hK hD hS hA hN hl hE hST hSR hAw
  have hl : lv_has ls 2 [(0, .ref (ad 0)), (1, .int k)] := hl
  refine lv_aload_n hx hb dX7_edgeTo_0 rfl (lv_at hl 0 rfl) ?_
  refine lv_iload_n hx hb dX7_edgeTo_1 rfl (lv_at hl 1 rfl) ?_
  refine kXV (rXV (q0 := 0) (ci := 7) hx hb hml hown hg hN hK hP hD hST hSR hS hA (c_needEdge l hfl D cI cJ cZ ad b F G R k) mw_299 mw_300 mw_301 mw_302 mw_110 pdv_X7_needEdge ⟨Nat.le_of_ble_eq_true rfl, Nat.le_of_ble_eq_true rfl⟩ rfl rfl rfl hl.1 rfl (Nat.le_of_ble_eq_true rfl) dX7_edgeTo_2 ⟨Nat.le_of_ble_eq_true rfl, Nat.le_of_ble_eq_true rfl⟩) hD hS hA (fun ce q9 H locs hpx hz9 hk9 hS h1 h2 h3 => xout trivial hE hlocks hS h1 h2 h3 (Nat.le_of_ble_eq_true rfl) (Nat.le_of_ble_eq_true rfl)) (fun u_1 H locs hp hP hD hS => ?_)
  exact hp.elim
set_option maxHeartbeats 4000000 in
set_option maxRecDepth 100000 in
theorem p_bends (l : Launch) (hfl : l.stackTraces = false) (D : va_G) (cI cJ cZ : ClassId) (ad : Nat → Nat) (b : Nat → Int32) (F : Nat → Nat → Int32) (G : Nat → Nat → Int64) (R : va_W) (k : Int32) : CX l D (TY cI cJ cZ) yX7_bends (.code yX7_bends cX7_bends 2 (some Jvm.ClassFile.FieldType.int)) 7 1 6 (XW ad cI cJ 0 b F G ++ R) [.ref (ad 0), .int k] (QI D (TY cI cJ cZ) (fun r u => False)) EIOB (True) := by
  refine entX (by decide) (Nat.le_of_ble_eq_true rfl) ?_
  intro p e s m below meth c ls A hx hb hr hg hown hml hlocks hnm hP hK hD hS hA hN hl hE hST hSR hAw
  have hl : lv_has ls 2 [(0, .ref (ad 0)), (1, .int k)] := hl
  refine lv_aload_n hx hb dX7_bends_0 rfl (lv_at hl 0 rfl) ?_
  refine lv_iload_n hx hb dX7_bends_1 rfl (lv_at hl 1 rfl) ?_
  refine kXV (rXV (q0 := 0) (ci := 7) hx hb hml hown hg hN hK hP hD hST hSR hS hA (c_needEdge l hfl D cI cJ cZ ad b F G R k) mw_299 mw_300 mw_301 mw_302 mw_110 pdv_X7_needEdge ⟨Nat.le_of_ble_eq_true rfl, Nat.le_of_ble_eq_true rfl⟩ rfl rfl rfl hl.1 rfl (Nat.le_of_ble_eq_true rfl) dX7_bends_2 ⟨Nat.le_of_ble_eq_true rfl, Nat.le_of_ble_eq_true rfl⟩) hD hS hA (fun ce q9 H locs hpx hz9 hk9 hS h1 h2 h3 => xout trivial hE hlocks hS h1 h2 h3 (Nat.le_of_ble_eq_true rfl) (Nat.le_of_ble_eq_true rfl)) (fun u_1 H locs hp hP hD hS => ?_)
  exact hp.elim
set_option maxHeartbeats 4000000 in
set_option maxRecDepth 100000 in
theorem p_ruleOf (l : Launch) (hfl : l.stackTraces = false) (D : va_G) (cI cJ cZ : ClassId) (ad : Nat → Nat) (b : Nat → Int32) (F : Nat → Nat → Int32) (G : Nat → Nat → Int64) (R : va_W) (k : Int32) : CX l D (TY cI cJ cZ) yX7_ruleOf (.code yX7_ruleOf cX7_ruleOf 2 (some Jvm.ClassFile.FieldType.int)) 7 1 6 (XW ad cI cJ 0 b F G ++ R) [.ref (ad 0), .int k] (QI D (TY cI cJ cZ) (fun r u => False)) EIOB (True) := by
  refine entX (by decide) (Nat.le_of_ble_eq_true rfl) ?_
  intro p e s m below meth c ls A hx hb hr hg hown hml hlocks hnm hP hK hD hS hA hN hl hE hST hSR hAw
  have hl : lv_has ls 2 [(0, .ref (ad 0)), (1, .int k)] := hl
  refine lv_aload_n hx hb dX7_ruleOf_0 rfl (lv_at hl 0 rfl) ?_
  refine lv_iload_n hx hb dX7_ruleOf_1 rfl (lv_at hl 1 rfl) ?_
  refine kXV (rXV (q0 := 0) (ci := 7) hx hb hml hown hg hN hK hP hD hST hSR hS hA (c_needStep l hfl D cI cJ cZ ad b F G R k) mw_303 mw_304 mw_305 mw_306 mw_110 pdv_X7_needStep ⟨Nat.le_of_ble_eq_true rfl, Nat.le_of_ble_eq_true rfl⟩ rfl rfl rfl hl.1 rfl (Nat.le_of_ble_eq_true rfl) dX7_ruleOf_2 ⟨Nat.le_of_ble_eq_true rfl, Nat.le_of_ble_eq_true rfl⟩) hD hS hA (fun ce q9 H locs hpx hz9 hk9 hS h1 h2 h3 => xout trivial hE hlocks hS h1 h2 h3 (Nat.le_of_ble_eq_true rfl) (Nat.le_of_ble_eq_true rfl)) (fun u_1 H locs hp hP hD hS => ?_)
  exact hp.elim
set_option maxHeartbeats 4000000 in
set_option maxRecDepth 100000 in
theorem p_nodeOf (l : Launch) (hfl : l.stackTraces = false) (D : va_G) (cI cJ cZ : ClassId) (ad : Nat → Nat) (b : Nat → Int32) (F : Nat → Nat → Int32) (G : Nat → Nat → Int64) (R : va_W) (k : Int32) : CX l D (TY cI cJ cZ) yX7_nodeOf (.code yX7_nodeOf cX7_nodeOf 2 (some Jvm.ClassFile.FieldType.int)) 7 1 6 (XW ad cI cJ 0 b F G ++ R) [.ref (ad 0), .int k] (QI D (TY cI cJ cZ) (fun r u => False)) EIOB (True) := by
  refine entX (by decide) (Nat.le_of_ble_eq_true rfl) ?_
  intro p e s m below meth c ls A hx hb hr hg hown hml hlocks hnm hP hK hD hS hA hN hl hE hST hSR hAw
  have hl : lv_has ls 2 [(0, .ref (ad 0)), (1, .int k)] := hl
  refine lv_aload_n hx hb dX7_nodeOf_0 rfl (lv_at hl 0 rfl) ?_
  refine lv_iload_n hx hb dX7_nodeOf_1 rfl (lv_at hl 1 rfl) ?_
  refine kXV (rXV (q0 := 0) (ci := 7) hx hb hml hown hg hN hK hP hD hST hSR hS hA (c_needStep l hfl D cI cJ cZ ad b F G R k) mw_303 mw_304 mw_305 mw_306 mw_110 pdv_X7_needStep ⟨Nat.le_of_ble_eq_true rfl, Nat.le_of_ble_eq_true rfl⟩ rfl rfl rfl hl.1 rfl (Nat.le_of_ble_eq_true rfl) dX7_nodeOf_2 ⟨Nat.le_of_ble_eq_true rfl, Nat.le_of_ble_eq_true rfl⟩) hD hS hA (fun ce q9 H locs hpx hz9 hk9 hS h1 h2 h3 => xout trivial hE hlocks hS h1 h2 h3 (Nat.le_of_ble_eq_true rfl) (Nat.le_of_ble_eq_true rfl)) (fun u_1 H locs hp hP hD hS => ?_)
  exact hp.elim
set_option maxHeartbeats 4000000 in
set_option maxRecDepth 100000 in
theorem p_points (l : Launch) (hfl : l.stackTraces = false) (D : va_G) (cI cJ cZ : ClassId) (ad : Nat → Nat) (b : Nat → Int32) (F : Nat → Nat → Int32) (G : Nat → Nat → Int64) (R : va_W) (k : Int32) : CX l D (TY cI cJ cZ) yX7_points (.code yX7_points cX7_points 2 (some Jvm.ClassFile.FieldType.int)) 7 1 6 (XW ad cI cJ 0 b F G ++ R) [.ref (ad 0), .int k] (QI D (TY cI cJ cZ) (fun r u => False)) EIOB (True) := by
  refine entX (by decide) (Nat.le_of_ble_eq_true rfl) ?_
  intro p e s m below meth c ls A hx hb hr hg hown hml hlocks hnm hP hK hD hS hA hN hl hE hST hSR hAw
  have hl : lv_has ls 2 [(0, .ref (ad 0)), (1, .int k)] := hl
  refine lv_aload_n hx hb dX7_points_0 rfl (lv_at hl 0 rfl) ?_
  refine lv_iload_n hx hb dX7_points_1 rfl (lv_at hl 1 rfl) ?_
  refine kXV (rXV (q0 := 0) (ci := 7) hx hb hml hown hg hN hK hP hD hST hSR hS hA (c_needLayer l hfl D cI cJ cZ ad b F G R k) mw_307 mw_308 mw_309 mw_310 mw_110 pdv_X7_needLayer ⟨Nat.le_of_ble_eq_true rfl, Nat.le_of_ble_eq_true rfl⟩ rfl rfl rfl hl.1 rfl (Nat.le_of_ble_eq_true rfl) dX7_points_2 ⟨Nat.le_of_ble_eq_true rfl, Nat.le_of_ble_eq_true rfl⟩) hD hS hA (fun ce q9 H locs hpx hz9 hk9 hS h1 h2 h3 => xout trivial hE hlocks hS h1 h2 h3 (Nat.le_of_ble_eq_true rfl) (Nat.le_of_ble_eq_true rfl)) (fun u_1 H locs hp hP hD hS => ?_)
  exact hp.elim
set_option maxHeartbeats 4000000 in
set_option maxRecDepth 100000 in
theorem p_isReached (l : Launch) (hfl : l.stackTraces = false) (D : va_G) (cI cJ cZ : ClassId) (ad : Nat → Nat) (b : Nat → Int32) (F : Nat → Nat → Int32) (G : Nat → Nat → Int64) (R : va_W) (k : Int32) : CX l D (TY cI cJ cZ) yX7_isReached (.code yX7_isReached cX7_isReached 2 (some Jvm.ClassFile.FieldType.boolean)) 7 1 6 (XW ad cI cJ 0 b F G ++ R) [.ref (ad 0), .int k] (QI D (TY cI cJ cZ) (fun r u => False)) EIOB (True) := by
  refine entX (by decide) (Nat.le_of_ble_eq_true rfl) ?_
  intro p e s m below meth c ls A hx hb hr hg hown hml hlocks hnm hP hK hD hS hA hN hl hE hST hSR hAw
  have hl : lv_has ls 2 [(0, .ref (ad 0)), (1, .int k)] := hl
  refine lv_aload_n hx hb dX7_isReached_0 rfl (lv_at hl 0 rfl) ?_
  refine lv_iload_n hx hb dX7_isReached_1 rfl (lv_at hl 1 rfl) ?_
  refine kXV (rXV (q0 := 0) (ci := 7) hx hb hml hown hg hN hK hP hD hST hSR hS hA (c_needBlock l hfl D cI cJ cZ ad b F G R k) mw_295 mw_296 mw_297 mw_298 mw_110 pdv_X7_needBlock ⟨Nat.le_of_ble_eq_true rfl, Nat.le_of_ble_eq_true rfl⟩ rfl rfl rfl hl.1 rfl (Nat.le_of_ble_eq_true rfl) dX7_isReached_2 ⟨Nat.le_of_ble_eq_true rfl, Nat.le_of_ble_eq_true rfl⟩) hD hS hA (fun ce q9 H locs hpx hz9 hk9 hS h1 h2 h3 => xout trivial hE hlocks hS h1 h2 h3 (Nat.le_of_ble_eq_true rfl) (Nat.le_of_ble_eq_true rfl)) (fun u_1 H locs hp hP hD hS => ?_)
  exact hp.elim
set_option maxHeartbeats 4000000 in
set_option maxRecDepth 100000 in
theorem p_isBack (l : Launch) (hfl : l.stackTraces = false) (D : va_G) (cI cJ cZ : ClassId) (ad : Nat → Nat) (b : Nat → Int32) (F : Nat → Nat → Int32) (G : Nat → Nat → Int64) (R : va_W) (k : Int32) : CX l D (TY cI cJ cZ) yX7_isBack (.code yX7_isBack cX7_isBack 2 (some Jvm.ClassFile.FieldType.boolean)) 7 1 6 (XW ad cI cJ 0 b F G ++ R) [.ref (ad 0), .int k] (QI D (TY cI cJ cZ) (fun r u => False)) EIOB (True) := by
  refine entX (by decide) (Nat.le_of_ble_eq_true rfl) ?_
  intro p e s m below meth c ls A hx hb hr hg hown hml hlocks hnm hP hK hD hS hA hN hl hE hST hSR hAw
  have hl : lv_has ls 2 [(0, .ref (ad 0)), (1, .int k)] := hl
  refine lv_aload_n hx hb dX7_isBack_0 rfl (lv_at hl 0 rfl) ?_
  refine lv_iload_n hx hb dX7_isBack_1 rfl (lv_at hl 1 rfl) ?_
  refine kXV (rXV (q0 := 0) (ci := 7) hx hb hml hown hg hN hK hP hD hST hSR hS hA (c_needEdge l hfl D cI cJ cZ ad b F G R k) mw_299 mw_300 mw_301 mw_302 mw_110 pdv_X7_needEdge ⟨Nat.le_of_ble_eq_true rfl, Nat.le_of_ble_eq_true rfl⟩ rfl rfl rfl hl.1 rfl (Nat.le_of_ble_eq_true rfl) dX7_isBack_2 ⟨Nat.le_of_ble_eq_true rfl, Nat.le_of_ble_eq_true rfl⟩) hD hS hA (fun ce q9 H locs hpx hz9 hk9 hS h1 h2 h3 => xout trivial hE hlocks hS h1 h2 h3 (Nat.le_of_ble_eq_true rfl) (Nat.le_of_ble_eq_true rfl)) (fun u_1 H locs hp hP hD hS => ?_)
  exact hp.elim
set_option maxHeartbeats 4000000 in
set_option maxRecDepth 100000 in
theorem p_isTurned (l : Launch) (hfl : l.stackTraces = false) (D : va_G) (cI cJ cZ : ClassId) (ad : Nat → Nat) (b : Nat → Int32) (F : Nat → Nat → Int32) (G : Nat → Nat → Int64) (R : va_W) (k : Int32) : CX l D (TY cI cJ cZ) yX7_isTurned (.code yX7_isTurned cX7_isTurned 2 (some Jvm.ClassFile.FieldType.boolean)) 7 1 6 (XW ad cI cJ 0 b F G ++ R) [.ref (ad 0), .int k] (QI D (TY cI cJ cZ) (fun r u => False)) EIOB (True) := by
  refine entX (by decide) (Nat.le_of_ble_eq_true rfl) ?_
  intro p e s m below meth c ls A hx hb hr hg hown hml hlocks hnm hP hK hD hS hA hN hl hE hST hSR hAw
  have hl : lv_has ls 2 [(0, .ref (ad 0)), (1, .int k)] := hl
  refine lv_aload_n hx hb dX7_isTurned_0 rfl (lv_at hl 0 rfl) ?_
  refine lv_iload_n hx hb dX7_isTurned_1 rfl (lv_at hl 1 rfl) ?_
  refine kXV (rXV (q0 := 0) (ci := 7) hx hb hml hown hg hN hK hP hD hST hSR hS hA (c_needEdge l hfl D cI cJ cZ ad b F G R k) mw_299 mw_300 mw_301 mw_302 mw_110 pdv_X7_needEdge ⟨Nat.le_of_ble_eq_true rfl, Nat.le_of_ble_eq_true rfl⟩ rfl rfl rfl hl.1 rfl (Nat.le_of_ble_eq_true rfl) dX7_isTurned_2 ⟨Nat.le_of_ble_eq_true rfl, Nat.le_of_ble_eq_true rfl⟩) hD hS hA (fun ce q9 H locs hpx hz9 hk9 hS h1 h2 h3 => xout trivial hE hlocks hS h1 h2 h3 (Nat.le_of_ble_eq_true rfl) (Nat.le_of_ble_eq_true rfl)) (fun u_1 H locs hp hP hD hS => ?_)
  exact hp.elim
set_option maxHeartbeats 4000000 in
set_option maxRecDepth 100000 in
theorem p_setTarget (l : Launch) (hfl : l.stackTraces = false) (D : va_G) (cI cJ cZ : ClassId) (ad : Nat → Nat) (b : Nat → Int32) (F : Nat → Nat → Int32) (G : Nat → Nat → Int64) (R : va_W) (k : Int32) (k2 : Int32) : CX l D (TY cI cJ cZ) yX7_setTarget (.code yX7_setTarget cX7_setTarget 4 (some Jvm.ClassFile.FieldType.int)) 7 1 6 (XW ad cI cJ 0 b F G ++ R) [.ref (ad 0), .int k, .int k2] (QI D (TY cI cJ cZ) (fun r u => False)) EIOB (True) := by
  refine entX (by decide) (Nat.le_of_ble_eq_true rfl) ?_
  intro p e s m below meth c ls A hx hb hr hg hown hml hlocks hnm hP hK hD hS hA hN hl hE hST hSR hAw
  have hl : lv_has ls 4 [(0, .ref (ad 0)), (1, .int k), (2, .int k2)] := hl
  refine lv_aload_n hx hb dX7_setTarget_0 rfl (lv_at hl 0 rfl) ?_
  refine lv_iload_n hx hb dX7_setTarget_1 rfl (lv_at hl 1 rfl) ?_
  refine kXV (rXV (q0 := 0) (ci := 7) hx hb hml hown hg hN hK hP hD hST hSR hS hA (c_needInstruction l hfl D cI cJ cZ ad b F G R k) mw_291 mw_292 mw_293 mw_294 mw_110 pdv_X7_needInstruction ⟨Nat.le_of_ble_eq_true rfl, Nat.le_of_ble_eq_true rfl⟩ rfl rfl rfl hl.1 rfl (Nat.le_of_ble_eq_true rfl) dX7_setTarget_2 ⟨Nat.le_of_ble_eq_true rfl, Nat.le_of_ble_eq_true rfl⟩) hD hS hA (fun ce q9 H locs hpx hz9 hk9 hS h1 h2 h3 => xout trivial hE hlocks hS h1 h2 h3 (Nat.le_of_ble_eq_true rfl) (Nat.le_of_ble_eq_true rfl)) (fun u_1 H locs hp hP hD hS => ?_)
  exact hp.elim
set_option maxHeartbeats 4000000 in
set_option maxRecDepth 100000 in
theorem p_bendAt (l : Launch) (hfl : l.stackTraces = false) (D : va_G) (cI cJ cZ : ClassId) (ad : Nat → Nat) (b : Nat → Int32) (F : Nat → Nat → Int32) (G : Nat → Nat → Int64) (R : va_W) (k : Int32) (k2 : Int32) : CX l D (TY cI cJ cZ) yX7_bendAt (.code yX7_bendAt cX7_bendAt 3 (some Jvm.ClassFile.FieldType.int)) 7 1 6 (XW ad cI cJ 0 b F G ++ R) [.ref (ad 0), .int k, .int k2] (QI D (TY cI cJ cZ) (fun r u => False)) EIOB (True) := by
  refine entX (by decide) (Nat.le_of_ble_eq_true rfl) ?_
  intro p e s m below meth c ls A hx hb hr hg hown hml hlocks hnm hP hK hD hS hA hN hl hE hST hSR hAw
  have hl : lv_has ls 3 [(0, .ref (ad 0)), (1, .int k), (2, .int k2)] := hl
  refine lv_aload_n hx hb dX7_bendAt_0 rfl (lv_at hl 0 rfl) ?_
  refine lv_iload_n hx hb dX7_bendAt_1 rfl (lv_at hl 1 rfl) ?_
  refine kXV (rXV (q0 := 0) (ci := 7) hx hb hml hown hg hN hK hP hD hST hSR hS hA (c_needEdge l hfl D cI cJ cZ ad b F G R k) mw_299 mw_300 mw_301 mw_302 mw_110 pdv_X7_needEdge ⟨Nat.le_of_ble_eq_true rfl, Nat.le_of_ble_eq_true rfl⟩ rfl rfl rfl hl.1 rfl (Nat.le_of_ble_eq_true rfl) dX7_bendAt_2 ⟨Nat.le_of_ble_eq_true rfl, Nat.le_of_ble_eq_true rfl⟩) hD hS hA (fun ce q9 H locs hpx hz9 hk9 hS h1 h2 h3 => xout trivial hE hlocks hS h1 h2 h3 (Nat.le_of_ble_eq_true rfl) (Nat.le_of_ble_eq_true rfl)) (fun u_1 H locs hp hP hD hS => ?_)
  exact hp.elim
set_option maxHeartbeats 4000000 in
set_option maxRecDepth 100000 in
theorem p_pointAt (l : Launch) (hfl : l.stackTraces = false) (D : va_G) (cI cJ cZ : ClassId) (ad : Nat → Nat) (b : Nat → Int32) (F : Nat → Nat → Int32) (G : Nat → Nat → Int64) (R : va_W) (k : Int32) (k2 : Int32) : CX l D (TY cI cJ cZ) yX7_pointAt (.code yX7_pointAt cX7_pointAt 3 (some Jvm.ClassFile.FieldType.int)) 7 1 6 (XW ad cI cJ 0 b F G ++ R) [.ref (ad 0), .int k, .int k2] (QI D (TY cI cJ cZ) (fun r u => False)) EIOB (True) := by
  refine entX (by decide) (Nat.le_of_ble_eq_true rfl) ?_
  intro p e s m below meth c ls A hx hb hr hg hown hml hlocks hnm hP hK hD hS hA hN hl hE hST hSR hAw
  have hl : lv_has ls 3 [(0, .ref (ad 0)), (1, .int k), (2, .int k2)] := hl
  refine lv_aload_n hx hb dX7_pointAt_0 rfl (lv_at hl 0 rfl) ?_
  refine lv_iload_n hx hb dX7_pointAt_1 rfl (lv_at hl 1 rfl) ?_
  refine kXV (rXV (q0 := 0) (ci := 7) hx hb hml hown hg hN hK hP hD hST hSR hS hA (c_needLayer l hfl D cI cJ cZ ad b F G R k) mw_307 mw_308 mw_309 mw_310 mw_110 pdv_X7_needLayer ⟨Nat.le_of_ble_eq_true rfl, Nat.le_of_ble_eq_true rfl⟩ rfl rfl rfl hl.1 rfl (Nat.le_of_ble_eq_true rfl) dX7_pointAt_2 ⟨Nat.le_of_ble_eq_true rfl, Nat.le_of_ble_eq_true rfl⟩) hD hS hA (fun ce q9 H locs hpx hz9 hk9 hS h1 h2 h3 => xout trivial hE hlocks hS h1 h2 h3 (Nat.le_of_ble_eq_true rfl) (Nat.le_of_ble_eq_true rfl)) (fun u_1 H locs hp hP hD hS => ?_)
  exact hp.elim
set_option maxHeartbeats 4000000 in
set_option maxRecDepth 100000 in
theorem p_dominates (l : Launch) (hfl : l.stackTraces = false) (D : va_G) (cI cJ cZ : ClassId) (ad : Nat → Nat) (b : Nat → Int32) (F : Nat → Nat → Int32) (G : Nat → Nat → Int64) (R : va_W) (k : Int32) (k2 : Int32) : CX l D (TY cI cJ cZ) yX7_dominates (.code yX7_dominates cX7_dominates 3 (some Jvm.ClassFile.FieldType.boolean)) 7 1 6 (XW ad cI cJ 0 b F G ++ R) [.ref (ad 0), .int k, .int k2] (QI D (TY cI cJ cZ) (fun r u => False)) EIOB (True) := by
  refine entX (by decide) (Nat.le_of_ble_eq_true rfl) ?_
  intro p e s m below meth c ls A hx hb hr hg hown hml hlocks hnm hP hK hD hS hA hN hl hE hST hSR hAw
  have hl : lv_has ls 3 [(0, .ref (ad 0)), (1, .int k), (2, .int k2)] := hl
  refine lv_aload_n hx hb dX7_dominates_0 rfl (lv_at hl 0 rfl) ?_
  refine lv_iload_n hx hb dX7_dominates_1 rfl (lv_at hl 1 rfl) ?_
  refine kXV (rXV (q0 := 0) (ci := 7) hx hb hml hown hg hN hK hP hD hST hSR hS hA (c_needBlock l hfl D cI cJ cZ ad b F G R k) mw_295 mw_296 mw_297 mw_298 mw_110 pdv_X7_needBlock ⟨Nat.le_of_ble_eq_true rfl, Nat.le_of_ble_eq_true rfl⟩ rfl rfl rfl hl.1 rfl (Nat.le_of_ble_eq_true rfl) dX7_dominates_2 ⟨Nat.le_of_ble_eq_true rfl, Nat.le_of_ble_eq_true rfl⟩) hD hS hA (fun ce q9 H locs hpx hz9 hk9 hS h1 h2 h3 => xout trivial hE hlocks hS h1 h2 h3 (Nat.le_of_ble_eq_true rfl) (Nat.le_of_ble_eq_true rfl)) (fun u_1 H locs hp hP hD hS => ?_)
  exact hp.elim
set_option maxHeartbeats 4000000 in
set_option maxRecDepth 100000 in
theorem p_comesBehind (l : Launch) (hfl : l.stackTraces = false) (D : va_G) (cI cJ cZ : ClassId) (ad : Nat → Nat) (b : Nat → Int32) (F : Nat → Nat → Int32) (G : Nat → Nat → Int64) (R : va_W) (k : Int32) (k2 : Int32) : CX l D (TY cI cJ cZ) yX7_comesBehind (.code yX7_comesBehind cX7_comesBehind 3 (some Jvm.ClassFile.FieldType.boolean)) 7 1 6 (XW ad cI cJ 0 b F G ++ R) [.ref (ad 0), .int k, .int k2] (QI D (TY cI cJ cZ) (fun r u => False)) EIOB (True) := by
  refine entX (by decide) (Nat.le_of_ble_eq_true rfl) ?_
  intro p e s m below meth c ls A hx hb hr hg hown hml hlocks hnm hP hK hD hS hA hN hl hE hST hSR hAw
  have hl : lv_has ls 3 [(0, .ref (ad 0)), (1, .int k), (2, .int k2)] := hl
  refine lv_aload_n hx hb dX7_comesBehind_0 rfl (lv_at hl 0 rfl) ?_
  refine lv_iload_n hx hb dX7_comesBehind_1 rfl (lv_at hl 1 rfl) ?_
  refine kXV (rXV (q0 := 0) (ci := 7) hx hb hml hown hg hN hK hP hD hST hSR hS hA (c_needBlock l hfl D cI cJ cZ ad b F G R k) mw_295 mw_296 mw_297 mw_298 mw_110 pdv_X7_needBlock ⟨Nat.le_of_ble_eq_true rfl, Nat.le_of_ble_eq_true rfl⟩ rfl rfl rfl hl.1 rfl (Nat.le_of_ble_eq_true rfl) dX7_comesBehind_2 ⟨Nat.le_of_ble_eq_true rfl, Nat.le_of_ble_eq_true rfl⟩) hD hS hA (fun ce q9 H locs hpx hz9 hk9 hS h1 h2 h3 => xout trivial hE hlocks hS h1 h2 h3 (Nat.le_of_ble_eq_true rfl) (Nat.le_of_ble_eq_true rfl)) (fun u_1 H locs hp hP hD hS => ?_)
  exact hp.elim
set_option maxHeartbeats 4000000 in
set_option maxRecDepth 100000 in
theorem p_setUse (l : Launch) (hfl : l.stackTraces = false) (D : va_G) (cI cJ cZ : ClassId) (ad : Nat → Nat) (b : Nat → Int32) (F : Nat → Nat → Int32) (G : Nat → Nat → Int64) (R : va_W) (k : Int32) (k2 : Int32) (k3 : Int32) : CX l D (TY cI cJ cZ) yX7_setUse (.code yX7_setUse cX7_setUse 5 (some Jvm.ClassFile.FieldType.int)) 7 1 6 (XW ad cI cJ 0 b F G ++ R) [.ref (ad 0), .int k, .int k2, .int k3] (QI D (TY cI cJ cZ) (fun r u => False)) EIOB (True) := by
  refine entX (by decide) (Nat.le_of_ble_eq_true rfl) ?_
  intro p e s m below meth c ls A hx hb hr hg hown hml hlocks hnm hP hK hD hS hA hN hl hE hST hSR hAw
  have hl : lv_has ls 5 [(0, .ref (ad 0)), (1, .int k), (2, .int k2), (3, .int k3)] := hl
  refine lv_aload_n hx hb dX7_setUse_0 rfl (lv_at hl 0 rfl) ?_
  refine lv_iload_n hx hb dX7_setUse_1 rfl (lv_at hl 1 rfl) ?_
  refine kXV (rXV (q0 := 0) (ci := 7) hx hb hml hown hg hN hK hP hD hST hSR hS hA (c_needInstruction l hfl D cI cJ cZ ad b F G R k) mw_291 mw_292 mw_293 mw_294 mw_110 pdv_X7_needInstruction ⟨Nat.le_of_ble_eq_true rfl, Nat.le_of_ble_eq_true rfl⟩ rfl rfl rfl hl.1 rfl (Nat.le_of_ble_eq_true rfl) dX7_setUse_2 ⟨Nat.le_of_ble_eq_true rfl, Nat.le_of_ble_eq_true rfl⟩) hD hS hA (fun ce q9 H locs hpx hz9 hk9 hS h1 h2 h3 => xout trivial hE hlocks hS h1 h2 h3 (Nat.le_of_ble_eq_true rfl) (Nat.le_of_ble_eq_true rfl)) (fun u_1 H locs hp hP hD hS => ?_)
  exact hp.elim
set_option maxHeartbeats 4000000 in
set_option maxRecDepth 100000 in
theorem p_sweep (l : Launch) (hfl : l.stackTraces = false) (D : va_G) (cI cJ cZ : ClassId) (ad : Nat → Nat) (b : Nat → Int32) (F : Nat → Nat → Int32) (G : Nat → Nat → Int64) (R : va_W) (hb0 : ∀ k, b k = 0) (k : Int32) : CX l D (TY cI cJ cZ) yX7_sweep (.code yX7_sweep cX7_sweep 2 (some Jvm.ClassFile.FieldType.int)) 7 1 6 (XW ad cI cJ 0 b F G ++ R) [.ref (ad 0), .int k] (QI D (TY cI cJ cZ) (fun r u => r = 0 ∧ (¬ k < 1 ∧ k ≤ 20) ∧ ∃ n' b' F' G', u = XW ad cI cJ n' b' F' G' ++ R)) EIAE (k < 1 ∨ ¬ k ≤ 20) := by
  refine entX (by decide) (Nat.le_of_ble_eq_true rfl) ?_
  intro p e s m below meth c ls A hx hb hr hg hown hml hlocks hnm hP hK hD hS hA hN hl hE hST hSR hAw
  have hl : lv_has ls 2 [(0, .ref (ad 0)), (1, .int k)] := hl
  refine lv_iload_n hx hb dX7_sweep_0 rfl (lv_at hl 1 rfl) ?_
  refine kXV (rXS hx hb hml hown hg hN hK hP hD hST hSR hS hA (c_needSweeps l hfl D cI cJ cZ ad b F G R k) mw_311 mw_312 mw_313 mw_110 pd_X7_needSweeps ⟨Nat.le_of_ble_eq_true rfl, Nat.le_of_ble_eq_true rfl⟩ rfl hl.1 rfl (Nat.le_of_ble_eq_true rfl) dX7_sweep_1 ⟨Nat.le_of_ble_eq_true rfl, Nat.le_of_ble_eq_true rfl⟩) hD hS hA (fun ce q9 H locs hpx hz9 hk9 hS h1 h2 h3 => xout hpx hE hlocks hS h1 h2 h3 (Nat.le_of_ble_eq_true rfl) (Nat.le_of_ble_eq_true rfl)) (fun u_1 H locs hp hP hD hS => ?_)
  obtain ⟨hk1, hk2, rfl⟩ := hp
  obtain ⟨N, hN31, hk⟩ : ∃ j : Nat, j < 2 ^ 31 ∧ k = nI j := nI_of (nn_of hk1)
  refine lv_aload_n hx hb dX7_sweep_4 rfl (lv_at hl 0 rfl) ?_
  refine kR (rV (q0 := 0) (ci := 7) hx hb hml hown hg hN hK hP hD (c_freshPicture l D cI cJ cZ ad b F G R) mw_225 mw_226 mw_227 mw_228 mw_110 pdv_X7_freshPicture ⟨Nat.le_of_ble_eq_true rfl, Nat.le_of_ble_eq_true rfl⟩ rfl rfl rfl hl.1 rfl (Nat.le_of_ble_eq_true rfl) dX7_sweep_5 ⟨Nat.le_of_ble_eq_true rfl, Nat.le_of_ble_eq_true rfl⟩) hD hS hA (fun r_2 u_2 H locs hp hP hD hS => ?_)
  obtain ⟨rfl, b_3, F_4, G_5, rfl, h5b_3, h6b_3, hb_3⟩ := hp
  refine lv_iload_n hx hb dX7_sweep_8 rfl (lv_at hl 1 rfl) ?_
  refine kV (rV (q0 := 6) (ci := 3) hx hb hml hown hg hN hK hP hD (c_sweepOften l D cI cJ cZ ad b_3 F_4 G_5 R k N hk hN31) mw_235 mw_314 mw_237 mw_238 mw_179 pdv_X3_sweepOften ⟨Nat.le_of_ble_eq_true rfl, Nat.le_of_ble_eq_true rfl⟩ rfl rfl rfl hl.1 rfl (Nat.le_of_ble_eq_true rfl) dX7_sweep_9 ⟨Nat.le_of_ble_eq_true rfl, Nat.le_of_ble_eq_true rfl⟩) hD hS hA (fun u_6 H locs hp hP hD hS => ?_)
  obtain ⟨b_7, rfl⟩ := hp
  refine lv_aload_n hx hb dX7_sweep_12 rfl (lv_at hl 0 rfl) ?_
  refine kR (rV (q0 := 0) (ci := 7) hx hb hml hown hg hN hK hP hD (c_freshPicture l D cI cJ cZ ad b_7 F_4 G_5 R) mw_225 mw_226 mw_227 mw_228 mw_110 pdv_X7_freshPicture ⟨Nat.le_of_ble_eq_true rfl, Nat.le_of_ble_eq_true rfl⟩ rfl rfl rfl hl.1 rfl (Nat.le_of_ble_eq_true rfl) dX7_sweep_13 ⟨Nat.le_of_ble_eq_true rfl, Nat.le_of_ble_eq_true rfl⟩) hD hS hA (fun r_10 u_10 H locs hp hP hD hS => ?_)
  obtain ⟨rfl, b_11, F_12, G_13, rfl, h5b_11, h6b_11, hb_11⟩ := hp
  refine kI (rV (q0 := 6) (ci := 3) hx hb hml hown hg hN hK hP hD (c_countCrossings l D cI cJ cZ ad b_11 F_12 G_13 R) mw_239 mw_265 mw_241 mw_242 mw_179 pdv_X3_countCrossings ⟨Nat.le_of_ble_eq_true rfl, Nat.le_of_ble_eq_true rfl⟩ rfl rfl rfl hl.1 rfl (Nat.le_of_ble_eq_true rfl) dX7_sweep_16 ⟨Nat.le_of_ble_eq_true rfl, Nat.le_of_ble_eq_true rfl⟩) hD hS hA (fun r_14 u_14 H locs hp hP hD hS => ?_)
  obtain ⟨rfl, rfl⟩ := hp
  refine vx_ret ?_
  exact W.iret (v := 0) hx hb hr (fun t ht hW => ⟨⟨0, (XW ad cI cJ 0 b_11 F_12 G_13 ++ R), rfl, ⟨rfl, ⟨hk1, hk2⟩, _, _, _, _, rfl⟩, ⟨by rw [ht]; exact hP, va_K.moved hW.alike hK, hD⟩⟩, hS.F ht⟩) hS.2.2 dX7_sweep_19
set_option maxHeartbeats 4000000 in
set_option maxRecDepth 100000 in
theorem p_wouldCross (l : Launch) (hfl : l.stackTraces = false) (D : va_G) (cI cJ cZ : ClassId) (ad : Nat → Nat) (b : Nat → Int32) (F : Nat → Nat → Int32) (G : Nat → Nat → Int64) (R : va_W) (hb0 : ∀ k, b k = 0) (k : Int32) : CX l D (TY cI cJ cZ) yX7_wouldCross (.code yX7_wouldCross cX7_wouldCross 2 (some Jvm.ClassFile.FieldType.int)) 7 1 6 (XW ad cI cJ 0 b F G ++ R) [.ref (ad 0), .int k] (QI D (TY cI cJ cZ) (fun r u => r = 0 ∧ (¬ k < 1 ∧ k ≤ 20) ∧ ∃ n' b' F' G', u = XW ad cI cJ n' b' F' G' ++ R)) EIAE (k < 1 ∨ ¬ k ≤ 20) := by
  refine entX (by decide) (Nat.le_of_ble_eq_true rfl) ?_
  intro p e s m below meth c ls A hx hb hr hg hown hml hlocks hnm hP hK hD hS hA hN hl hE hST hSR hAw
  have hl : lv_has ls 2 [(0, .ref (ad 0)), (1, .int k)] := hl
  refine lv_iload_n hx hb dX7_wouldCross_0 rfl (lv_at hl 1 rfl) ?_
  refine kXV (rXS hx hb hml hown hg hN hK hP hD hST hSR hS hA (c_needSweeps l hfl D cI cJ cZ ad b F G R k) mw_311 mw_312 mw_313 mw_110 pd_X7_needSweeps ⟨Nat.le_of_ble_eq_true rfl, Nat.le_of_ble_eq_true rfl⟩ rfl hl.1 rfl (Nat.le_of_ble_eq_true rfl) dX7_wouldCross_1 ⟨Nat.le_of_ble_eq_true rfl, Nat.le_of_ble_eq_true rfl⟩) hD hS hA (fun ce q9 H locs hpx hz9 hk9 hS h1 h2 h3 => xout hpx hE hlocks hS h1 h2 h3 (Nat.le_of_ble_eq_true rfl) (Nat.le_of_ble_eq_true rfl)) (fun u_1 H locs hp hP hD hS => ?_)
  obtain ⟨hk1, hk2, rfl⟩ := hp
  obtain ⟨N, hN31, hk⟩ : ∃ j : Nat, j < 2 ^ 31 ∧ k = nI j := nI_of (nn_of hk1)
  refine lv_aload_n hx hb dX7_wouldCross_4 rfl (lv_at hl 0 rfl) ?_
  refine kR (rV (q0 := 0) (ci := 7) hx hb hml hown hg hN hK hP hD (c_freshPicture l D cI cJ cZ ad b F G R) mw_225 mw_226 mw_227 mw_228 mw_110 pdv_X7_freshPicture ⟨Nat.le_of_ble_eq_true rfl, Nat.le_of_ble_eq_true rfl⟩ rfl rfl rfl hl.1 rfl (Nat.le_of_ble_eq_true rfl) dX7_wouldCross_5 ⟨Nat.le_of_ble_eq_true rfl, Nat.le_of_ble_eq_true rfl⟩) hD hS hA (fun r_2 u_2 H locs hp hP hD hS => ?_)
  obtain ⟨rfl, b_3, F_4, G_5, rfl, h5b_3, h6b_3, hb_3⟩ := hp
  refine lv_iload_n hx hb dX7_wouldCross_8 rfl (lv_at hl 1 rfl) ?_
  refine kI (rV (q0 := 6) (ci := 3) hx hb hml hown hg hN hK hP hD (c_tryOut l D cI cJ cZ ad b_3 F_4 G_5 R k N hk hN31) mw_315 mw_316 mw_317 mw_318 mw_179 pdv_X3_tryOut ⟨Nat.le_of_ble_eq_true rfl, Nat.le_of_ble_eq_true rfl⟩ rfl rfl rfl hl.1 rfl (Nat.le_of_ble_eq_true rfl) dX7_wouldCross_9 ⟨Nat.le_of_ble_eq_true rfl, Nat.le_of_ble_eq_true rfl⟩) hD hS hA (fun r_6 u_6 H locs hp hP hD hS => ?_)
  obtain ⟨rfl, b_7, rfl⟩ := hp
  refine vx_ret ?_
  exact W.iret (v := 0) hx hb hr (fun t ht hW => ⟨⟨0, (XW ad cI cJ 0 b_7 F_4 G_5 ++ R), rfl, ⟨rfl, ⟨hk1, hk2⟩, _, _, _, _, rfl⟩, ⟨by rw [ht]; exact hP, va_K.moved hW.alike hK, hD⟩⟩, hS.F ht⟩) hS.2.2 dX7_wouldCross_12
set_option maxHeartbeats 4000000 in
set_option maxRecDepth 100000 in
theorem c_shift0 (l : Launch) (D : va_G) (cI cJ cZ : ClassId) (ad : Nat → Nat) (b : Nat → Int32) (F : Nat → Nat → Int32) (G : Nat → Nat → Int64) (R : va_W) (k k2 : Int32) : CT l D (TY cI cJ cZ) yX0_shiftTargets (.code yX0_shiftTargets cX0_shiftTargets 5 (none : Option FieldType)) 0 0 0 (XW ad cI cJ 0 b F G ++ R) [.ref (ad 1), .int k, .int k2] (QV D (TY cI cJ cZ) (fun u => u = XW ad cI cJ 0 b F G ++ R)) := by
  refine ent (by decide) (Nat.le_of_ble_eq_true rfl) ?_
  intro p e s m below meth c ls A hx hb hr hg hown hml hlocks hnm hP hK hD hS hA hN hl
  have hl : lv_has ls 5 [(0, .ref (ad 1)), (1, .int k), (2, .int k2)] := hl
  refine lv_iconst (v := 0) hx hb dX0_shiftTargets_0 (by decide) ?_
  refine lv_istore_n (lv' := [(3, .int 0), (0, .ref (ad 1)), (1, .int k), (2, .int k2)]) hx hb dX0_shiftTargets_1 rfl hl (by decide) rfl (fun ls hl => ?_)
  refine lv_iload_n hx hb dX0_shiftTargets_2 rfl (lv_at hl 0 rfl) ?_
  refine lv_aload_n hx hb dX0_shiftTargets_3 rfl (lv_at hl 1 rfl) ?_
  refine va_get (D := D) (ci := 0) (v := .int 0) (C := RX0) (T := TX0) (N := 5) hx hb hg inGX0 hown hK hP 1 rfl rfl 4 (by decide) (hg _ mw_319) (fun _ h9 => h9) rfl dX0_shiftTargets_4 ?_
  refine lv_icmp_ge (tgt := 49) hx hb dX0_shiftTargets_7 (by decide) (fun c_7 => ?_) (fun c_7 => absurd (by decide) c_7)
  exact W.vret hx hb hr (fun t ht hW => ⟨⟨(XW ad cI cJ 0 b F G ++ R), rfl, rfl, ⟨by rw [ht]; exact hP, va_K.moved hW.alike hK, hD⟩⟩, hS.F ht⟩) hS.2.2 dX0_shiftTargets_49
set_option maxHeartbeats 4000000 in
set_option maxRecDepth 100000 in
theorem c_add (l : Launch) (D : va_G) (cI cJ cZ : ClassId) (ad : Nat → Nat) (b : Nat → Int32) (F : Nat → Nat → Int32) (G : Nat → Nat → Int64) (R : va_W) (place kind target : Int32) (hp0 : 0 ≤ place) : CT l D (TY cI cJ cZ) yX0_add (.code yX0_add cX0_add 5 (none : Option FieldType)) 1 0 0 (XW ad cI cJ 0 b F G ++ R) [.ref (ad 1), .int place, .int kind, .int target] (QV D (TY cI cJ cZ) (fun u => ∃ F', u = XW ad cI cJ 1 b F' G ++ R)) := by
  refine ent (by decide) (Nat.le_of_ble_eq_true rfl) ?_
  intro p e s m below meth c ls A hx hb hr hg hown hml hlocks hnm hP hK hD hS hA hN hl
  have hl : lv_has ls 5 [(0, .ref (ad 1)), (1, .int place), (2, .int kind), (3, .int target)] := hl
  refine lv_aload_n hx hb dX0_add_0 rfl (lv_at hl 0 rfl) ?_
  refine lv_iload_n hx hb dX0_add_1 rfl (lv_at hl 1 rfl) ?_
  refine lv_iconst (v := 1) hx hb dX0_add_2 (by decide) ?_
  refine kV (rV (q0 := 1) (ci := 0) hx hb hml hown hg hN hK hP hD (c_shift0 l D cI cJ cZ ad b F G R place 1) mw_320 mw_321 mw_322 mw_323 mw_324 pdv_X0_shiftTargets ⟨Nat.le_of_ble_eq_true rfl, Nat.le_of_ble_eq_true rfl⟩ rfl rfl rfl hl.1 rfl (Nat.le_of_ble_eq_true rfl) dX0_add_3 ⟨Nat.le_of_ble_eq_true rfl, Nat.le_of_ble_eq_true rfl⟩) hD hS hA (fun u_1 H locs hp hP hD hS => ?_)
  obtain rfl := hp
  refine lv_aload_n hx hb dX0_add_6 rfl (lv_at hl 0 rfl) ?_
  refine va_get (D := D) (ci := 0) (v := .int 0) (C := RX0) (T := TX0) (N := 5) hx hb hg inGX0 hown hK hP 1 rfl rfl 4 (by decide) (hg _ mw_319) (fun _ h9 => h9) rfl dX0_add_7 ?_
  refine lv_istore (lv' := [(4, .int 0), (0, .ref (ad 1)), (1, .int place), (2, .int kind), (3, .int target)]) hx hb dX0_add_10 hl (by decide) rfl (fun ls hl => ?_)
  refine lv_iload hx hb dX0_add_12 (lv_at hl 0 rfl) ?_
  refine lv_iload_n hx hb dX0_add_14 rfl (lv_at hl 2 rfl) ?_
  refine lv_icmp_le (tgt := 34) hx hb dX0_add_15 (by decide) (fun c_15 => ?_) (fun c_15 => absurd hp0 c_15)
  refine lv_aload_n hx hb dX0_add_34 rfl (lv_at hl 1 rfl) ?_
  refine va_get (D := D) (ci := 0) (v := .ref (ad 8)) (C := RX0) (T := TX0) (N := 5) hx hb hg inGX0 hown hK hP 1 rfl rfl 0 (by decide) (hg _ mw_325) (fun _ h9 => h9) rfl dX0_add_35 ?_
  refine lv_iload_n hx hb dX0_add_38 rfl (lv_at hl 2 rfl) ?_
  refine lv_iload_n hx hb dX0_add_39 rfl (lv_at hl 3 rfl) ?_
  refine kV (rSN hx hb hml hown hg hN hK hP hD (c_put l D cI cJ cZ (XW ad cI cJ 0 b F G ++ R) 8 (ad 8) 40 (F 8) place kind rfl (by decide)) mw_108 nw_98 mw_109 mw_110 pd_X7_put ⟨Nat.le_of_ble_eq_true rfl, Nat.le_of_ble_eq_true rfl⟩ rfl hl.1 rfl (Nat.le_of_ble_eq_true rfl) dX0_add_40 ⟨Nat.le_of_ble_eq_true rfl, Nat.le_of_ble_eq_true rfl⟩) hD hS hA (fun u_2 H locs hp hP hD hS => ?_)
  obtain ⟨f_3, rfl, hp1, hp2⟩ := hp
  have hP : va_P D vwCl (XW ad cI cJ 0 b (va_up F 8 f_3) G ++ R) H := hP
  have hD : va_D A (XW ad cI cJ 0 b (va_up F 8 f_3) G ++ R) := hD
  refine lv_aload_n hx hb dX0_add_43 rfl (lv_at hl 1 rfl) ?_
  refine va_get (D := D) (ci := 0) (v := .ref (ad 9)) (C := RX0) (T := TX0) (N := 5) hx hb hg inGX0 hown hK hP 1 rfl rfl 1 (by decide) (hg _ mw_326) (fun _ h9 => h9) rfl dX0_add_44 ?_
  refine lv_iload_n hx hb dX0_add_47 rfl (lv_at hl 2 rfl) ?_
  refine lv_iload_n hx hb dX0_add_48 rfl (lv_at hl 4 rfl) ?_
  refine kV (rSN hx hb hml hown hg hN hK hP hD (c_put l D cI cJ cZ (XW ad cI cJ 0 b (va_up F 8 f_3) G ++ R) 9 (ad 9) 40 ((va_up F 8 f_3) 9) place target rfl (by decide)) mw_108 nw_98 mw_109 mw_110 pd_X7_put ⟨Nat.le_of_ble_eq_true rfl, Nat.le_of_ble_eq_true rfl⟩ rfl hl.1 rfl (Nat.le_of_ble_eq_true rfl) dX0_add_49 ⟨Nat.le_of_ble_eq_true rfl, Nat.le_of_ble_eq_true rfl⟩) hD hS hA (fun u_4 H locs hp hP hD hS => ?_)
  obtain ⟨f_5, rfl, hp1, hp2⟩ := hp
  have hP : va_P D vwCl (XW ad cI cJ 0 b (va_up (va_up F 8 f_3) 9 f_5) G ++ R) H := hP
  have hD : va_D A (XW ad cI cJ 0 b (va_up (va_up F 8 f_3) 9 f_5) G ++ R) := hD
  refine lv_aload_n hx hb dX0_add_52 rfl (lv_at hl 1 rfl) ?_
  refine va_get (D := D) (ci := 0) (v := .ref (ad 10)) (C := RX0) (T := TX0) (N := 5) hx hb hg inGX0 hown hK hP 1 rfl rfl 2 (by decide) (hg _ mw_327) (fun _ h9 => h9) rfl dX0_add_53 ?_
  refine lv_iload_n hx hb dX0_add_56 rfl (lv_at hl 2 rfl) ?_
  refine lv_iconst (v := (-1)) hx hb dX0_add_57 (by decide) ?_
  refine kV (rSN hx hb hml hown hg hN hK hP hD (c_put l D cI cJ cZ (XW ad cI cJ 0 b (va_up (va_up F 8 f_3) 9 f_5) G ++ R) 10 (ad 10) 40 ((va_up (va_up F 8 f_3) 9 f_5) 10) place (-1) rfl (by decide)) mw_108 nw_98 mw_109 mw_110 pd_X7_put ⟨Nat.le_of_ble_eq_true rfl, Nat.le_of_ble_eq_true rfl⟩ rfl hl.1 rfl (Nat.le_of_ble_eq_true rfl) dX0_add_58 ⟨Nat.le_of_ble_eq_true rfl, Nat.le_of_ble_eq_true rfl⟩) hD hS hA (fun u_6 H locs hp hP hD hS => ?_)
  obtain ⟨f_7, rfl, hp1, hp2⟩ := hp
  have hP : va_P D vwCl (XW ad cI cJ 0 b (va_up (va_up (va_up F 8 f_3) 9 f_5) 10 f_7) G ++ R) H := hP
  have hD : va_D A (XW ad cI cJ 0 b (va_up (va_up (va_up F 8 f_3) 9 f_5) 10 f_7) G ++ R) := hD
  refine lv_aload_n hx hb dX0_add_61 rfl (lv_at hl 1 rfl) ?_
  refine va_get (D := D) (ci := 0) (v := .ref (ad 11)) (C := RX0) (T := TX0) (N := 5) hx hb hg inGX0 hown hK hP 1 rfl rfl 3 (by decide) (hg _ mw_328) (fun _ h9 => h9) rfl dX0_add_62 ?_
  refine lv_iload_n hx hb dX0_add_65 rfl (lv_at hl 2 rfl) ?_
  refine lv_iconst (v := 0) hx hb dX0_add_66 (by decide) ?_
  refine kV (rSN hx hb hml hown hg hN hK hP hD (c_put l D cI cJ cZ (XW ad cI cJ 0 b (va_up (va_up (va_up F 8 f_3) 9 f_5) 10 f_7) G ++ R) 11 (ad 11) 40 ((va_up (va_up (va_up F 8 f_3) 9 f_5) 10 f_7) 11) place 0 rfl (by decide)) mw_108 nw_98 mw_109 mw_110 pd_X7_put ⟨Nat.le_of_ble_eq_true rfl, Nat.le_of_ble_eq_true rfl⟩ rfl hl.1 rfl (Nat.le_of_ble_eq_true rfl) dX0_add_67 ⟨Nat.le_of_ble_eq_true rfl, Nat.le_of_ble_eq_true rfl⟩) hD hS hA (fun u_8 H locs hp hP hD hS => ?_)
  obtain ⟨f_9, rfl, hp1, hp2⟩ := hp
  have hP : va_P D vwCl (XW ad cI cJ 0 b (va_up (va_up (va_up (va_up F 8 f_3) 9 f_5) 10 f_7) 11 f_9) G ++ R) H := hP
  have hD : va_D A (XW ad cI cJ 0 b (va_up (va_up (va_up (va_up F 8 f_3) 9 f_5) 10 f_7) 11 f_9) G ++ R) := hD
  refine lv_aload_n hx hb dX0_add_70 rfl (lv_at hl 1 rfl) ?_
  refine lv_dup hx hb dX0_add_71 rfl ?_
  refine va_get (D := D) (ci := 0) (v := .int 0) (C := RX0) (T := TX0) (N := 5) hx hb hg inGX0 hown hK hP 1 rfl rfl 4 (by decide) (hg _ mw_319) (fun _ h9 => h9) rfl dX0_add_72 ?_
  refine lv_iconst (v := 1) hx hb dX0_add_75 (by decide) ?_
  refine lv_iadd hx hb dX0_add_76 ?_
  refine lv_topi (fun v_10 ev_10 => ?_)
  obtain rfl : v_10 = (1 : Int32) := ev_10.trans (by decide)
  refine va_put (D := D) (ci := 0) (v := .int 1) (C := RX0) (T := TX0) (N := 5) hx hb hg inGX0 tyX0 tyX0_ok nmX0 hown hK hP hD hS 1 rfl rfl 4 (by decide) (hg _ mw_319) (fun _ h9 => h9) rfl (tyX0_ok 4 (by decide)) rfl rfl (Nat.le_of_ble_eq_true rfl) dX0_add_77 (fun H locs hP hD hS => ?_)
  have hP : va_P D vwCl (XW ad cI cJ 1 b (va_up (va_up (va_up (va_up F 8 f_3) 9 f_5) 10 f_7) 11 f_9) G ++ R) H := hP
  have hD : va_D A (XW ad cI cJ 1 b (va_up (va_up (va_up (va_up F 8 f_3) 9 f_5) 10 f_7) 11 f_9) G ++ R) := hD
  exact W.vret hx hb hr (fun t ht hW => ⟨⟨(XW ad cI cJ 1 b (va_up (va_up (va_up (va_up F 8 f_3) 9 f_5) 10 f_7) 11 f_9) G ++ R), rfl, ⟨_, rfl⟩, ⟨by rw [ht]; exact hP, va_K.moved hW.alike hK, hD⟩⟩, hS.F ht⟩) hS.2.2 dX0_add_80
set_option maxHeartbeats 4000000 in
set_option maxRecDepth 100000 in
theorem c_forget (l : Launch) (D : va_G) (cI cJ cZ : ClassId) (ad : Nat → Nat) (b : Nat → Int32) (F : Nat → Nat → Int32) (G : Nat → Nat → Int64) (R : va_W) (n : Int32) : CT l D (TY cI cJ cZ) yX7_forget (.code yX7_forget cX7_forget 1 (none : Option FieldType)) 0 0 0 (XW ad cI cJ n b F G ++ R) [.ref (ad 0)] (QV D (TY cI cJ cZ) (fun u => ∃ b', u = XW ad cI cJ n b' F G ++ R)) := by
  refine ent (by decide) (Nat.le_of_ble_eq_true rfl) ?_
  intro p e s m below meth c ls A hx hb hr hg hown hml hlocks hnm hP hK hD hS hA hN hl
  have hl : lv_has ls 1 [(0, .ref (ad 0))] := hl
  refine lv_aload_n hx hb dX7_forget_0 rfl (lv_at hl 0 rfl) ?_
  refine va_get (D := D) (ci := 7) (v := .ref (ad 2)) (C := RX7) (T := TX7) (N := 6) hx hb hg inGX7 hown hK hP 0 rfl rfl 1 (by decide) (hg _ mw_112) (fun _ h9 => h9) rfl dX7_forget_1 ?_
  refine lv_iconst (v := 0) hx hb dX7_forget_4 (by decide) ?_
  refine va_putN (D := D) (ci := 1) (v := .int 0) (C := RX1) (T := TX1) (N := 11) hx hb hg inGX1 tyX1 tyX1_ok nmX1 hown hK hP hD hS 2 rfl rfl 10 (by decide) (hN.use nw_36) (fun _ h9 => h9) rfl (tyX1_ok 10 (by decide)) rfl rfl (Nat.le_of_ble_eq_true rfl) dX7_forget_5 (fun H locs hP hD hS => ?_)
  have hP : va_P D vwCl (XW ad cI cJ n (va_up b 0 0) F G ++ R) H := hP
  have hD : va_D A (XW ad cI cJ n (va_up b 0 0) F G ++ R) := hD
  refine lv_aload_n hx hb dX7_forget_8 rfl (lv_at hl 0 rfl) ?_
  refine va_get (D := D) (ci := 7) (v := .ref (ad 3)) (C := RX7) (T := TX7) (N := 6) hx hb hg inGX7 hown hK hP 0 rfl rfl 2 (by decide) (hg _ mw_133) (fun _ h9 => h9) rfl dX7_forget_9 ?_
  refine lv_iconst (v := 0) hx hb dX7_forget_12 (by decide) ?_
  refine va_putN (D := D) (ci := 4) (v := .int 0) (C := RX4) (T := TX4) (N := 7) hx hb hg inGX4 tyX4 tyX4_ok nmX4 hown hK hP hD hS 3 rfl rfl 6 (by decide) (hN.use nw_41) (fun _ h9 => h9) rfl (tyX4_ok 6 (by decide)) rfl rfl (Nat.le_of_ble_eq_true rfl) dX7_forget_13 (fun H locs hP hD hS => ?_)
  have hP : va_P D vwCl (XW ad cI cJ n (va_up (va_up b 0 0) 2 0) F G ++ R) H := hP
  have hD : va_D A (XW ad cI cJ n (va_up (va_up b 0 0) 2 0) F G ++ R) := hD
  refine lv_aload_n hx hb dX7_forget_16 rfl (lv_at hl 0 rfl) ?_
  refine va_get (D := D) (ci := 7) (v := .ref (ad 4)) (C := RX7) (T := TX7) (N := 6) hx hb hg inGX7 hown hK hP 0 rfl rfl 3 (by decide) (hg _ mw_204) (fun _ h9 => h9) rfl dX7_forget_17 ?_
  refine lv_iconst (v := 0) hx hb dX7_forget_20 (by decide) ?_
  refine va_putN (D := D) (ci := 2) (v := .int 0) (C := RX2) (T := TX2) (N := 3) hx hb hg inGX2 tyX2 tyX2_ok nmX2 hown hK hP hD hS 4 rfl rfl 2 (by decide) (hN.use nw_45) (fun _ h9 => h9) rfl (tyX2_ok 2 (by decide)) rfl rfl (Nat.le_of_ble_eq_true rfl) dX7_forget_21 (fun H locs hP hD hS => ?_)
  have hP : va_P D vwCl (XW ad cI cJ n (va_up (va_up (va_up b 0 0) 2 0) 3 0) F G ++ R) H := hP
  have hD : va_D A (XW ad cI cJ n (va_up (va_up (va_up b 0 0) 2 0) 3 0) F G ++ R) := hD
  refine lv_aload_n hx hb dX7_forget_24 rfl (lv_at hl 0 rfl) ?_
  refine va_get (D := D) (ci := 7) (v := .ref (ad 5)) (C := RX7) (T := TX7) (N := 6) hx hb hg inGX7 hown hK hP 0 rfl rfl 4 (by decide) (hg _ mw_209) (fun _ h9 => h9) rfl dX7_forget_25 ?_
  refine lv_iconst (v := 0) hx hb dX7_forget_28 (by decide) ?_
  refine va_putN (D := D) (ci := 5) (v := .int 0) (C := RX5) (T := TX5) (N := 8) hx hb hg inGX5 tyX5 tyX5_ok nmX5 hown hK hP hD hS 5 rfl rfl 7 (by decide) (hN.use nw_52) (fun _ h9 => h9) rfl (tyX5_ok 7 (by decide)) rfl rfl (Nat.le_of_ble_eq_true rfl) dX7_forget_29 (fun H locs hP hD hS => ?_)
  have hP : va_P D vwCl (XW ad cI cJ n (va_up (va_up (va_up (va_up b 0 0) 2 0) 3 0) 4 0) F G ++ R) H := hP
  have hD : va_D A (XW ad cI cJ n (va_up (va_up (va_up (va_up b 0 0) 2 0) 3 0) 4 0) F G ++ R) := hD
  refine lv_aload_n hx hb dX7_forget_32 rfl (lv_at hl 0 rfl) ?_
  refine va_get (D := D) (ci := 7) (v := .ref (ad 6)) (C := RX7) (T := TX7) (N := 6) hx hb hg inGX7 hown hK hP 0 rfl rfl 5 (by decide) (hg _ mw_214) (fun _ h9 => h9) rfl dX7_forget_33 ?_
  refine lv_iconst (v := 0) hx hb dX7_forget_36 (by decide) ?_
  refine va_putN (D := D) (ci := 3) (v := .int 0) (C := RX3) (T := TX3) (N := 16) hx hb hg inGX3 tyX3 tyX3_ok nmX3 hown hK hP hD hS 6 rfl rfl 15 (by decide) (hN.use nw_64) (fun _ h9 => h9) rfl (tyX3_ok 15 (by decide)) rfl rfl (Nat.le_of_ble_eq_true rfl) dX7_forget_37 (fun H locs hP hD hS => ?_)
  have hP : va_P D vwCl (XW ad cI cJ n (va_up (va_up (va_up (va_up (va_up b 0 0) 2 0) 3 0) 4 0) 6 0) F G ++ R) H := hP
  have hD : va_D A (XW ad cI cJ n (va_up (va_up (va_up (va_up (va_up b 0 0) 2 0) 3 0) 4 0) 6 0) F G ++ R) := hD
  exact W.vret hx hb hr (fun t ht hW => ⟨⟨(XW ad cI cJ n (va_up (va_up (va_up (va_up (va_up b 0 0) 2 0) 3 0) 4 0) 6 0) F G ++ R), rfl, ⟨_, rfl⟩, ⟨by rw [ht]; exact hP, va_K.moved hW.alike hK, hD⟩⟩, hS.F ht⟩) hS.2.2 dX7_forget_40
set_option maxHeartbeats 4000000 in
set_option maxRecDepth 100000 in
theorem p_insert (l : Launch) (hfl : l.stackTraces = false) (D : va_G) (cI cJ cZ : ClassId) (ad : Nat → Nat) (b : Nat → Int32) (F : Nat → Nat → Int32) (G : Nat → Nat → Int64) (R : va_W) (place kind target : Int32) : CX l D (TY cI cJ cZ) yX7_insert (.code yX7_insert cX7_insert 4 (some Jvm.ClassFile.FieldType.int)) 7 1 6 (XW ad cI cJ 0 b F G ++ R) [.ref (ad 0), .int place, .int kind, .int target] (QI D (TY cI cJ cZ) (fun r u => r = 1 ∧ OKI place kind target ∧ ∃ n' b' F' G', u = XW ad cI cJ n' b' F' G' ++ R)) EIAE (¬ OKI place kind target) := by
  refine entX (by decide) (Nat.le_of_ble_eq_true rfl) ?_
  intro p e s m below meth c ls A hx hb hr hg hown hml hlocks hnm hP hK hD hS hA hN hl hE hST hSR hAw
  have hl : lv_has ls 4 [(0, .ref (ad 0)), (1, .int place), (2, .int kind), (3, .int target)] := hl
  refine lv_iload_n hx hb dX7_insert_0 rfl (lv_at hl 1 rfl) ?_
  refine lv_if_lt (tgt := 15) hx hb dX7_insert_1 (by decide) (fun c_1 => ?_) (fun c_1 => ?_)
  · obtain ⟨sa9, hsa9⟩ := hSR (57, "no such place") (List.mem_of_getElem? (i := 0) rfl)
    exact vx_throwS (names := ENM) (cls := EIAE) hx hb hfl hown fitE.1 fitE.2.2 (hg _ mw_229) (hg _ mw_230) hsa9 (hat_of at1a at1b hg hN) gd1 hST.1 hST.2 hS (by rw [hml]; exact hl.1) dX7_insert_15 dX7_insert_18 dX7_insert_19 dX7_insert_21 dX7_insert_24 (fun x hx9 => (hE x hx9).elim) (Nat.le_of_ble_eq_true rfl) (Nat.le_of_ble_eq_true rfl) (Nat.le_of_ble_eq_true rfl) (Nat.le_of_ble_eq_true rfl) hlocks (xE rfl (by first | exact fun h => h.1 c_1 | exact fun h => c_12 h.2.1) hS) hS.2.2 (Nat.le_of_ble_eq_true rfl) (Nat.le_of_ble_eq_true rfl)
  · refine lv_iload_n hx hb dX7_insert_4 rfl (lv_at hl 1 rfl) ?_
    refine lv_aload_n hx hb dX7_insert_5 rfl (lv_at hl 0 rfl) ?_
    refine va_get (D := D) (ci := 7) (v := .ref (ad 1)) (C := RX7) (T := TX7) (N := 6) hx hb hg inGX7 hown hK hP 0 rfl rfl 0 (by decide) (hg _ mw_113) (fun _ h9 => h9) rfl dX7_insert_6 ?_
    refine va_getN (D := D) (ci := 0) (v := .int 0) (C := RX0) (T := TX0) (N := 5) hx hb hg inGX0 hown hK hP 1 rfl rfl 4 (by decide) (hN.use nw_10) (fun _ h9 => h9) rfl dX7_insert_9 ?_
    refine lv_icmp_le (tgt := 25) hx hb dX7_insert_12 (by decide) (fun c_12 => ?_) (fun c_12 => ?_)
    · refine lv_iload_n hx hb dX7_insert_25 rfl (lv_at hl 2 rfl) ?_
      refine lv_if_lt (tgt := 34) hx hb dX7_insert_26 (by decide) (fun c_26 => ?_) (fun c_26 => ?_)
      · obtain ⟨sa9, hsa9⟩ := hSR (62, "no such kind") (List.mem_of_getElem? (i := 1) rfl)
        exact vx_throwS (names := ENM) (cls := EIAE) hx hb hfl hown fitE.1 fitE.2.2 (hg _ mw_229) (hg _ mw_230) hsa9 (hat_of at1a at1b hg hN) gd1 hST.1 hST.2 hS (by rw [hml]; exact hl.1) dX7_insert_34 dX7_insert_37 dX7_insert_38 dX7_insert_40 dX7_insert_43 (fun x hx9 => (hE x hx9).elim) (Nat.le_of_ble_eq_true rfl) (Nat.le_of_ble_eq_true rfl) (Nat.le_of_ble_eq_true rfl) (Nat.le_of_ble_eq_true rfl) hlocks (xE rfl (by first | exact fun h => h.2.2.1 c_26 | exact fun h => c_31 h.2.2.2.1) hS) hS.2.2 (Nat.le_of_ble_eq_true rfl) (Nat.le_of_ble_eq_true rfl)
      · refine lv_iload_n hx hb dX7_insert_29 rfl (lv_at hl 2 rfl) ?_
        refine lv_iconst (v := 3) hx hb dX7_insert_30 (by decide) ?_
        refine lv_icmp_le (tgt := 44) hx hb dX7_insert_31 (by decide) (fun c_31 => ?_) (fun c_31 => ?_)
        · refine lv_iload_n hx hb dX7_insert_44 rfl (lv_at hl 2 rfl) ?_
          refine kI (rS hx hb hml hown hg hN hK hP hD (c_jumps l D cI cJ cZ (XW ad cI cJ 0 b F G ++ R) kind) mw_329 mw_330 mw_331 mw_110 pd_X7_jumps ⟨Nat.le_of_ble_eq_true rfl, Nat.le_of_ble_eq_true rfl⟩ rfl hl.1 rfl (Nat.le_of_ble_eq_true rfl) dX7_insert_45 ⟨Nat.le_of_ble_eq_true rfl, Nat.le_of_ble_eq_true rfl⟩) hD hS hA (fun r_1 u_1 H locs hp hP hD hS => ?_)
          obtain ⟨hjr_1, rfl⟩ := hp
          refine lv_if_eq (tgt := 68) hx hb dX7_insert_48 (by decide) (fun c_48 => ?_) (fun c_48 => ?_)
          · refine lv_aload_n hx hb dX7_insert_68 rfl (lv_at hl 0 rfl) ?_
            refine va_get (D := D) (ci := 7) (v := .ref (ad 1)) (C := RX7) (T := TX7) (N := 6) hx hb hg inGX7 hown hK hP 0 rfl rfl 0 (by decide) (hg _ mw_113) (fun _ h9 => h9) rfl dX7_insert_69 ?_
            refine va_getN (D := D) (ci := 0) (v := .int 0) (C := RX0) (T := TX0) (N := 5) hx hb hg inGX0 hown hK hP 1 rfl rfl 4 (by decide) (hN.use nw_10) (fun _ h9 => h9) rfl dX7_insert_72 ?_
            refine lv_bipush (v := 40) hx hb dX7_insert_75 (by decide) ?_
            refine lv_icmp_lt (tgt := 90) hx hb dX7_insert_77 (by decide) (fun c_77 => ?_) (fun c_77 => absurd (by decide) c_77)
            refine lv_aload_n hx hb dX7_insert_90 rfl (lv_at hl 0 rfl) ?_
            refine va_get (D := D) (ci := 7) (v := .ref (ad 1)) (C := RX7) (T := TX7) (N := 6) hx hb hg inGX7 hown hK hP 0 rfl rfl 0 (by decide) (hg _ mw_113) (fun _ h9 => h9) rfl dX7_insert_91 ?_
            refine lv_iload_n hx hb dX7_insert_94 rfl (lv_at hl 1 rfl) ?_
            refine lv_iload_n hx hb dX7_insert_95 rfl (lv_at hl 2 rfl) ?_
            refine lv_iload_n hx hb dX7_insert_96 rfl (lv_at hl 2 rfl) ?_
            refine kI (rS hx hb hml hown hg hN hK hP hD (c_jumps l D cI cJ cZ (XW ad cI cJ 0 b F G ++ R) kind) mw_329 mw_330 mw_331 mw_110 pd_X7_jumps ⟨Nat.le_of_ble_eq_true rfl, Nat.le_of_ble_eq_true rfl⟩ rfl hl.1 rfl (Nat.le_of_ble_eq_true rfl) dX7_insert_97 ⟨Nat.le_of_ble_eq_true rfl, Nat.le_of_ble_eq_true rfl⟩) hD hS hA (fun r_2 u_2 H locs hp hP hD hS => ?_)
            obtain ⟨hjr_2, rfl⟩ := hp
            refine lv_if_eq (tgt := 107) hx hb dX7_insert_100 (by decide) (fun c_100 => ?_) (fun c_100 => ?_)
            · refine lv_iconst (v := 0) hx hb dX7_insert_107 (by decide) ?_
              refine kV (rV (q0 := 1) (ci := 0) hx hb hml hown hg hN hK hP hD (c_add l D cI cJ cZ ad b F G R place kind 0 (le_of_nlt0 c_1)) mw_332 mw_333 mw_334 mw_335 mw_324 pdv_X0_add ⟨Nat.le_of_ble_eq_true rfl, Nat.le_of_ble_eq_true rfl⟩ rfl rfl rfl hl.1 rfl (Nat.le_of_ble_eq_true rfl) dX7_insert_108 ⟨Nat.le_of_ble_eq_true rfl, Nat.le_of_ble_eq_true rfl⟩) hD hS hA (fun u_3 H locs hp hP hD hS => ?_)
              obtain ⟨F_5, rfl⟩ := hp
              refine lv_aload_n hx hb dX7_insert_111 rfl (lv_at hl 0 rfl) ?_
              refine kV (rV (q0 := 0) (ci := 7) hx hb hml hown hg hN hK hP hD (c_forget l D cI cJ cZ ad b F_5 G R 1) mw_336 mw_337 mw_338 mw_339 mw_110 pdv_X7_forget ⟨Nat.le_of_ble_eq_true rfl, Nat.le_of_ble_eq_true rfl⟩ rfl rfl rfl hl.1 rfl (Nat.le_of_ble_eq_true rfl) dX7_insert_112 ⟨Nat.le_of_ble_eq_true rfl, Nat.le_of_ble_eq_true rfl⟩) hD hS hA (fun u_7 H locs hp hP hD hS => ?_)
              obtain ⟨b_8, rfl⟩ := hp
              refine lv_aload_n hx hb dX7_insert_115 rfl (lv_at hl 0 rfl) ?_
              refine va_get (D := D) (ci := 7) (v := .ref (ad 1)) (C := RX7) (T := TX7) (N := 6) hx hb hg inGX7 hown hK hP 0 rfl rfl 0 (by decide) (hg _ mw_113) (fun _ h9 => h9) rfl dX7_insert_116 ?_
              refine va_getN (D := D) (ci := 0) (v := .int 1) (C := RX0) (T := TX0) (N := 5) hx hb hg inGX0 hown hK hP 1 rfl rfl 4 (by decide) (hN.use nw_10) (fun _ h9 => h9) rfl dX7_insert_119 ?_
              refine W.widen (k := 1) (n := 6) (Nat.le_of_ble_eq_true rfl) (Nat.le_of_ble_eq_true rfl) ?_
              refine vx_ret ?_
              exact W.iret (v := 1) hx hb hr (fun t ht hW => ⟨⟨1, (XW ad cI cJ 1 b_8 F_5 G ++ R), rfl, ⟨rfl, ⟨c_1, c_12, c_26, c_31, by first | exact oki_no hjr_1 c_48 | exact oki_yes c_1 c_55⟩, _, _, _, _, rfl⟩, ⟨by rw [ht]; exact hP, va_K.moved hW.alike hK, hD⟩⟩, hS.F ht⟩) hS.2.2 dX7_insert_122
            · refine lv_iload_n hx hb dX7_insert_103 rfl (lv_at hl 3 rfl) ?_
              refine lv_goto (tgt := 108) hx hb dX7_insert_104 (by decide) ?_
              refine kV (rV (q0 := 1) (ci := 0) hx hb hml hown hg hN hK hP hD (c_add l D cI cJ cZ ad b F G R place kind target (le_of_nlt0 c_1)) mw_332 mw_333 mw_334 mw_335 mw_324 pdv_X0_add ⟨Nat.le_of_ble_eq_true rfl, Nat.le_of_ble_eq_true rfl⟩ rfl rfl rfl hl.1 rfl (Nat.le_of_ble_eq_true rfl) dX7_insert_108 ⟨Nat.le_of_ble_eq_true rfl, Nat.le_of_ble_eq_true rfl⟩) hD hS hA (fun u_11 H locs hp hP hD hS => ?_)
              obtain ⟨F_13, rfl⟩ := hp
              refine lv_aload_n hx hb dX7_insert_111 rfl (lv_at hl 0 rfl) ?_
              refine kV (rV (q0 := 0) (ci := 7) hx hb hml hown hg hN hK hP hD (c_forget l D cI cJ cZ ad b F_13 G R 1) mw_336 mw_337 mw_338 mw_339 mw_110 pdv_X7_forget ⟨Nat.le_of_ble_eq_true rfl, Nat.le_of_ble_eq_true rfl⟩ rfl rfl rfl hl.1 rfl (Nat.le_of_ble_eq_true rfl) dX7_insert_112 ⟨Nat.le_of_ble_eq_true rfl, Nat.le_of_ble_eq_true rfl⟩) hD hS hA (fun u_15 H locs hp hP hD hS => ?_)
              obtain ⟨b_16, rfl⟩ := hp
              refine lv_aload_n hx hb dX7_insert_115 rfl (lv_at hl 0 rfl) ?_
              refine va_get (D := D) (ci := 7) (v := .ref (ad 1)) (C := RX7) (T := TX7) (N := 6) hx hb hg inGX7 hown hK hP 0 rfl rfl 0 (by decide) (hg _ mw_113) (fun _ h9 => h9) rfl dX7_insert_116 ?_
              refine va_getN (D := D) (ci := 0) (v := .int 1) (C := RX0) (T := TX0) (N := 5) hx hb hg inGX0 hown hK hP 1 rfl rfl 4 (by decide) (hN.use nw_10) (fun _ h9 => h9) rfl dX7_insert_119 ?_
              refine W.widen (k := 1) (n := 6) (Nat.le_of_ble_eq_true rfl) (Nat.le_of_ble_eq_true rfl) ?_
              refine vx_ret ?_
              exact W.iret (v := 1) hx hb hr (fun t ht hW => ⟨⟨1, (XW ad cI cJ 1 b_16 F_13 G ++ R), rfl, ⟨rfl, ⟨c_1, c_12, c_26, c_31, by first | exact oki_no hjr_1 c_48 | exact oki_yes c_1 c_55⟩, _, _, _, _, rfl⟩, ⟨by rw [ht]; exact hP, va_K.moved hW.alike hK, hD⟩⟩, hS.F ht⟩) hS.2.2 dX7_insert_122
          · refine lv_iload_n hx hb dX7_insert_51 rfl (lv_at hl 3 rfl) ?_
            refine kI (rS hx hb hml hown hg hN hK hP hD (c_isTarget l D cI cJ cZ (XW ad cI cJ 0 b F G ++ R) target) mw_340 mw_341 mw_342 mw_110 pd_X7_isTarget ⟨Nat.le_of_ble_eq_true rfl, Nat.le_of_ble_eq_true rfl⟩ rfl hl.1 rfl (Nat.le_of_ble_eq_true rfl) dX7_insert_52 ⟨Nat.le_of_ble_eq_true rfl, Nat.le_of_ble_eq_true rfl⟩) hD hS hA (fun r_19 u_19 H locs hp hP hD hS => ?_)
            obtain ⟨htr_19, rfl⟩ := hp
            refine lv_if_ne (tgt := 68) hx hb dX7_insert_55 (by decide) (fun c_55 => ?_) (fun c_55 => ?_)
            · refine lv_aload_n hx hb dX7_insert_68 rfl (lv_at hl 0 rfl) ?_
              refine va_get (D := D) (ci := 7) (v := .ref (ad 1)) (C := RX7) (T := TX7) (N := 6) hx hb hg inGX7 hown hK hP 0 rfl rfl 0 (by decide) (hg _ mw_113) (fun _ h9 => h9) rfl dX7_insert_69 ?_
              refine va_getN (D := D) (ci := 0) (v := .int 0) (C := RX0) (T := TX0) (N := 5) hx hb hg inGX0 hown hK hP 1 rfl rfl 4 (by decide) (hN.use nw_10) (fun _ h9 => h9) rfl dX7_insert_72 ?_
              refine lv_bipush (v := 40) hx hb dX7_insert_75 (by decide) ?_
              refine lv_icmp_lt (tgt := 90) hx hb dX7_insert_77 (by decide) (fun c_77 => ?_) (fun c_77 => absurd (by decide) c_77)
              refine lv_aload_n hx hb dX7_insert_90 rfl (lv_at hl 0 rfl) ?_
              refine va_get (D := D) (ci := 7) (v := .ref (ad 1)) (C := RX7) (T := TX7) (N := 6) hx hb hg inGX7 hown hK hP 0 rfl rfl 0 (by decide) (hg _ mw_113) (fun _ h9 => h9) rfl dX7_insert_91 ?_
              refine lv_iload_n hx hb dX7_insert_94 rfl (lv_at hl 1 rfl) ?_
              refine lv_iload_n hx hb dX7_insert_95 rfl (lv_at hl 2 rfl) ?_
              refine lv_iload_n hx hb dX7_insert_96 rfl (lv_at hl 2 rfl) ?_
              refine kI (rS hx hb hml hown hg hN hK hP hD (c_jumps l D cI cJ cZ (XW ad cI cJ 0 b F G ++ R) kind) mw_329 mw_330 mw_331 mw_110 pd_X7_jumps ⟨Nat.le_of_ble_eq_true rfl, Nat.le_of_ble_eq_true rfl⟩ rfl hl.1 rfl (Nat.le_of_ble_eq_true rfl) dX7_insert_97 ⟨Nat.le_of_ble_eq_true rfl, Nat.le_of_ble_eq_true rfl⟩) hD hS hA (fun r_20 u_20 H locs hp hP hD hS => ?_)
              obtain ⟨hjr_20, rfl⟩ := hp
              refine lv_if_eq (tgt := 107) hx hb dX7_insert_100 (by decide) (fun c_100 => ?_) (fun c_100 => ?_)
              · refine lv_iconst (v := 0) hx hb dX7_insert_107 (by decide) ?_
                refine kV (rV (q0 := 1) (ci := 0) hx hb hml hown hg hN hK hP hD (c_add l D cI cJ cZ ad b F G R place kind 0 (le_of_nlt0 c_1)) mw_332 mw_333 mw_334 mw_335 mw_324 pdv_X0_add ⟨Nat.le_of_ble_eq_true rfl, Nat.le_of_ble_eq_true rfl⟩ rfl rfl rfl hl.1 rfl (Nat.le_of_ble_eq_true rfl) dX7_insert_108 ⟨Nat.le_of_ble_eq_true rfl, Nat.le_of_ble_eq_true rfl⟩) hD hS hA (fun u_21 H locs hp hP hD hS => ?_)
                obtain ⟨F_23, rfl⟩ := hp
                refine lv_aload_n hx hb dX7_insert_111 rfl (lv_at hl 0 rfl) ?_
                refine kV (rV (q0 := 0) (ci := 7) hx hb hml hown hg hN hK hP hD (c_forget l D cI cJ cZ ad b F_23 G R 1) mw_336 mw_337 mw_338 mw_339 mw_110 pdv_X7_forget ⟨Nat.le_of_ble_eq_true rfl, Nat.le_of_ble_eq_true rfl⟩ rfl rfl rfl hl.1 rfl (Nat.le_of_ble_eq_true rfl) dX7_insert_112 ⟨Nat.le_of_ble_eq_true rfl, Nat.le_of_ble_eq_true rfl⟩) hD hS hA (fun u_25 H locs hp hP hD hS => ?_)
                obtain ⟨b_26, rfl⟩ := hp
                refine lv_aload_n hx hb dX7_insert_115 rfl (lv_at hl 0 rfl) ?_
                refine va_get (D := D) (ci := 7) (v := .ref (ad 1)) (C := RX7) (T := TX7) (N := 6) hx hb hg inGX7 hown hK hP 0 rfl rfl 0 (by decide) (hg _ mw_113) (fun _ h9 => h9) rfl dX7_insert_116 ?_
                refine va_getN (D := D) (ci := 0) (v := .int 1) (C := RX0) (T := TX0) (N := 5) hx hb hg inGX0 hown hK hP 1 rfl rfl 4 (by decide) (hN.use nw_10) (fun _ h9 => h9) rfl dX7_insert_119 ?_
                refine W.widen (k := 1) (n := 6) (Nat.le_of_ble_eq_true rfl) (Nat.le_of_ble_eq_true rfl) ?_
                refine vx_ret ?_
                exact W.iret (v := 1) hx hb hr (fun t ht hW => ⟨⟨1, (XW ad cI cJ 1 b_26 F_23 G ++ R), rfl, ⟨rfl, ⟨c_1, c_12, c_26, c_31, by first | exact oki_no hjr_1 c_48 | exact oki_yes htr_19 c_55⟩, _, _, _, _, rfl⟩, ⟨by rw [ht]; exact hP, va_K.moved hW.alike hK, hD⟩⟩, hS.F ht⟩) hS.2.2 dX7_insert_122
              · refine lv_iload_n hx hb dX7_insert_103 rfl (lv_at hl 3 rfl) ?_
                refine lv_goto (tgt := 108) hx hb dX7_insert_104 (by decide) ?_
                refine kV (rV (q0 := 1) (ci := 0) hx hb hml hown hg hN hK hP hD (c_add l D cI cJ cZ ad b F G R place kind target (le_of_nlt0 c_1)) mw_332 mw_333 mw_334 mw_335 mw_324 pdv_X0_add ⟨Nat.le_of_ble_eq_true rfl, Nat.le_of_ble_eq_true rfl⟩ rfl rfl rfl hl.1 rfl (Nat.le_of_ble_eq_true rfl) dX7_insert_108 ⟨Nat.le_of_ble_eq_true rfl, Nat.le_of_ble_eq_true rfl⟩) hD hS hA (fun u_29 H locs hp hP hD hS => ?_)
                obtain ⟨F_31, rfl⟩ := hp
                refine lv_aload_n hx hb dX7_insert_111 rfl (lv_at hl 0 rfl) ?_
                refine kV (rV (q0 := 0) (ci := 7) hx hb hml hown hg hN hK hP hD (c_forget l D cI cJ cZ ad b F_31 G R 1) mw_336 mw_337 mw_338 mw_339 mw_110 pdv_X7_forget ⟨Nat.le_of_ble_eq_true rfl, Nat.le_of_ble_eq_true rfl⟩ rfl rfl rfl hl.1 rfl (Nat.le_of_ble_eq_true rfl) dX7_insert_112 ⟨Nat.le_of_ble_eq_true rfl, Nat.le_of_ble_eq_true rfl⟩) hD hS hA (fun u_33 H locs hp hP hD hS => ?_)
                obtain ⟨b_34, rfl⟩ := hp
                refine lv_aload_n hx hb dX7_insert_115 rfl (lv_at hl 0 rfl) ?_
                refine va_get (D := D) (ci := 7) (v := .ref (ad 1)) (C := RX7) (T := TX7) (N := 6) hx hb hg inGX7 hown hK hP 0 rfl rfl 0 (by decide) (hg _ mw_113) (fun _ h9 => h9) rfl dX7_insert_116 ?_
                refine va_getN (D := D) (ci := 0) (v := .int 1) (C := RX0) (T := TX0) (N := 5) hx hb hg inGX0 hown hK hP 1 rfl rfl 4 (by decide) (hN.use nw_10) (fun _ h9 => h9) rfl dX7_insert_119 ?_
                refine W.widen (k := 1) (n := 6) (Nat.le_of_ble_eq_true rfl) (Nat.le_of_ble_eq_true rfl) ?_
                refine vx_ret ?_
                exact W.iret (v := 1) hx hb hr (fun t ht hW => ⟨⟨1, (XW ad cI cJ 1 b_34 F_31 G ++ R), rfl, ⟨rfl, ⟨c_1, c_12, c_26, c_31, by first | exact oki_no hjr_1 c_48 | exact oki_yes htr_19 c_55⟩, _, _, _, _, rfl⟩, ⟨by rw [ht]; exact hP, va_K.moved hW.alike hK, hD⟩⟩, hS.F ht⟩) hS.2.2 dX7_insert_122
            · obtain ⟨sa9, hsa9⟩ := hSR (71, "no such target") (List.mem_of_getElem? (i := 2) rfl)
              exact vx_throwS (names := ENM) (cls := EIAE) hx hb hfl hown fitE.1 fitE.2.2 (hg _ mw_229) (hg _ mw_230) hsa9 (hat_of at1a at1b hg hN) gd1 hST.1 hST.2 hS (by rw [hml]; exact hl.1) dX7_insert_58 dX7_insert_61 dX7_insert_62 dX7_insert_64 dX7_insert_67 (fun x hx9 => (hE x hx9).elim) (Nat.le_of_ble_eq_true rfl) (Nat.le_of_ble_eq_true rfl) (Nat.le_of_ble_eq_true rfl) (Nat.le_of_ble_eq_true rfl) hlocks (xE rfl (fun h => oki_bad hjr_1 htr_19 c_48 c_55 h.2.2.2.2) hS) hS.2.2 (Nat.le_of_ble_eq_true rfl) (Nat.le_of_ble_eq_true rfl)
        · obtain ⟨sa9, hsa9⟩ := hSR (62, "no such kind") (List.mem_of_getElem? (i := 1) rfl)
          exact vx_throwS (names := ENM) (cls := EIAE) hx hb hfl hown fitE.1 fitE.2.2 (hg _ mw_229) (hg _ mw_230) hsa9 (hat_of at1a at1b hg hN) gd1 hST.1 hST.2 hS (by rw [hml]; exact hl.1) dX7_insert_34 dX7_insert_37 dX7_insert_38 dX7_insert_40 dX7_insert_43 (fun x hx9 => (hE x hx9).elim) (Nat.le_of_ble_eq_true rfl) (Nat.le_of_ble_eq_true rfl) (Nat.le_of_ble_eq_true rfl) (Nat.le_of_ble_eq_true rfl) hlocks (xE rfl (by first | exact fun h => h.2.2.1 c_26 | exact fun h => c_31 h.2.2.2.1) hS) hS.2.2 (Nat.le_of_ble_eq_true rfl) (Nat.le_of_ble_eq_true rfl)
    · obtain ⟨sa9, hsa9⟩ := hSR (57, "no such place") (List.mem_of_getElem? (i := 0) rfl)
      exact vx_throwS (names := ENM) (cls := EIAE) hx hb hfl hown fitE.1 fitE.2.2 (hg _ mw_229) (hg _ mw_230) hsa9 (hat_of at1a at1b hg hN) gd1 hST.1 hST.2 hS (by rw [hml]; exact hl.1) dX7_insert_15 dX7_insert_18 dX7_insert_19 dX7_insert_21 dX7_insert_24 (fun x hx9 => (hE x hx9).elim) (Nat.le_of_ble_eq_true rfl) (Nat.le_of_ble_eq_true rfl) (Nat.le_of_ble_eq_true rfl) (Nat.le_of_ble_eq_true rfl) hlocks (xE rfl (by first | exact fun h => h.1 c_1 | exact fun h => c_12 h.2.1) hS) hS.2.2 (Nat.le_of_ble_eq_true rfl) (Nat.le_of_ble_eq_true rfl)
end
section
theorem dJ7_fill_53178_0 : decode cJ7_fill_53178 0 = .ok (.iconst 0, 1) := by decide +kernel
theorem dJ7_fill_53178_1 : decode cJ7_fill_53178 1 = .ok (.istore_n 2, 1) := by decide +kernel
theorem dJ7_fill_53178_2 : decode cJ7_fill_53178 2 = .ok (.aload_n 0, 1) := by decide +kernel
theorem dJ7_fill_53178_3 : decode cJ7_fill_53178 3 = .ok (.arraylength, 1) := by decide +kernel
theorem dJ7_fill_53178_4 : decode cJ7_fill_53178 4 = .ok (.istore_n 3, 1) := by decide +kernel
theorem dJ7_fill_53178_5 : decode cJ7_fill_53178 5 = .ok (.iload_n 2, 1) := by decide +kernel
theorem dJ7_fill_53178_6 : decode cJ7_fill_53178 6 = .ok (.iload_n 3, 1) := by decide +kernel
theorem dJ7_fill_53178_7 : decode cJ7_fill_53178 7 = .ok (.if_icmp .ge 13, 3) := by decide +kernel
theorem dJ7_fill_53178_10 : decode cJ7_fill_53178 10 = .ok (.aload_n 0, 1) := by decide +kernel
theorem dJ7_fill_53178_11 : decode cJ7_fill_53178 11 = .ok (.iload_n 2, 1) := by decide +kernel
theorem dJ7_fill_53178_12 : decode cJ7_fill_53178 12 = .ok (.iload_n 1, 1) := by decide +kernel
theorem dJ7_fill_53178_13 : decode cJ7_fill_53178 13 = .ok (.iastore, 1) := by decide +kernel
theorem dJ7_fill_53178_14 : decode cJ7_fill_53178 14 = .ok (.iinc 2 1, 3) := by decide +kernel
theorem dJ7_fill_53178_17 : decode cJ7_fill_53178 17 = .ok (.goto (-12), 3) := by decide +kernel
theorem dJ7_fill_53178_20 : decode cJ7_fill_53178 20 = .ok (.return_, 1) := by decide +kernel
theorem dJ7_fill_d0a16_0 : decode cJ7_fill_d0a16 0 = .ok (.iconst 0, 1) := by decide +kernel
theorem dJ7_fill_d0a16_1 : decode cJ7_fill_d0a16 1 = .ok (.istore_n 3, 1) := by decide +kernel
theorem dJ7_fill_d0a16_2 : decode cJ7_fill_d0a16 2 = .ok (.aload_n 0, 1) := by decide +kernel
theorem dJ7_fill_d0a16_3 : decode cJ7_fill_d0a16 3 = .ok (.arraylength, 1) := by decide +kernel
theorem dJ7_fill_d0a16_4 : decode cJ7_fill_d0a16 4 = .ok (.istore 4, 2) := by decide +kernel
theorem dJ7_fill_d0a16_6 : decode cJ7_fill_d0a16 6 = .ok (.iload_n 3, 1) := by decide +kernel
theorem dJ7_fill_d0a16_7 : decode cJ7_fill_d0a16 7 = .ok (.iload 4, 2) := by decide +kernel
theorem dJ7_fill_d0a16_9 : decode cJ7_fill_d0a16 9 = .ok (.if_icmp .ge 13, 3) := by decide +kernel
theorem dJ7_fill_d0a16_12 : decode cJ7_fill_d0a16 12 = .ok (.aload_n 0, 1) := by decide +kernel
theorem dJ7_fill_d0a16_13 : decode cJ7_fill_d0a16 13 = .ok (.iload_n 3, 1) := by decide +kernel
theorem dJ7_fill_d0a16_14 : decode cJ7_fill_d0a16 14 = .ok (.lload_n 1, 1) := by decide +kernel
theorem dJ7_fill_d0a16_15 : decode cJ7_fill_d0a16 15 = .ok (.lastore, 1) := by decide +kernel
theorem dJ7_fill_d0a16_16 : decode cJ7_fill_d0a16 16 = .ok (.iinc 3 1, 3) := by decide +kernel
theorem dJ7_fill_d0a16_19 : decode cJ7_fill_d0a16 19 = .ok (.goto (-13), 3) := by decide +kernel
theorem dJ7_fill_d0a16_22 : decode cJ7_fill_d0a16 22 = .ok (.return_, 1) := by decide +kernel
theorem dJ7_fill_49daa_0 : decode cJ7_fill_49daa 0 = .ok (.iconst 0, 1) := by decide +kernel
theorem dJ7_fill_49daa_1 : decode cJ7_fill_49daa 1 = .ok (.istore_n 2, 1) := by decide +kernel
theorem dJ7_fill_49daa_2 : decode cJ7_fill_49daa 2 = .ok (.aload_n 0, 1) := by decide +kernel
theorem dJ7_fill_49daa_3 : decode cJ7_fill_49daa 3 = .ok (.arraylength, 1) := by decide +kernel
theorem dJ7_fill_49daa_4 : decode cJ7_fill_49daa 4 = .ok (.istore_n 3, 1) := by decide +kernel
theorem dJ7_fill_49daa_5 : decode cJ7_fill_49daa 5 = .ok (.iload_n 2, 1) := by decide +kernel
theorem dJ7_fill_49daa_6 : decode cJ7_fill_49daa 6 = .ok (.iload_n 3, 1) := by decide +kernel
theorem dJ7_fill_49daa_7 : decode cJ7_fill_49daa 7 = .ok (.if_icmp .ge 13, 3) := by decide +kernel
theorem dJ7_fill_49daa_10 : decode cJ7_fill_49daa 10 = .ok (.aload_n 0, 1) := by decide +kernel
theorem dJ7_fill_49daa_11 : decode cJ7_fill_49daa 11 = .ok (.iload_n 2, 1) := by decide +kernel
theorem dJ7_fill_49daa_12 : decode cJ7_fill_49daa 12 = .ok (.iload_n 1, 1) := by decide +kernel
theorem dJ7_fill_49daa_13 : decode cJ7_fill_49daa 13 = .ok (.bastore, 1) := by decide +kernel
theorem dJ7_fill_49daa_14 : decode cJ7_fill_49daa 14 = .ok (.iinc 2 1, 3) := by decide +kernel
theorem dJ7_fill_49daa_17 : decode cJ7_fill_49daa 17 = .ok (.goto (-12), 3) := by decide +kernel
theorem dJ7_fill_49daa_20 : decode cJ7_fill_49daa 20 = .ok (.return_, 1) := by decide +kernel
abbrev TO (cI cJ cZ cO : ClassId) : List (ClassId × FieldType) := [(cI, .int), (cJ, .long), (cZ, .boolean), (cO, .array .int)]
def MW (oc : Nat × va_E) (am : Nat → Nat) (cI cJ cZ cO : ClassId) (th mn ld sw : Int32) (sm : Int64) (qo : Nat) (F : Nat → Nat → Int32) (G : Nat → Nat → Int64) : va_W := [oc, (am 1, .inr (8, [.int th, .int mn, .ref (am 2), .ref (am 3), .ref (am 4), .ref (am 5), .int ld, .int 0, .int 0, .ref (am 6), .ref (am 7), .ref (am 8), .ref (am 9), .long 0, .ref (am 10), .ref (am 11), .ref (am 12), .ref (am 13), .ref (am 14), .ref (am 15), .ref (am 16), .int 0, .long 0, .ref (am 17), .ref (am 18), .int 0, .ref (am 19), .ref (am 20), .int 0, .ref qo, .int sw, .long sm])), (am 2, .inl (cI, 40, .inl (F 2))), (am 3, .inl (cI, 40, .inl (F 3))), (am 4, .inl (cI, 40, .inl (F 4))), (am 5, .inl (cI, 40, .inl (F 5))), (am 6, .inl (cI, 40, .inl (F 6))), (am 7, .inl (cI, 41, .inl (F 7))), (am 8, .inl (cI, 80, .inl (F 8))), (am 9, .inl (cI, 80, .inl (F 9))), (am 10, .inl (cJ, 40, .inr (.inl (G 10)))), (am 11, .inl (cJ, 40, .inr (.inl (G 11)))), (am 12, .inl (cI, 40, .inl (F 12))), (am 13, .inl (cJ, 40, .inr (.inl (G 13)))), (am 14, .inl (cI, 40, .inl (F 14))), (am 15, .inl (cI, 160, .inl (F 15))), (am 16, .inl (cI, 160, .inl (F 16))), (am 17, .inl (cI, 40, .inl (F 17))), (am 18, .inl (cI, 40, .inl (F 18))), (am 19, .inl (cZ, 80, .inl (F 19))), (am 20, .inl (cI, 40, .inl (F 20))), (qo, .inl (cO, 0, .inr (.inr (.inr (.inr (fun _ => none))))))]
theorem set_get {w : va_W} {q0 : Nat} {e e' : Nat × va_E} (hq : w[q0]? = some e) : (w.set q0 e')[q0]? = some e' := List.getElem?_set_self (List.getElem?_eq_some_iff.mp hq).1
theorem is_m1 {v r : Int32} (h : r = 1 ∧ ¬ v < 0 ∧ ¬ (-1) < v ∨ r = 0 ∧ (v < 0 ∨ (-1) < v)) : r = 0 := by
  rcases h with ⟨-, h1, h2⟩ | ⟨h, -⟩
  · exfalso
    rw [Int32.lt_iff_toInt_lt] at h1 h2
    have h0 : (0 : Int32).toInt = 0 := rfl
    have hm : (-1 : Int32).toInt = -1 := rfl
    omega
  · exact h
set_option maxHeartbeats 4000000 in
set_option maxRecDepth 100000 in
theorem m_fillI (l : Launch) (D : va_G) (cI cJ cZ : ClassId) (cO : ClassId) (w : va_W) (q0 a n : Nat) (f : Nat → Int32) (v : Int32) (hq : w[q0]? = some (a, .inl (cI, n, .inl f))) (hn : n < 2 ^ 31) : CT l D (TO cI cJ cZ cO) yJ7_fill_53178 (.code yJ7_fill_53178 cJ7_fill_53178 4 (none : Option FieldType)) 0 0 0 w [.ref a, .int v] (QV D (TO cI cJ cZ cO) (fun u => ∃ f9, u = w.set q0 (a, .inl (cI, n, .inl f9)))) := by
  refine ent (by decide) (Nat.le_of_ble_eq_true rfl) ?_
  intro p e s m below meth c ls A hx hb hr hg hown hml hlocks hnm hP hK hD hS hA hN hl
  have hl : lv_has ls 4 [(0, .ref a), (1, .int v)] := hl
  refine lv_iconst (v := 0) hx hb dJ7_fill_53178_0 (by decide) ?_
  refine lv_istore_n (lv' := [(2, .int 0), (0, .ref a), (1, .int v)]) hx hb dJ7_fill_53178_1 rfl hl (by decide) rfl (fun ls hl => ?_)
  refine lv_aload_n hx hb dJ7_fill_53178_2 rfl (lv_at hl 1 rfl) ?_
  refine va_alen (v := (nI n)) hx hb hK hP q0 0 hq rfl rfl dJ7_fill_53178_3 ?_
  refine lv_istore_n (lv' := [(3, .int (nI n)), (2, .int 0), (0, .ref a), (1, .int v)]) hx hb dJ7_fill_53178_4 rfl hl (by decide) rfl (fun ls hl => ?_)
  have hP : va_P D vwCl (w.set q0 (a, .inl (cI, n, .inl f))) s.heap := by rw [set_same hq]; exact hP
  have hD : va_D A (w.set q0 (a, .inl (cI, n, .inl f))) := by rw [set_same hq]; exact hD
  -- the loop at 5
  refine w_loop (σ := Nat → Int32) (fun (i : Nat) (u_1 : Nat → Int32) (H : Heap) (locs : List Loc) (ls : Array Slot) => (True) ∧ va_P D vwCl (w.set q0 (a, .inl (cI, n, .inl u_1))) H ∧ va_D A (w.set q0 (a, .inl (cI, n, .inl u_1))) ∧ va_S A s.heap H locs ∧ lv_has ls 4 [(0, .ref a), (1, .int v), (2, .int (nI i)), (3, .int (nI n))]) n (fun u_1 H locs ls hI => ?_) (fun i u_1 H locs ls hi hI ih => ?_) 0 f (Nat.zero_le _) ⟨trivial, hP, hD, hS, by rw [nI_0]; exact lv_sub hl [2, 3, 1, 0] rfl⟩
  · obtain ⟨hF_1, hP, hD, hS, hl⟩ := hI
    have hP : va_P D vwCl (w.set q0 (a, .inl (cI, n, .inl u_1))) H := hP
    have hD : va_D A (w.set q0 (a, .inl (cI, n, .inl u_1))) := hD
    have hl : lv_has ls 4 [(0, .ref a), (1, .int v), (2, .int (nI n)), (3, .int (nI n))] := hl
    refine lv_iload_n hx hb dJ7_fill_53178_5 rfl (lv_at hl 2 rfl) ?_
    refine lv_iload_n hx hb dJ7_fill_53178_6 rfl (lv_at hl 3 rfl) ?_
    refine lv_icmp_ge (tgt := 20) hx hb dJ7_fill_53178_7 (by decide) (fun c_7 => ?_) (fun c_7 => absurd (Int32.le_refl _) c_7)
    exact W.vret hx hb hr (fun t ht hW => ⟨⟨(w.set q0 (a, .inl (cI, n, .inl u_1))), rfl, ⟨_, rfl⟩, ⟨by rw [ht]; exact hP, va_K.moved hW.alike hK, hD⟩⟩, hS.F ht⟩) hS.2.2 dJ7_fill_53178_20
  · obtain ⟨hF_1, hP, hD, hS, hl⟩ := hI
    have hP : va_P D vwCl (w.set q0 (a, .inl (cI, n, .inl u_1))) H := hP
    have hD : va_D A (w.set q0 (a, .inl (cI, n, .inl u_1))) := hD
    have hl : lv_has ls 4 [(0, .ref a), (1, .int v), (2, .int (nI i)), (3, .int (nI n))] := hl
    refine lv_iload_n hx hb dJ7_fill_53178_5 rfl (lv_at hl 2 rfl) ?_
    refine lv_iload_n hx hb dJ7_fill_53178_6 rfl (lv_at hl 3 rfl) ?_
    refine lv_icmp_ge (tgt := 20) hx hb dJ7_fill_53178_7 (by decide) (fun c_7 => absurd c_7 (nI_ge hi hn)) (fun c_7 => ?_)
    refine lv_aload_n hx hb dJ7_fill_53178_10 rfl (lv_at hl 0 rfl) ?_
    refine lv_iload_n hx hb dJ7_fill_53178_11 rfl (lv_at hl 2 rfl) ?_
    refine lv_iload_n hx hb dJ7_fill_53178_12 rfl (lv_at hl 1 rfl) ?_
    refine va_iast hx hb hK hP hD hS q0 0 (set_get hq) rfl (vp_in_nI hi hn) dJ7_fill_53178_13 (fun H locs hP hD hS => ?_)
    have hP : va_P D vwCl ((w.set q0 (a, .inl (cI, n, .inl u_1))).set q0 (a, .inl (cI, n, .inl (upd u_1 ((nI i) : Int32).toNatClampNeg v)))) H := hP
    have hD : va_D A ((w.set q0 (a, .inl (cI, n, .inl u_1))).set q0 (a, .inl (cI, n, .inl (upd u_1 ((nI i) : Int32).toNatClampNeg v)))) := hD
    refine lv_iinc (v := nI (i + 1)) (lv' := [(2, .int (nI (i + 1))), (0, .ref a), (1, .int v), (3, .int (nI n))]) hx hb dJ7_fill_53178_14 hl (k := 2) rfl (nI_1 i) (by decide) rfl (fun ls hl => ?_)
    refine lv_goto (tgt := 5) hx hb dJ7_fill_53178_17 (by decide) ?_
    have hP : va_P D vwCl (w.set q0 (a, .inl (cI, n, .inl (upd u_1 ((nI i) : Int32).toNatClampNeg v)))) H := by rw [List.set_set] at hP; exact hP
    have hD : va_D A (w.set q0 (a, .inl (cI, n, .inl (upd u_1 ((nI i) : Int32).toNatClampNeg v)))) := by rw [List.set_set] at hD; exact hD
    exact ih (upd u_1 ((nI i) : Int32).toNatClampNeg v) H locs ls ⟨trivial, hP, hD, hS, lv_sub hl [1, 2, 0, 3] rfl⟩
set_option maxHeartbeats 4000000 in
set_option maxRecDepth 100000 in
theorem m_fillJ (l : Launch) (D : va_G) (cI cJ cZ : ClassId) (cO : ClassId) (w : va_W) (q0 a n : Nat) (f : Nat → Int64) (v : Int64) (hq : w[q0]? = some (a, .inl (cJ, n, .inr (.inl f)))) (hn : n < 2 ^ 31) : CT l D (TO cI cJ cZ cO) yJ7_fill_d0a16 (.code yJ7_fill_d0a16 cJ7_fill_d0a16 5 (none : Option FieldType)) 0 0 0 w [.ref a, .long v] (QV D (TO cI cJ cZ cO) (fun u => ∃ f9, u = w.set q0 (a, .inl (cJ, n, .inr (.inl f9))))) := by
  refine ent (by decide) (Nat.le_of_ble_eq_true rfl) ?_
  intro p e s m below meth c ls A hx hb hr hg hown hml hlocks hnm hP hK hD hS hA hN hl
  have hl : lv_has ls 5 [(0, .ref a), (1, .long v)] := hl
  refine lv_iconst (v := 0) hx hb dJ7_fill_d0a16_0 (by decide) ?_
  refine lv_istore_n (lv' := [(3, .int 0), (0, .ref a), (1, .long v)]) hx hb dJ7_fill_d0a16_1 rfl hl (by decide) rfl (fun ls hl => ?_)
  refine lv_aload_n hx hb dJ7_fill_d0a16_2 rfl (lv_at hl 1 rfl) ?_
  refine va_alen (v := (nI n)) hx hb hK hP q0 1 hq rfl rfl dJ7_fill_d0a16_3 ?_
  refine lv_istore (lv' := [(4, .int (nI n)), (3, .int 0), (0, .ref a), (1, .long v)]) hx hb dJ7_fill_d0a16_4 hl (by decide) rfl (fun ls hl => ?_)
  have hP : va_P D vwCl (w.set q0 (a, .inl (cJ, n, .inr (.inl f)))) s.heap := by rw [set_same hq]; exact hP
  have hD : va_D A (w.set q0 (a, .inl (cJ, n, .inr (.inl f)))) := by rw [set_same hq]; exact hD
  -- the loop at 6
  refine w_loop (σ := Nat → Int64) (fun (i : Nat) (u_1 : Nat → Int64) (H : Heap) (locs : List Loc) (ls : Array Slot) => (True) ∧ va_P D vwCl (w.set q0 (a, .inl (cJ, n, .inr (.inl u_1)))) H ∧ va_D A (w.set q0 (a, .inl (cJ, n, .inr (.inl u_1)))) ∧ va_S A s.heap H locs ∧ lv_has ls 5 [(0, .ref a), (1, .long v), (3, .int (nI i)), (4, .int (nI n))]) n (fun u_1 H locs ls hI => ?_) (fun i u_1 H locs ls hi hI ih => ?_) 0 f (Nat.zero_le _) ⟨trivial, hP, hD, hS, by rw [nI_0]; exact lv_sub hl [2, 3, 1, 0] rfl⟩
  · obtain ⟨hF_1, hP, hD, hS, hl⟩ := hI
    have hP : va_P D vwCl (w.set q0 (a, .inl (cJ, n, .inr (.inl u_1)))) H := hP
    have hD : va_D A (w.set q0 (a, .inl (cJ, n, .inr (.inl u_1)))) := hD
    have hl : lv_has ls 5 [(0, .ref a), (1, .long v), (3, .int (nI n)), (4, .int (nI n))] := hl
    refine lv_iload_n hx hb dJ7_fill_d0a16_6 rfl (lv_at hl 2 rfl) ?_
    refine lv_iload hx hb dJ7_fill_d0a16_7 (lv_at hl 3 rfl) ?_
    refine lv_icmp_ge (tgt := 22) hx hb dJ7_fill_d0a16_9 (by decide) (fun c_9 => ?_) (fun c_9 => absurd (Int32.le_refl _) c_9)
    exact W.vret hx hb hr (fun t ht hW => ⟨⟨(w.set q0 (a, .inl (cJ, n, .inr (.inl u_1)))), rfl, ⟨_, rfl⟩, ⟨by rw [ht]; exact hP, va_K.moved hW.alike hK, hD⟩⟩, hS.F ht⟩) hS.2.2 dJ7_fill_d0a16_22
  · obtain ⟨hF_1, hP, hD, hS, hl⟩ := hI
    have hP : va_P D vwCl (w.set q0 (a, .inl (cJ, n, .inr (.inl u_1)))) H := hP
    have hD : va_D A (w.set q0 (a, .inl (cJ, n, .inr (.inl u_1)))) := hD
    have hl : lv_has ls 5 [(0, .ref a), (1, .long v), (3, .int (nI i)), (4, .int (nI n))] := hl
    refine lv_iload_n hx hb dJ7_fill_d0a16_6 rfl (lv_at hl 2 rfl) ?_
    refine lv_iload hx hb dJ7_fill_d0a16_7 (lv_at hl 3 rfl) ?_
    refine lv_icmp_ge (tgt := 22) hx hb dJ7_fill_d0a16_9 (by decide) (fun c_9 => absurd c_9 (nI_ge hi hn)) (fun c_9 => ?_)
    refine lv_aload_n hx hb dJ7_fill_d0a16_12 rfl (lv_at hl 0 rfl) ?_
    refine lv_iload_n hx hb dJ7_fill_d0a16_13 rfl (lv_at hl 2 rfl) ?_
    refine lv_lload_n hx hb dJ7_fill_d0a16_14 rfl (lv_at hl 1 rfl) ?_
    refine va_last hx hb hK hP hD hS q0 1 (set_get hq) rfl (vp_in_nI hi hn) dJ7_fill_d0a16_15 (fun H locs hP hD hS => ?_)
    have hP : va_P D vwCl ((w.set q0 (a, .inl (cJ, n, .inr (.inl u_1)))).set q0 (a, .inl (cJ, n, .inr (.inl (vp_updL u_1 ((nI i) : Int32).toNatClampNeg v))))) H := hP
    have hD : va_D A ((w.set q0 (a, .inl (cJ, n, .inr (.inl u_1)))).set q0 (a, .inl (cJ, n, .inr (.inl (vp_updL u_1 ((nI i) : Int32).toNatClampNeg v))))) := hD
    refine lv_iinc (v := nI (i + 1)) (lv' := [(3, .int (nI (i + 1))), (0, .ref a), (1, .long v), (4, .int (nI n))]) hx hb dJ7_fill_d0a16_16 hl (k := 2) rfl (nI_1 i) (by decide) rfl (fun ls hl => ?_)
    refine lv_goto (tgt := 6) hx hb dJ7_fill_d0a16_19 (by decide) ?_
    have hP : va_P D vwCl (w.set q0 (a, .inl (cJ, n, .inr (.inl (vp_updL u_1 ((nI i) : Int32).toNatClampNeg v))))) H := by rw [List.set_set] at hP; exact hP
    have hD : va_D A (w.set q0 (a, .inl (cJ, n, .inr (.inl (vp_updL u_1 ((nI i) : Int32).toNatClampNeg v))))) := by rw [List.set_set] at hD; exact hD
    exact ih (vp_updL u_1 ((nI i) : Int32).toNatClampNeg v) H locs ls ⟨trivial, hP, hD, hS, lv_sub hl [1, 2, 0, 3] rfl⟩
set_option maxHeartbeats 4000000 in
set_option maxRecDepth 100000 in
theorem m_fillZ (l : Launch) (D : va_G) (cI cJ cZ : ClassId) (cO : ClassId) (w : va_W) (q0 a n : Nat) (f : Nat → Int32) (hq : w[q0]? = some (a, .inl (cZ, n, .inl f))) (hn : n < 2 ^ 31) : CT l D (TO cI cJ cZ cO) yJ7_fill_49daa (.code yJ7_fill_49daa cJ7_fill_49daa 4 (none : Option FieldType)) 0 0 0 w [.ref a, .int 0] (QV D (TO cI cJ cZ cO) (fun u => ∃ f9, u = w.set q0 (a, .inl (cZ, n, .inl f9)))) := by
  refine ent (by decide) (Nat.le_of_ble_eq_true rfl) ?_
  intro p e s m below meth c ls A hx hb hr hg hown hml hlocks hnm hP hK hD hS hA hN hl
  have hl : lv_has ls 4 [(0, .ref a), (1, .int 0)] := hl
  refine lv_iconst (v := 0) hx hb dJ7_fill_49daa_0 (by decide) ?_
  refine lv_istore_n (lv' := [(2, .int 0), (0, .ref a), (1, .int 0)]) hx hb dJ7_fill_49daa_1 rfl hl (by decide) rfl (fun ls hl => ?_)
  refine lv_aload_n hx hb dJ7_fill_49daa_2 rfl (lv_at hl 1 rfl) ?_
  refine va_alen (v := (nI n)) hx hb hK hP q0 2 hq rfl rfl dJ7_fill_49daa_3 ?_
  refine lv_istore_n (lv' := [(3, .int (nI n)), (2, .int 0), (0, .ref a), (1, .int 0)]) hx hb dJ7_fill_49daa_4 rfl hl (by decide) rfl (fun ls hl => ?_)
  have hP : va_P D vwCl (w.set q0 (a, .inl (cZ, n, .inl f))) s.heap := by rw [set_same hq]; exact hP
  have hD : va_D A (w.set q0 (a, .inl (cZ, n, .inl f))) := by rw [set_same hq]; exact hD
  -- the loop at 5
  refine w_loop (σ := Nat → Int32) (fun (i : Nat) (u_1 : Nat → Int32) (H : Heap) (locs : List Loc) (ls : Array Slot) => (True) ∧ va_P D vwCl (w.set q0 (a, .inl (cZ, n, .inl u_1))) H ∧ va_D A (w.set q0 (a, .inl (cZ, n, .inl u_1))) ∧ va_S A s.heap H locs ∧ lv_has ls 4 [(0, .ref a), (1, .int 0), (2, .int (nI i)), (3, .int (nI n))]) n (fun u_1 H locs ls hI => ?_) (fun i u_1 H locs ls hi hI ih => ?_) 0 f (Nat.zero_le _) ⟨trivial, hP, hD, hS, by rw [nI_0]; exact lv_sub hl [2, 3, 1, 0] rfl⟩
  · obtain ⟨hF_1, hP, hD, hS, hl⟩ := hI
    have hP : va_P D vwCl (w.set q0 (a, .inl (cZ, n, .inl u_1))) H := hP
    have hD : va_D A (w.set q0 (a, .inl (cZ, n, .inl u_1))) := hD
    have hl : lv_has ls 4 [(0, .ref a), (1, .int 0), (2, .int (nI n)), (3, .int (nI n))] := hl
    refine lv_iload_n hx hb dJ7_fill_49daa_5 rfl (lv_at hl 2 rfl) ?_
    refine lv_iload_n hx hb dJ7_fill_49daa_6 rfl (lv_at hl 3 rfl) ?_
    refine lv_icmp_ge (tgt := 20) hx hb dJ7_fill_49daa_7 (by decide) (fun c_7 => ?_) (fun c_7 => absurd (Int32.le_refl _) c_7)
    exact W.vret hx hb hr (fun t ht hW => ⟨⟨(w.set q0 (a, .inl (cZ, n, .inl u_1))), rfl, ⟨_, rfl⟩, ⟨by rw [ht]; exact hP, va_K.moved hW.alike hK, hD⟩⟩, hS.F ht⟩) hS.2.2 dJ7_fill_49daa_20
  · obtain ⟨hF_1, hP, hD, hS, hl⟩ := hI
    have hP : va_P D vwCl (w.set q0 (a, .inl (cZ, n, .inl u_1))) H := hP
    have hD : va_D A (w.set q0 (a, .inl (cZ, n, .inl u_1))) := hD
    have hl : lv_has ls 4 [(0, .ref a), (1, .int 0), (2, .int (nI i)), (3, .int (nI n))] := hl
    refine lv_iload_n hx hb dJ7_fill_49daa_5 rfl (lv_at hl 2 rfl) ?_
    refine lv_iload_n hx hb dJ7_fill_49daa_6 rfl (lv_at hl 3 rfl) ?_
    refine lv_icmp_ge (tgt := 20) hx hb dJ7_fill_49daa_7 (by decide) (fun c_7 => absurd c_7 (nI_ge hi hn)) (fun c_7 => ?_)
    refine lv_aload_n hx hb dJ7_fill_49daa_10 rfl (lv_at hl 0 rfl) ?_
    refine lv_iload_n hx hb dJ7_fill_49daa_11 rfl (lv_at hl 2 rfl) ?_
    refine lv_iload_n hx hb dJ7_fill_49daa_12 rfl (lv_at hl 1 rfl) ?_
    refine va_zast hx hb hK hP hD hS q0 2 (set_get hq) rfl (vp_in_nI hi hn) dJ7_fill_49daa_13 (fun H locs hP hD hS => ?_)
    have hP : va_P D vwCl ((w.set q0 (a, .inl (cZ, n, .inl u_1))).set q0 (a, .inl (cZ, n, .inl (upd u_1 ((nI i) : Int32).toNatClampNeg 0)))) H := hP
    have hD : va_D A ((w.set q0 (a, .inl (cZ, n, .inl u_1))).set q0 (a, .inl (cZ, n, .inl (upd u_1 ((nI i) : Int32).toNatClampNeg 0)))) := hD
    refine lv_iinc (v := nI (i + 1)) (lv' := [(2, .int (nI (i + 1))), (0, .ref a), (1, .int 0), (3, .int (nI n))]) hx hb dJ7_fill_49daa_14 hl (k := 2) rfl (nI_1 i) (by decide) rfl (fun ls hl => ?_)
    refine lv_goto (tgt := 5) hx hb dJ7_fill_49daa_17 (by decide) ?_
    have hP : va_P D vwCl (w.set q0 (a, .inl (cZ, n, .inl (upd u_1 ((nI i) : Int32).toNatClampNeg 0)))) H := by rw [List.set_set] at hP; exact hP
    have hD : va_D A (w.set q0 (a, .inl (cZ, n, .inl (upd u_1 ((nI i) : Int32).toNatClampNeg 0)))) := by rw [List.set_set] at hD; exact hD
    exact ih (upd u_1 ((nI i) : Int32).toNatClampNeg 0) H locs ls ⟨trivial, hP, hD, hS, lv_sub hl [1, 2, 0, 3] rfl⟩
end
section
theorem dX8_has_0 : decode cX8_has 0 = .ok (.lload_n 0, 1) := by decide +kernel
theorem dX8_has_1 : decode cX8_has 1 = .ok (.iload_n 2, 1) := by decide +kernel
theorem dX8_has_2 : decode cX8_has 2 = .ok (.lshr, 1) := by decide +kernel
theorem dX8_has_3 : decode cX8_has 3 = .ok (.lconst 1, 1) := by decide +kernel
theorem dX8_has_4 : decode cX8_has 4 = .ok (.land, 1) := by decide +kernel
theorem dX8_has_5 : decode cX8_has 5 = .ok (.lconst 0, 1) := by decide +kernel
theorem dX8_has_6 : decode cX8_has 6 = .ok (.lcmp, 1) := by decide +kernel
theorem dX8_has_7 : decode cX8_has 7 = .ok (.ifCond .eq 7, 3) := by decide +kernel
theorem dX8_has_14 : decode cX8_has 14 = .ok (.iconst 0, 1) := by decide +kernel
theorem dX8_has_15 : decode cX8_has 15 = .ok (.ireturn, 1) := by decide +kernel
theorem dX8_is_0 : decode cX8_is 0 = .ok (.iload_n 0, 1) := by decide +kernel
theorem dX8_is_1 : decode cX8_is 1 = .ok (.iload_n 1, 1) := by decide +kernel
theorem dX8_is_2 : decode cX8_is 2 = .ok (.if_icmp .lt 12, 3) := by decide +kernel
theorem dX8_is_5 : decode cX8_is 5 = .ok (.iload_n 0, 1) := by decide +kernel
theorem dX8_is_6 : decode cX8_is 6 = .ok (.iload_n 2, 1) := by decide +kernel
theorem dX8_is_7 : decode cX8_is 7 = .ok (.if_icmp .gt 7, 3) := by decide +kernel
theorem dX8_is_10 : decode cX8_is 10 = .ok (.iconst 1, 1) := by decide +kernel
theorem dX8_is_11 : decode cX8_is 11 = .ok (.goto 4, 3) := by decide +kernel
theorem dX8_is_14 : decode cX8_is 14 = .ok (.iconst 0, 1) := by decide +kernel
theorem dX8_is_15 : decode cX8_is 15 = .ok (.ireturn, 1) := by decide +kernel
theorem dX8_isJump_0 : decode cX8_isJump 0 = .ok (.iload_n 0, 1) := by decide +kernel
theorem dX8_isJump_1 : decode cX8_isJump 1 = .ok (.iconst 1, 1) := by decide +kernel
theorem dX8_isJump_2 : decode cX8_isJump 2 = .ok (.if_icmp .eq 8, 3) := by decide +kernel
theorem dX8_isJump_5 : decode cX8_isJump 5 = .ok (.iload_n 0, 1) := by decide +kernel
theorem dX8_isJump_6 : decode cX8_isJump 6 = .ok (.iconst 2, 1) := by decide +kernel
theorem dX8_isJump_7 : decode cX8_isJump 7 = .ok (.if_icmp .ne 7, 3) := by decide +kernel
theorem dX8_isJump_10 : decode cX8_isJump 10 = .ok (.iconst 1, 1) := by decide +kernel
theorem dX8_isJump_11 : decode cX8_isJump 11 = .ok (.goto 4, 3) := by decide +kernel
theorem dX8_isJump_14 : decode cX8_isJump 14 = .ok (.iconst 0, 1) := by decide +kernel
theorem dX8_isJump_15 : decode cX8_isJump 15 = .ok (.ireturn, 1) := by decide +kernel
theorem dX8_refuse_0 : decode cX8_refuse 0 = .ok (.aload_n 0, 1) := by decide +kernel
theorem dX8_refuse_1 : decode cX8_refuse 1 = .ok (.iload_n 1, 1) := by decide +kernel
theorem dX8_refuse_2 : decode cX8_refuse 2 = .ok (.putfield 74, 3) := by decide +kernel
theorem dX8_refuse_5 : decode cX8_refuse 5 = .ok (.iconst 0, 1) := by decide +kernel
theorem dX8_refuse_6 : decode cX8_refuse 6 = .ok (.ireturn, 1) := by decide +kernel
theorem dX8_thrown_0 : decode cX8_thrown 0 = .ok (.aload_n 0, 1) := by decide +kernel
theorem dX8_thrown_1 : decode cX8_thrown 1 = .ok (.getfield 74, 3) := by decide +kernel
theorem dX8_thrown_4 : decode cX8_thrown 4 = .ok (.ireturn, 1) := by decide +kernel
theorem dX8_isInstruction_0 : decode cX8_isInstruction 0 = .ok (.iload_n 1, 1) := by decide +kernel
theorem dX8_isInstruction_1 : decode cX8_isInstruction 1 = .ok (.iconst 0, 1) := by decide +kernel
theorem dX8_isInstruction_2 : decode cX8_isInstruction 2 = .ok (.aload_n 0, 1) := by decide +kernel
theorem dX8_isInstruction_3 : decode cX8_isInstruction 3 = .ok (.getfield 78, 3) := by decide +kernel
theorem dX8_isInstruction_6 : decode cX8_isInstruction 6 = .ok (.iconst 1, 1) := by decide +kernel
theorem dX8_isInstruction_7 : decode cX8_isInstruction 7 = .ok (.isub, 1) := by decide +kernel
theorem dX8_isInstruction_8 : decode cX8_isInstruction 8 = .ok (.invokestatic 261, 3) := by decide +kernel
theorem dX8_isInstruction_11 : decode cX8_isInstruction 11 = .ok (.ireturn, 1) := by decide +kernel
theorem dX8_beginAnew_0 : decode cX8_beginAnew 0 = .ok (.aload_n 0, 1) := by decide +kernel
theorem dX8_beginAnew_1 : decode cX8_beginAnew 1 = .ok (.iconst 0, 1) := by decide +kernel
theorem dX8_beginAnew_2 : decode cX8_beginAnew 2 = .ok (.putfield 84, 3) := by decide +kernel
theorem dX8_beginAnew_5 : decode cX8_beginAnew 5 = .ok (.aload_n 0, 1) := by decide +kernel
theorem dX8_beginAnew_6 : decode cX8_beginAnew 6 = .ok (.iconst 0, 1) := by decide +kernel
theorem dX8_beginAnew_7 : decode cX8_beginAnew 7 = .ok (.putfield 228, 3) := by decide +kernel
theorem dX8_beginAnew_10 : decode cX8_beginAnew 10 = .ok (.return_, 1) := by decide +kernel
theorem dX8_layLive_0 : decode cX8_layLive 0 = .ok (.aload_n 0, 1) := by decide +kernel
theorem dX8_layLive_1 : decode cX8_layLive 1 = .ok (.getfield 41, 3) := by decide +kernel
theorem dX8_layLive_4 : decode cX8_layLive 4 = .ok (.iconst 0, 1) := by decide +kernel
theorem dX8_layLive_5 : decode cX8_layLive 5 = .ok (.invokestatic 143, 3) := by decide +kernel
theorem dX8_layLive_8 : decode cX8_layLive 8 = .ok (.iconst 1, 1) := by decide +kernel
theorem dX8_layLive_9 : decode cX8_layLive 9 = .ok (.istore_n 1, 1) := by decide +kernel
theorem dX8_layLive_10 : decode cX8_layLive 10 = .ok (.iload_n 1, 1) := by decide +kernel
theorem dX8_layLive_11 : decode cX8_layLive 11 = .ok (.ifCond .eq 92, 3) := by decide +kernel
theorem dX8_layLive_14 : decode cX8_layLive 14 = .ok (.iconst 0, 1) := by decide +kernel
theorem dX8_layLive_15 : decode cX8_layLive 15 = .ok (.istore_n 1, 1) := by decide +kernel
theorem dX8_layLive_16 : decode cX8_layLive 16 = .ok (.iconst 0, 1) := by decide +kernel
theorem dX8_layLive_17 : decode cX8_layLive 17 = .ok (.istore_n 2, 1) := by decide +kernel
theorem dX8_layLive_18 : decode cX8_layLive 18 = .ok (.iload_n 2, 1) := by decide +kernel
theorem dX8_layLive_19 : decode cX8_layLive 19 = .ok (.aload_n 0, 1) := by decide +kernel
theorem dX8_layLive_20 : decode cX8_layLive 20 = .ok (.getfield 88, 3) := by decide +kernel
theorem dX8_layLive_23 : decode cX8_layLive 23 = .ok (.if_icmp .ge 77, 3) := by decide +kernel
theorem dX8_layLive_100 : decode cX8_layLive 100 = .ok (.goto (-90), 3) := by decide +kernel
theorem dX8_layLive_103 : decode cX8_layLive 103 = .ok (.return_, 1) := by decide +kernel
theorem dX8_reduce_0 : decode cX8_reduce 0 = .ok (.aload_n 0, 1) := by decide +kernel
theorem dX8_reduce_1 : decode cX8_reduce 1 = .ok (.getfield 44, 3) := by decide +kernel
theorem dX8_reduce_4 : decode cX8_reduce 4 = .ok (.lconst 0, 1) := by decide +kernel
theorem dX8_reduce_5 : decode cX8_reduce 5 = .ok (.invokestatic 162, 3) := by decide +kernel
theorem dX8_reduce_8 : decode cX8_reduce 8 = .ok (.iconst 0, 1) := by decide +kernel
theorem dX8_reduce_9 : decode cX8_reduce 9 = .ok (.istore_n 1, 1) := by decide +kernel
theorem dX8_reduce_10 : decode cX8_reduce 10 = .ok (.iload_n 1, 1) := by decide +kernel
theorem dX8_reduce_11 : decode cX8_reduce 11 = .ok (.aload_n 0, 1) := by decide +kernel
theorem dX8_reduce_12 : decode cX8_reduce 12 = .ok (.getfield 81, 3) := by decide +kernel
theorem dX8_reduce_15 : decode cX8_reduce 15 = .ok (.if_icmp .ge 54, 3) := by decide +kernel
theorem dX8_reduce_69 : decode cX8_reduce 69 = .ok (.iconst 0, 1) := by decide +kernel
theorem dX8_reduce_70 : decode cX8_reduce 70 = .ok (.istore_n 1, 1) := by decide +kernel
theorem dX8_reduce_71 : decode cX8_reduce 71 = .ok (.iload_n 1, 1) := by decide +kernel
theorem dX8_reduce_72 : decode cX8_reduce 72 = .ok (.aload_n 0, 1) := by decide +kernel
theorem dX8_reduce_73 : decode cX8_reduce 73 = .ok (.getfield 88, 3) := by decide +kernel
theorem dX8_reduce_76 : decode cX8_reduce 76 = .ok (.if_icmp .ge 28, 3) := by decide +kernel
theorem dX8_reduce_104 : decode cX8_reduce 104 = .ok (.aload_n 0, 1) := by decide +kernel
theorem dX8_reduce_105 : decode cX8_reduce 105 = .ok (.aload_n 0, 1) := by decide +kernel
theorem dX8_reduce_106 : decode cX8_reduce 106 = .ok (.getfield 107, 3) := by decide +kernel
theorem dX8_reduce_109 : decode cX8_reduce 109 = .ok (.putfield 165, 3) := by decide +kernel
theorem dX8_reduce_112 : decode cX8_reduce 112 = .ok (.aload_n 0, 1) := by decide +kernel
theorem dX8_reduce_113 : decode cX8_reduce 113 = .ok (.iconst 0, 1) := by decide +kernel
theorem dX8_reduce_114 : decode cX8_reduce 114 = .ok (.putfield 168, 3) := by decide +kernel
theorem dX8_reduce_117 : decode cX8_reduce 117 = .ok (.iconst 1, 1) := by decide +kernel
theorem dX8_reduce_118 : decode cX8_reduce 118 = .ok (.istore_n 1, 1) := by decide +kernel
theorem dX8_reduce_119 : decode cX8_reduce 119 = .ok (.iload_n 1, 1) := by decide +kernel
theorem dX8_reduce_120 : decode cX8_reduce 120 = .ok (.ifCond .eq 53, 3) := by decide +kernel
theorem dX8_reduce_123 : decode cX8_reduce 123 = .ok (.iconst 0, 1) := by decide +kernel
theorem dX8_reduce_124 : decode cX8_reduce 124 = .ok (.istore_n 1, 1) := by decide +kernel
theorem dX8_reduce_125 : decode cX8_reduce 125 = .ok (.iconst 0, 1) := by decide +kernel
theorem dX8_reduce_126 : decode cX8_reduce 126 = .ok (.istore_n 2, 1) := by decide +kernel
theorem dX8_reduce_127 : decode cX8_reduce 127 = .ok (.iload_n 2, 1) := by decide +kernel
theorem dX8_reduce_128 : decode cX8_reduce 128 = .ok (.aload_n 0, 1) := by decide +kernel
theorem dX8_reduce_129 : decode cX8_reduce 129 = .ok (.getfield 88, 3) := by decide +kernel
theorem dX8_reduce_132 : decode cX8_reduce 132 = .ok (.if_icmp .ge 38, 3) := by decide +kernel
theorem dX8_reduce_170 : decode cX8_reduce 170 = .ok (.goto (-51), 3) := by decide +kernel
theorem dX8_reduce_173 : decode cX8_reduce 173 = .ok (.return_, 1) := by decide +kernel
theorem dX8_layLayers_0 : decode cX8_layLayers 0 = .ok (.aload_n 0, 1) := by decide +kernel
theorem dX8_layLayers_1 : decode cX8_layLayers 1 = .ok (.getfield 56, 3) := by decide +kernel
theorem dX8_layLayers_4 : decode cX8_layLayers 4 = .ok (.iconst 0, 1) := by decide +kernel
theorem dX8_layLayers_5 : decode cX8_layLayers 5 = .ok (.invokestatic 143, 3) := by decide +kernel
theorem dX8_layLayers_8 : decode cX8_layLayers 8 = .ok (.aload_n 0, 1) := by decide +kernel
theorem dX8_layLayers_9 : decode cX8_layLayers 9 = .ok (.getfield 62, 3) := by decide +kernel
theorem dX8_layLayers_12 : decode cX8_layLayers 12 = .ok (.iconst 0, 1) := by decide +kernel
theorem dX8_layLayers_13 : decode cX8_layLayers 13 = .ok (.invokestatic 213, 3) := by decide +kernel
theorem dX8_layLayers_16 : decode cX8_layLayers 16 = .ok (.aload_n 0, 1) := by decide +kernel
theorem dX8_layLayers_17 : decode cX8_layLayers 17 = .ok (.getfield 66, 3) := by decide +kernel
theorem dX8_layLayers_20 : decode cX8_layLayers 20 = .ok (.iconst 0, 1) := by decide +kernel
theorem dX8_layLayers_21 : decode cX8_layLayers 21 = .ok (.invokestatic 143, 3) := by decide +kernel
theorem dX8_layLayers_24 : decode cX8_layLayers 24 = .ok (.aload_n 0, 1) := by decide +kernel
theorem dX8_layLayers_25 : decode cX8_layLayers 25 = .ok (.iconst 0, 1) := by decide +kernel
theorem dX8_layLayers_26 : decode cX8_layLayers 26 = .ok (.putfield 206, 3) := by decide +kernel
theorem dX8_layLayers_29 : decode cX8_layLayers 29 = .ok (.aload_n 0, 1) := by decide +kernel
theorem dX8_layLayers_30 : decode cX8_layLayers 30 = .ok (.iconst 0, 1) := by decide +kernel
theorem dX8_layLayers_31 : decode cX8_layLayers 31 = .ok (.putfield 216, 3) := by decide +kernel
theorem dX8_layLayers_34 : decode cX8_layLayers 34 = .ok (.aload_n 0, 1) := by decide +kernel
theorem dX8_layLayers_35 : decode cX8_layLayers 35 = .ok (.getfield 78, 3) := by decide +kernel
theorem dX8_layLayers_38 : decode cX8_layLayers 38 = .ok (.ifCond .le 8, 3) := by decide +kernel
theorem dX8_layLayers_46 : decode cX8_layLayers 46 = .ok (.iconst 1, 1) := by decide +kernel
theorem dX8_layLayers_47 : decode cX8_layLayers 47 = .ok (.istore_n 1, 1) := by decide +kernel
theorem dX8_layLayers_48 : decode cX8_layLayers 48 = .ok (.iload_n 1, 1) := by decide +kernel
theorem dX8_layLayers_49 : decode cX8_layLayers 49 = .ok (.ifCond .eq 82, 3) := by decide +kernel
theorem dX8_layLayers_52 : decode cX8_layLayers 52 = .ok (.iconst 0, 1) := by decide +kernel
theorem dX8_layLayers_53 : decode cX8_layLayers 53 = .ok (.istore_n 1, 1) := by decide +kernel
theorem dX8_layLayers_54 : decode cX8_layLayers 54 = .ok (.iconst 0, 1) := by decide +kernel
theorem dX8_layLayers_55 : decode cX8_layLayers 55 = .ok (.istore_n 2, 1) := by decide +kernel
theorem dX8_layLayers_56 : decode cX8_layLayers 56 = .ok (.iload_n 2, 1) := by decide +kernel
theorem dX8_layLayers_57 : decode cX8_layLayers 57 = .ok (.aload_n 0, 1) := by decide +kernel
theorem dX8_layLayers_58 : decode cX8_layLayers 58 = .ok (.getfield 81, 3) := by decide +kernel
theorem dX8_layLayers_61 : decode cX8_layLayers 61 = .ok (.if_icmp .ge 67, 3) := by decide +kernel
theorem dX8_layLayers_128 : decode cX8_layLayers 128 = .ok (.goto (-80), 3) := by decide +kernel
theorem dX8_layLayers_131 : decode cX8_layLayers 131 = .ok (.iconst 0, 1) := by decide +kernel
theorem dX8_layLayers_132 : decode cX8_layLayers 132 = .ok (.istore_n 2, 1) := by decide +kernel
theorem dX8_layLayers_133 : decode cX8_layLayers 133 = .ok (.iload_n 2, 1) := by decide +kernel
theorem dX8_layLayers_134 : decode cX8_layLayers 134 = .ok (.aload_n 0, 1) := by decide +kernel
theorem dX8_layLayers_135 : decode cX8_layLayers 135 = .ok (.getfield 206, 3) := by decide +kernel
theorem dX8_layLayers_138 : decode cX8_layLayers 138 = .ok (.if_icmp .ge 33, 3) := by decide +kernel
theorem dX8_layLayers_171 : decode cX8_layLayers 171 = .ok (.aload_n 0, 1) := by decide +kernel
theorem dX8_layLayers_172 : decode cX8_layLayers 172 = .ok (.getfield 228, 3) := by decide +kernel
theorem dX8_layLayers_175 : decode cX8_layLayers 175 = .ok (.ifCond .le 4, 3) := by decide +kernel
theorem dX8_layLayers_179 : decode cX8_layLayers 179 = .ok (.aload_n 0, 1) := by decide +kernel
theorem dX8_layLayers_180 : decode cX8_layLayers 180 = .ok (.aload_n 0, 1) := by decide +kernel
theorem dX8_layLayers_181 : decode cX8_layLayers 181 = .ok (.getfield 216, 3) := by decide +kernel
theorem dX8_layLayers_184 : decode cX8_layLayers 184 = .ok (.anewarray 69, 3) := by decide +kernel
theorem dX8_layLayers_187 : decode cX8_layLayers 187 = .ok (.putfield 70, 3) := by decide +kernel
theorem dX8_layLayers_190 : decode cX8_layLayers 190 = .ok (.iconst 0, 1) := by decide +kernel
theorem dX8_layLayers_191 : decode cX8_layLayers 191 = .ok (.istore_n 2, 1) := by decide +kernel
theorem dX8_layLayers_192 : decode cX8_layLayers 192 = .ok (.iload_n 2, 1) := by decide +kernel
theorem dX8_layLayers_193 : decode cX8_layLayers 193 = .ok (.aload_n 0, 1) := by decide +kernel
theorem dX8_layLayers_194 : decode cX8_layLayers 194 = .ok (.getfield 216, 3) := by decide +kernel
theorem dX8_layLayers_197 : decode cX8_layLayers 197 = .ok (.if_icmp .ge 20, 3) := by decide +kernel
theorem dX8_layLayers_217 : decode cX8_layLayers 217 = .ok (.return_, 1) := by decide +kernel
theorem dX8_lay_0 : decode cX8_lay 0 = .ok (.aload_n 0, 1) := by decide +kernel
theorem dX8_lay_1 : decode cX8_lay 1 = .ok (.getfield 84, 3) := by decide +kernel
theorem dX8_lay_4 : decode cX8_lay 4 = .ok (.ifCond .eq 4, 3) := by decide +kernel
theorem dX8_lay_8 : decode cX8_lay 8 = .ok (.aload_n 0, 1) := by decide +kernel
theorem dX8_lay_9 : decode cX8_lay 9 = .ok (.iconst 1, 1) := by decide +kernel
theorem dX8_lay_10 : decode cX8_lay 10 = .ok (.putfield 84, 3) := by decide +kernel
theorem dX8_lay_13 : decode cX8_lay 13 = .ok (.aload_n 0, 1) := by decide +kernel
theorem dX8_lay_14 : decode cX8_lay 14 = .ok (.iconst 0, 1) := by decide +kernel
theorem dX8_lay_15 : decode cX8_lay 15 = .ok (.putfield 88, 3) := by decide +kernel
theorem dX8_lay_18 : decode cX8_lay 18 = .ok (.aload_n 0, 1) := by decide +kernel
theorem dX8_lay_19 : decode cX8_lay 19 = .ok (.iconst 0, 1) := by decide +kernel
theorem dX8_lay_20 : decode cX8_lay 20 = .ok (.putfield 81, 3) := by decide +kernel
theorem dX8_lay_23 : decode cX8_lay 23 = .ok (.iconst 0, 1) := by decide +kernel
theorem dX8_lay_24 : decode cX8_lay 24 = .ok (.istore_n 1, 1) := by decide +kernel
theorem dX8_lay_25 : decode cX8_lay 25 = .ok (.iload_n 1, 1) := by decide +kernel
theorem dX8_lay_26 : decode cX8_lay 26 = .ok (.aload_n 0, 1) := by decide +kernel
theorem dX8_lay_27 : decode cX8_lay 27 = .ok (.getfield 78, 3) := by decide +kernel
theorem dX8_lay_30 : decode cX8_lay 30 = .ok (.if_icmp .ge 49, 3) := by decide +kernel
theorem dX8_lay_79 : decode cX8_lay 79 = .ok (.aload_n 0, 1) := by decide +kernel
theorem dX8_lay_80 : decode cX8_lay 80 = .ok (.getfield 25, 3) := by decide +kernel
theorem dX8_lay_83 : decode cX8_lay 83 = .ok (.aload_n 0, 1) := by decide +kernel
theorem dX8_lay_84 : decode cX8_lay 84 = .ok (.getfield 88, 3) := by decide +kernel
theorem dX8_lay_87 : decode cX8_lay 87 = .ok (.aload_n 0, 1) := by decide +kernel
theorem dX8_lay_88 : decode cX8_lay 88 = .ok (.getfield 78, 3) := by decide +kernel
theorem dX8_lay_91 : decode cX8_lay 91 = .ok (.iastore, 1) := by decide +kernel
theorem dX8_lay_92 : decode cX8_lay 92 = .ok (.iconst 0, 1) := by decide +kernel
theorem dX8_lay_93 : decode cX8_lay 93 = .ok (.istore_n 1, 1) := by decide +kernel
theorem dX8_lay_94 : decode cX8_lay 94 = .ok (.iload_n 1, 1) := by decide +kernel
theorem dX8_lay_95 : decode cX8_lay 95 = .ok (.aload_n 0, 1) := by decide +kernel
theorem dX8_lay_96 : decode cX8_lay 96 = .ok (.getfield 88, 3) := by decide +kernel
theorem dX8_lay_99 : decode cX8_lay 99 = .ok (.if_icmp .ge 159, 3) := by decide +kernel
theorem dX8_lay_258 : decode cX8_lay 258 = .ok (.aload_n 0, 1) := by decide +kernel
theorem dX8_lay_259 : decode cX8_lay 259 = .ok (.aload_n 0, 1) := by decide +kernel
theorem dX8_lay_260 : decode cX8_lay 260 = .ok (.getfield 78, 3) := by decide +kernel
theorem dX8_lay_263 : decode cX8_lay 263 = .ok (.ifCond .ne 7, 3) := by decide +kernel
theorem dX8_lay_266 : decode cX8_lay 266 = .ok (.lconst 0, 1) := by decide +kernel
theorem dX8_lay_267 : decode cX8_lay 267 = .ok (.goto 9, 3) := by decide +kernel
theorem dX8_lay_276 : decode cX8_lay 276 = .ok (.putfield 107, 3) := by decide +kernel
theorem dX8_lay_279 : decode cX8_lay 279 = .ok (.iconst 0, 1) := by decide +kernel
theorem dX8_lay_280 : decode cX8_lay 280 = .ok (.istore_n 1, 1) := by decide +kernel
theorem dX8_lay_281 : decode cX8_lay 281 = .ok (.iload_n 1, 1) := by decide +kernel
theorem dX8_lay_282 : decode cX8_lay 282 = .ok (.aload_n 0, 1) := by decide +kernel
theorem dX8_lay_283 : decode cX8_lay 283 = .ok (.getfield 88, 3) := by decide +kernel
theorem dX8_lay_286 : decode cX8_lay 286 = .ok (.if_icmp .ge 23, 3) := by decide +kernel
theorem dX8_lay_309 : decode cX8_lay 309 = .ok (.iconst 0, 1) := by decide +kernel
theorem dX8_lay_310 : decode cX8_lay 310 = .ok (.istore_n 1, 1) := by decide +kernel
theorem dX8_lay_311 : decode cX8_lay 311 = .ok (.iload_n 1, 1) := by decide +kernel
theorem dX8_lay_312 : decode cX8_lay 312 = .ok (.aload_n 0, 1) := by decide +kernel
theorem dX8_lay_313 : decode cX8_lay 313 = .ok (.getfield 88, 3) := by decide +kernel
theorem dX8_lay_316 : decode cX8_lay 316 = .ok (.if_icmp .ge 20, 3) := by decide +kernel
theorem dX8_lay_336 : decode cX8_lay 336 = .ok (.aload_n 0, 1) := by decide +kernel
theorem dX8_lay_337 : decode cX8_lay 337 = .ok (.invokevirtual 115, 3) := by decide +kernel
theorem dX8_lay_340 : decode cX8_lay 340 = .ok (.aload_n 0, 1) := by decide +kernel
theorem dX8_lay_341 : decode cX8_lay 341 = .ok (.invokevirtual 118, 3) := by decide +kernel
theorem dX8_lay_344 : decode cX8_lay 344 = .ok (.aload_n 0, 1) := by decide +kernel
theorem dX8_lay_345 : decode cX8_lay 345 = .ok (.invokevirtual 121, 3) := by decide +kernel
theorem dX8_lay_348 : decode cX8_lay 348 = .ok (.return_, 1) := by decide +kernel
theorem mw_343 : Cond.fieldLink RX8 74 "OrielChartModel" "thrown" "I" ∈ GW := gw_mem (inT5 _ (List.mem_of_getElem? (i := 162) rfl)) rfl
theorem mw_344 : Cond.fieldLink RX8 78 "OrielChartModel" "many" "I" ∈ GW := gw_mem (inT5 _ (List.mem_of_getElem? (i := 163) rfl)) rfl
theorem mw_345 : Cond.code yX8_is cX8_is 3 (some Jvm.ClassFile.FieldType.boolean) ∈ GW := gw_mem (inT6 _ (List.mem_of_getElem? (i := 30) rfl)) rfl
theorem mw_346 : Cond.methodLink RX8 261 yX8_is ∈ GW := gw_mem (inT6 _ (List.mem_of_getElem? (i := 28) rfl)) rfl
theorem mw_347 : Cond.static yX8_is ∈ GW := gw_mem (inT6 _ (List.mem_of_getElem? (i := 29) rfl)) rfl
theorem mw_348 : Cond.initialized RX8 ∈ GW := gw_mem (inT1 _ (List.mem_of_getElem? (i := 9) rfl)) rfl
theorem mw_349 : Cond.fieldLink RX8 84 "OrielChartModel" "isLaid" "Z" ∈ GW := gw_mem (inT5 _ (List.mem_of_getElem? (i := 168) rfl)) rfl
theorem mw_350 : Cond.fieldLink RX8 228 "OrielChartModel" "swept" "I" ∈ GW := gw_mem (inT5 _ (List.mem_of_getElem? (i := 192) rfl)) rfl
theorem mw_351 : Cond.fieldLink RX8 41 "OrielChartModel" "live" "[I" ∈ GW := gw_mem (inT5 _ (List.mem_of_getElem? (i := 178) rfl)) rfl
theorem mw_352 : Cond.code yJ7_fill_53178 cJ7_fill_53178 4 (none : Option FieldType) ∈ GW := gw_mem (inT6 _ (List.mem_of_getElem? (i := 127) rfl)) rfl
theorem mw_353 : Cond.methodLink RX8 143 yJ7_fill_53178 ∈ GW := gw_mem (inT6 _ (List.mem_of_getElem? (i := 125) rfl)) rfl
theorem mw_354 : Cond.static yJ7_fill_53178 ∈ GW := gw_mem (inT6 _ (List.mem_of_getElem? (i := 126) rfl)) rfl
theorem mw_355 : Cond.initialized RJ7 ∈ GW := gw_mem (inT1 _ (List.mem_of_getElem? (i := 19) rfl)) rfl
theorem mw_356 : Cond.fieldLink RX8 88 "OrielChartModel" "blocks" "I" ∈ GW := gw_mem (inT5 _ (List.mem_of_getElem? (i := 169) rfl)) rfl
theorem mw_357 : Cond.fieldLink RX8 44 "OrielChartModel" "goes" "[J" ∈ GW := gw_mem (inT5 _ (List.mem_of_getElem? (i := 179) rfl)) rfl
theorem mw_358 : Cond.code yJ7_fill_d0a16 cJ7_fill_d0a16 5 (none : Option FieldType) ∈ GW := gw_mem (inT6 _ (List.mem_of_getElem? (i := 142) rfl)) rfl
theorem mw_359 : Cond.methodLink RX8 162 yJ7_fill_d0a16 ∈ GW := gw_mem (inT6 _ (List.mem_of_getElem? (i := 140) rfl)) rfl
theorem mw_360 : Cond.static yJ7_fill_d0a16 ∈ GW := gw_mem (inT6 _ (List.mem_of_getElem? (i := 141) rfl)) rfl
theorem mw_361 : Cond.fieldLink RX8 81 "OrielChartModel" "edges" "I" ∈ GW := gw_mem (inT5 _ (List.mem_of_getElem? (i := 170) rfl)) rfl
theorem mw_362 : Cond.fieldLink RX8 107 "OrielChartModel" "reached" "J" ∈ GW := gw_mem (inT5 _ (List.mem_of_getElem? (i := 175) rfl)) rfl
theorem mw_363 : Cond.fieldLink RX8 165 "OrielChartModel" "nodes" "J" ∈ GW := gw_mem (inT5 _ (List.mem_of_getElem? (i := 184) rfl)) rfl
theorem mw_364 : Cond.fieldLink RX8 168 "OrielChartModel" "steps" "I" ∈ GW := gw_mem (inT5 _ (List.mem_of_getElem? (i := 183) rfl)) rfl
theorem mw_365 : Cond.fieldLink RX8 56 "OrielChartModel" "state" "[I" ∈ GW := gw_mem (inT5 _ (List.mem_of_getElem? (i := 185) rfl)) rfl
theorem mw_366 : Cond.fieldLink RX8 62 "OrielChartModel" "isTurned" "[Z" ∈ GW := gw_mem (inT5 _ (List.mem_of_getElem? (i := 188) rfl)) rfl
theorem mw_367 : Cond.code yJ7_fill_49daa cJ7_fill_49daa 4 (none : Option FieldType) ∈ GW := gw_mem (inT6 _ (List.mem_of_getElem? (i := 191) rfl)) rfl
theorem mw_368 : Cond.methodLink RX8 213 yJ7_fill_49daa ∈ GW := gw_mem (inT6 _ (List.mem_of_getElem? (i := 189) rfl)) rfl
theorem mw_369 : Cond.static yJ7_fill_49daa ∈ GW := gw_mem (inT6 _ (List.mem_of_getElem? (i := 190) rfl)) rfl
theorem mw_370 : Cond.fieldLink RX8 66 "OrielChartModel" "layer" "[I" ∈ GW := gw_mem (inT5 _ (List.mem_of_getElem? (i := 189) rfl)) rfl
theorem mw_371 : Cond.fieldLink RX8 206 "OrielChartModel" "met" "I" ∈ GW := gw_mem (inT5 _ (List.mem_of_getElem? (i := 187) rfl)) rfl
theorem mw_372 : Cond.fieldLink RX8 216 "OrielChartModel" "layers" "I" ∈ GW := gw_mem (inT5 _ (List.mem_of_getElem? (i := 190) rfl)) rfl
theorem mw_373 : Cond.classLink RX8 69 "[I" ∈ GW := gw_mem (inT5 _ (List.mem_of_getElem? (i := 160) rfl)) rfl
theorem mw_374 : Cond.fieldLink RX8 70 "OrielChartModel" "order" "[[I" ∈ GW := gw_mem (inT5 _ (List.mem_of_getElem? (i := 191) rfl)) rfl
theorem mw_375 : Cond.fieldLink RX8 25 "OrielChartModel" "first" "[I" ∈ GW := gw_mem (inT5 _ (List.mem_of_getElem? (i := 172) rfl)) rfl
theorem mw_376 : Cond.code yX8_layLive cX8_layLive 5 (none : Option FieldType) ∈ GW := gw_mem (inT6 _ (List.mem_of_getElem? (i := 124) rfl)) rfl
theorem mw_377 : Cond.methodLink RX8 115 yX8_layLive ∈ GW := gw_mem (inT6 _ (List.mem_of_getElem? (i := 121) rfl)) rfl
theorem mw_378 : Cond.instanceMethod yX8_layLive ∈ GW := gw_mem (inT6 _ (List.mem_of_getElem? (i := 123) rfl)) rfl
theorem mw_379 : Cond.selects RX8 yX8_layLive yX8_layLive ∈ GW := gw_mem (inTp (q := (yX8_layLive, 32)) (List.mem_of_getElem? (i := 63) rfl)) rfl
theorem mw_380 : Cond.code yX8_reduce cX8_reduce 3 (none : Option FieldType) ∈ GW := gw_mem (inT6 _ (List.mem_of_getElem? (i := 139) rfl)) rfl
theorem mw_381 : Cond.methodLink RX8 118 yX8_reduce ∈ GW := gw_mem (inT6 _ (List.mem_of_getElem? (i := 136) rfl)) rfl
theorem mw_382 : Cond.instanceMethod yX8_reduce ∈ GW := gw_mem (inT6 _ (List.mem_of_getElem? (i := 138) rfl)) rfl
theorem mw_383 : Cond.selects RX8 yX8_reduce yX8_reduce ∈ GW := gw_mem (inTp (q := (yX8_reduce, 32)) (List.mem_of_getElem? (i := 66) rfl)) rfl
theorem mw_384 : Cond.code yX8_layLayers cX8_layLayers 3 (none : Option FieldType) ∈ GW := gw_mem (inT6 _ (List.mem_of_getElem? (i := 188) rfl)) rfl
theorem mw_385 : Cond.methodLink RX8 121 yX8_layLayers ∈ GW := gw_mem (inT6 _ (List.mem_of_getElem? (i := 185) rfl)) rfl
theorem mw_386 : Cond.instanceMethod yX8_layLayers ∈ GW := gw_mem (inT6 _ (List.mem_of_getElem? (i := 187) rfl)) rfl
theorem mw_387 : Cond.selects RX8 yX8_layLayers yX8_layLayers ∈ GW := gw_mem (inTp (q := (yX8_layLayers, 32)) (List.mem_of_getElem? (i := 74) rfl)) rfl
theorem pd_X8_is : yX8_is.cls ≠ "java/lang/invoke/MethodHandle" ∧ yX8_is.cls ≠ "java/lang/invoke/VarHandle" ∧ (parseMethodDescriptor yX8_is.desc).map (fun d => d.parameters.length) = some 3 := by decide +kernel
theorem pd_J7_fill_53178 : yJ7_fill_53178.cls ≠ "java/lang/invoke/MethodHandle" ∧ yJ7_fill_53178.cls ≠ "java/lang/invoke/VarHandle" ∧ (parseMethodDescriptor yJ7_fill_53178.desc).map (fun d => d.parameters.length) = some 2 := by decide +kernel
theorem pd_J7_fill_d0a16 : yJ7_fill_d0a16.cls ≠ "java/lang/invoke/MethodHandle" ∧ yJ7_fill_d0a16.cls ≠ "java/lang/invoke/VarHandle" ∧ (parseMethodDescriptor yJ7_fill_d0a16.desc).map (fun d => d.parameters.length) = some 2 := by decide +kernel
theorem pd_J7_fill_49daa : yJ7_fill_49daa.cls ≠ "java/lang/invoke/MethodHandle" ∧ yJ7_fill_49daa.cls ≠ "java/lang/invoke/VarHandle" ∧ (parseMethodDescriptor yJ7_fill_49daa.desc).map (fun d => d.parameters.length) = some 2 := by decide +kernel
theorem pdv_X8_layLive : yX8_layLive.cls = RX8 ∧ yX8_layLive.cls ≠ "java/lang/invoke/MethodHandle" ∧ yX8_layLive.cls ≠ "java/lang/invoke/VarHandle" ∧ (parseMethodDescriptor yX8_layLive.desc).map (fun d => d.parameters.length) = some 0 := by decide +kernel
theorem pdv_X8_reduce : yX8_reduce.cls = RX8 ∧ yX8_reduce.cls ≠ "java/lang/invoke/MethodHandle" ∧ yX8_reduce.cls ≠ "java/lang/invoke/VarHandle" ∧ (parseMethodDescriptor yX8_reduce.desc).map (fun d => d.parameters.length) = some 0 := by decide +kernel
theorem pdv_X8_layLayers : yX8_layLayers.cls = RX8 ∧ yX8_layLayers.cls ≠ "java/lang/invoke/MethodHandle" ∧ yX8_layLayers.cls ≠ "java/lang/invoke/VarHandle" ∧ (parseMethodDescriptor yX8_layLayers.desc).map (fun d => d.parameters.length) = some 0 := by decide +kernel
theorem is_t {v lo hi r : Int32} (h : r = 1 ∧ ¬ v < lo ∧ ¬ hi < v ∨ r = 0 ∧ (v < lo ∨ hi < v)) (c : ¬ r = 0) : ¬ v < lo ∧ ¬ hi < v := by
  rcases h with ⟨-, h⟩ | ⟨h, -⟩
  · exact h
  · exact absurd h c
theorem is_f {v lo hi r : Int32} (h : r = 1 ∧ ¬ v < lo ∧ ¬ hi < v ∨ r = 0 ∧ (v < lo ∨ hi < v)) (c : r = 0) : v < lo ∨ hi < v := by
  rcases h with ⟨h, -⟩ | ⟨-, h⟩
  · rw [h] at c; exact absurd c (by decide)
  · exact h
theorem leI {a b : Int32} (h : ¬ b < a) : a ≤ b := Int32.not_lt.mp h
theorem oki_n1 {a b c : Int32} (h : a < 0 ∨ 0 < a) : ¬ OKI a b c := fun z => by
  rcases h with h | h
  · exact z.1 h
  · exact absurd h (Int32.not_lt.mpr z.2.1)
theorem oki_n2 {a b c : Int32} (h : b < 0 ∨ 3 < b) : ¬ OKI a b c := fun z => by
  rcases h with h | h
  · exact z.2.2.1 h
  · exact absurd h (Int32.not_lt.mpr z.2.2.2.1)
theorem oki_n3 {a b c r : Int32} (hj : r = 1 ∧ (b = 1 ∨ b = 2) ∨ r = 0 ∧ ¬ b = 1 ∧ ¬ b = 2) (c1 : ¬ r = 0) (h : c < 0 ∨ 40 < c) : ¬ OKI a b c := fun z => by
  rcases hj with ⟨-, hj⟩ | ⟨hj, -⟩
  · rcases h with h | h
    · exact (z.2.2.2.2 hj).1 h
    · exact (z.2.2.2.2 hj).2 h
  · exact c1 hj
theorem eq0 {a : Int32} (h : ¬ a < 0 ∧ ¬ 0 < a) : a = 0 := by
  have h1 := h.1
  have h2 := h.2
  rw [Int32.lt_iff_toInt_lt] at h1 h2
  have h0 : (0 : Int32).toInt = 0 := rfl
  exact Int32.toInt_inj.mp (by omega)
set_option maxHeartbeats 4000000 in
set_option maxRecDepth 100000 in
theorem m_bitCount0 (l : Launch) (D : va_G) (cI cJ cZ : ClassId) (cO : ClassId) (w : va_W) : CT l D (TO cI cJ cZ cO) yJ13_bitCount_95d88 (.code yJ13_bitCount_95d88 cJ13_bitCount_95d88 2 (some Jvm.ClassFile.FieldType.int)) 0 0 0 w [.long 0] (QI D (TO cI cJ cZ cO) (fun r u => r = 0 ∧ u = w)) := by
  refine ent (by decide) (Nat.le_of_ble_eq_true rfl) ?_
  intro p e s m below meth c ls A hx hb hr hg hown hml hlocks hnm hP hK hD hS hA hN hl
  have hl : lv_has ls 2 [(0, .long 0)] := hl
  refine lv_lload_n hx hb dJ13_bitCount_95d88_0 rfl (lv_at hl 0 rfl) ?_
  refine lv_lload_n hx hb dJ13_bitCount_95d88_1 rfl (lv_at hl 0 rfl) ?_
  refine lv_iconst (v := 1) hx hb dJ13_bitCount_95d88_2 (by decide) ?_
  refine lv_lushr (v := 0) hx hb dJ13_bitCount_95d88_3 (lushr0 _) ?_
  refine lv_ldc2 (v := 6148914691236517205) hx hb hown (hg _ mw_231) dJ13_bitCount_95d88_4 ?_
  refine lv_land hx hb dJ13_bitCount_95d88_7 ?_
  refine lv_topl (fun v_1 ev_1 => ?_)
  obtain rfl : v_1 = (0 : Int64) := ev_1.trans (by decide)
  refine lv_lsub hx hb dJ13_bitCount_95d88_8 ?_
  refine lv_topl (fun v_2 ev_2 => ?_)
  obtain rfl : v_2 = (0 : Int64) := ev_2.trans (by decide)
  refine lv_lstore_n (lv' := [(0, .long 0)]) hx hb dJ13_bitCount_95d88_9 rfl hl (by decide) rfl (fun ls hl => ?_)
  refine lv_lload_n hx hb dJ13_bitCount_95d88_10 rfl (lv_at hl 0 rfl) ?_
  refine lv_ldc2 (v := 3689348814741910323) hx hb hown (hg _ mw_232) dJ13_bitCount_95d88_11 ?_
  refine lv_land hx hb dJ13_bitCount_95d88_14 ?_
  refine lv_topl (fun v_3 ev_3 => ?_)
  obtain rfl : v_3 = (0 : Int64) := ev_3.trans (by decide)
  refine lv_lload_n hx hb dJ13_bitCount_95d88_15 rfl (lv_at hl 0 rfl) ?_
  refine lv_iconst (v := 2) hx hb dJ13_bitCount_95d88_16 (by decide) ?_
  refine lv_lushr (v := 0) hx hb dJ13_bitCount_95d88_17 (lushr0 _) ?_
  refine lv_ldc2 (v := 3689348814741910323) hx hb hown (hg _ mw_232) dJ13_bitCount_95d88_18 ?_
  refine lv_land hx hb dJ13_bitCount_95d88_21 ?_
  refine lv_topl (fun v_4 ev_4 => ?_)
  obtain rfl : v_4 = (0 : Int64) := ev_4.trans (by decide)
  refine lv_ladd hx hb dJ13_bitCount_95d88_22 ?_
  refine lv_topl (fun v_5 ev_5 => ?_)
  obtain rfl : v_5 = (0 : Int64) := ev_5.trans (by decide)
  refine lv_lstore_n (lv' := [(0, .long 0)]) hx hb dJ13_bitCount_95d88_23 rfl hl (by decide) rfl (fun ls hl => ?_)
  refine lv_lload_n hx hb dJ13_bitCount_95d88_24 rfl (lv_at hl 0 rfl) ?_
  refine lv_lload_n hx hb dJ13_bitCount_95d88_25 rfl (lv_at hl 0 rfl) ?_
  refine lv_iconst (v := 4) hx hb dJ13_bitCount_95d88_26 (by decide) ?_
  refine lv_lushr (v := 0) hx hb dJ13_bitCount_95d88_27 (lushr0 _) ?_
  refine lv_ladd hx hb dJ13_bitCount_95d88_28 ?_
  refine lv_topl (fun v_6 ev_6 => ?_)
  obtain rfl : v_6 = (0 : Int64) := ev_6.trans (by decide)
  refine lv_ldc2 (v := 1085102592571150095) hx hb hown (hg _ mw_233) dJ13_bitCount_95d88_29 ?_
  refine lv_land hx hb dJ13_bitCount_95d88_32 ?_
  refine lv_topl (fun v_7 ev_7 => ?_)
  obtain rfl : v_7 = (0 : Int64) := ev_7.trans (by decide)
  refine lv_lstore_n (lv' := [(0, .long 0)]) hx hb dJ13_bitCount_95d88_33 rfl hl (by decide) rfl (fun ls hl => ?_)
  refine lv_lload_n hx hb dJ13_bitCount_95d88_34 rfl (lv_at hl 0 rfl) ?_
  refine lv_lload_n hx hb dJ13_bitCount_95d88_35 rfl (lv_at hl 0 rfl) ?_
  refine lv_bipush (v := 8) hx hb dJ13_bitCount_95d88_36 (by decide) ?_
  refine lv_lushr (v := 0) hx hb dJ13_bitCount_95d88_38 (lushr0 _) ?_
  refine lv_ladd hx hb dJ13_bitCount_95d88_39 ?_
  refine lv_topl (fun v_8 ev_8 => ?_)
  obtain rfl : v_8 = (0 : Int64) := ev_8.trans (by decide)
  refine lv_lstore_n (lv' := [(0, .long 0)]) hx hb dJ13_bitCount_95d88_40 rfl hl (by decide) rfl (fun ls hl => ?_)
  refine lv_lload_n hx hb dJ13_bitCount_95d88_41 rfl (lv_at hl 0 rfl) ?_
  refine lv_lload_n hx hb dJ13_bitCount_95d88_42 rfl (lv_at hl 0 rfl) ?_
  refine lv_bipush (v := 16) hx hb dJ13_bitCount_95d88_43 (by decide) ?_
  refine lv_lushr (v := 0) hx hb dJ13_bitCount_95d88_45 (lushr0 _) ?_
  refine lv_ladd hx hb dJ13_bitCount_95d88_46 ?_
  refine lv_topl (fun v_9 ev_9 => ?_)
  obtain rfl : v_9 = (0 : Int64) := ev_9.trans (by decide)
  refine lv_lstore_n (lv' := [(0, .long 0)]) hx hb dJ13_bitCount_95d88_47 rfl hl (by decide) rfl (fun ls hl => ?_)
  refine lv_lload_n hx hb dJ13_bitCount_95d88_48 rfl (lv_at hl 0 rfl) ?_
  refine lv_lload_n hx hb dJ13_bitCount_95d88_49 rfl (lv_at hl 0 rfl) ?_
  refine lv_bipush (v := 32) hx hb dJ13_bitCount_95d88_50 (by decide) ?_
  refine lv_lushr (v := 0) hx hb dJ13_bitCount_95d88_52 (lushr0 _) ?_
  refine lv_ladd hx hb dJ13_bitCount_95d88_53 ?_
  refine lv_topl (fun v_10 ev_10 => ?_)
  obtain rfl : v_10 = (0 : Int64) := ev_10.trans (by decide)
  refine lv_lstore_n (lv' := [(0, .long 0)]) hx hb dJ13_bitCount_95d88_54 rfl hl (by decide) rfl (fun ls hl => ?_)
  refine lv_lload_n hx hb dJ13_bitCount_95d88_55 rfl (lv_at hl 0 rfl) ?_
  refine lv_l2i (v := 0) hx hb dJ13_bitCount_95d88_56 (by decide) ?_
  refine lv_bipush (v := 127) hx hb dJ13_bitCount_95d88_57 (by decide) ?_
  refine lv_iand hx hb dJ13_bitCount_95d88_59 ?_
  refine lv_topi (fun v_11 ev_11 => ?_)
  obtain rfl : v_11 = (0 : Int32) := ev_11.trans (by decide)
  exact W.iret (v := 0) hx hb hr (fun t ht hW => ⟨⟨0, w, rfl, ⟨rfl, rfl⟩, ⟨by rw [ht]; exact hP, va_K.moved hW.alike hK, hD⟩⟩, hS.F ht⟩) hS.2.2 dJ13_bitCount_95d88_60
set_option maxHeartbeats 4000000 in
set_option maxRecDepth 100000 in
theorem m_has0 (l : Launch) (D : va_G) (cI cJ cZ : ClassId) (cO : ClassId) (w : va_W) (k : Int32) : CT l D (TO cI cJ cZ cO) yX8_has (.code yX8_has cX8_has 3 (some Jvm.ClassFile.FieldType.boolean)) 0 0 0 w [.long 0, .int k] (QI D (TO cI cJ cZ cO) (fun r u => r = 0 ∧ u = w)) := by
  refine ent (by decide) (Nat.le_of_ble_eq_true rfl) ?_
  intro p e s m below meth c ls A hx hb hr hg hown hml hlocks hnm hP hK hD hS hA hN hl
  have hl : lv_has ls 3 [(0, .long 0), (2, .int k)] := hl
  refine lv_lload_n hx hb dX8_has_0 rfl (lv_at hl 0 rfl) ?_
  refine lv_iload_n hx hb dX8_has_1 rfl (lv_at hl 1 rfl) ?_
  refine lv_lshr (v := 0) hx hb dX8_has_2 (lshr0 _) ?_
  refine lv_lconst (v := 1) hx hb dX8_has_3 (by decide) ?_
  refine lv_land hx hb dX8_has_4 ?_
  refine lv_topl (fun v_1 ev_1 => ?_)
  obtain rfl : v_1 = (0 : Int64) := ev_1.trans (by decide)
  refine lv_lconst (v := 0) hx hb dX8_has_5 (by decide) ?_
  refine W.lcmp hx hb dX8_has_6 ?_
  refine lv_topi (fun v_2 ev_2 => ?_)
  obtain rfl : v_2 = (0 : Int32) := ev_2.trans (by decide)
  refine lv_if_eq (tgt := 14) hx hb dX8_has_7 (by decide) (fun c_7 => ?_) (fun c_7 => absurd (by decide) c_7)
  refine lv_iconst (v := 0) hx hb dX8_has_14 (by decide) ?_
  exact W.zret (v := 0) hx hb hr rfl (fun t ht hW => ⟨⟨0, w, rfl, ⟨rfl, rfl⟩, ⟨by rw [ht]; exact hP, va_K.moved hW.alike hK, hD⟩⟩, hS.F ht⟩) hS.2.2 dX8_has_15
set_option maxHeartbeats 4000000 in
set_option maxRecDepth 100000 in
theorem m_is (l : Launch) (D : va_G) (cI cJ cZ : ClassId) (cO : ClassId) (w : va_W) (v lo hi : Int32) : CT l D (TO cI cJ cZ cO) yX8_is (.code yX8_is cX8_is 3 (some Jvm.ClassFile.FieldType.boolean)) 0 0 0 w [.int v, .int lo, .int hi] (QI D (TO cI cJ cZ cO) (fun r u => (r = 1 ∧ ¬ v < lo ∧ ¬ hi < v ∨ r = 0 ∧ (v < lo ∨ hi < v)) ∧ u = w)) := by
  refine ent (by decide) (Nat.le_of_ble_eq_true rfl) ?_
  intro p e s m below meth c ls A hx hb hr hg hown hml hlocks hnm hP hK hD hS hA hN hl
  have hl : lv_has ls 3 [(0, .int v), (1, .int lo), (2, .int hi)] := hl
  refine lv_iload_n hx hb dX8_is_0 rfl (lv_at hl 0 rfl) ?_
  refine lv_iload_n hx hb dX8_is_1 rfl (lv_at hl 1 rfl) ?_
  refine lv_icmp_lt (tgt := 14) hx hb dX8_is_2 (by decide) (fun c_2 => ?_) (fun c_2 => ?_)
  · refine lv_iconst (v := 0) hx hb dX8_is_14 (by decide) ?_
    exact W.zret (v := 0) hx hb hr rfl (fun t ht hW => ⟨⟨0, w, rfl, ⟨by first | exact Or.inr ⟨rfl, Or.inl c_2⟩ | exact Or.inr ⟨rfl, Or.inr c_7⟩ | exact Or.inl ⟨rfl, c_2, c_7⟩, rfl⟩, ⟨by rw [ht]; exact hP, va_K.moved hW.alike hK, hD⟩⟩, hS.F ht⟩) hS.2.2 dX8_is_15
  · refine lv_iload_n hx hb dX8_is_5 rfl (lv_at hl 0 rfl) ?_
    refine lv_iload_n hx hb dX8_is_6 rfl (lv_at hl 2 rfl) ?_
    refine lv_icmp_gt (tgt := 14) hx hb dX8_is_7 (by decide) (fun c_7 => ?_) (fun c_7 => ?_)
    · refine lv_iconst (v := 0) hx hb dX8_is_14 (by decide) ?_
      exact W.zret (v := 0) hx hb hr rfl (fun t ht hW => ⟨⟨0, w, rfl, ⟨by first | exact Or.inr ⟨rfl, Or.inl c_2⟩ | exact Or.inr ⟨rfl, Or.inr c_7⟩ | exact Or.inl ⟨rfl, c_2, c_7⟩, rfl⟩, ⟨by rw [ht]; exact hP, va_K.moved hW.alike hK, hD⟩⟩, hS.F ht⟩) hS.2.2 dX8_is_15
    · refine lv_iconst (v := 1) hx hb dX8_is_10 (by decide) ?_
      refine lv_goto (tgt := 15) hx hb dX8_is_11 (by decide) ?_
      exact W.zret (v := 1) hx hb hr rfl (fun t ht hW => ⟨⟨1, w, rfl, ⟨by first | exact Or.inr ⟨rfl, Or.inl c_2⟩ | exact Or.inr ⟨rfl, Or.inr c_7⟩ | exact Or.inl ⟨rfl, c_2, c_7⟩, rfl⟩, ⟨by rw [ht]; exact hP, va_K.moved hW.alike hK, hD⟩⟩, hS.F ht⟩) hS.2.2 dX8_is_15
set_option maxHeartbeats 4000000 in
set_option maxRecDepth 100000 in
theorem m_isJump (l : Launch) (D : va_G) (cI cJ cZ : ClassId) (cO : ClassId) (w : va_W) (k : Int32) : CT l D (TO cI cJ cZ cO) yX8_isJump (.code yX8_isJump cX8_isJump 1 (some Jvm.ClassFile.FieldType.boolean)) 0 0 0 w [.int k] (QI D (TO cI cJ cZ cO) (fun r u => (r = 1 ∧ (k = 1 ∨ k = 2) ∨ r = 0 ∧ ¬ k = 1 ∧ ¬ k = 2) ∧ u = w)) := by
  refine ent (by decide) (Nat.le_of_ble_eq_true rfl) ?_
  intro p e s m below meth c ls A hx hb hr hg hown hml hlocks hnm hP hK hD hS hA hN hl
  have hl : lv_has ls 1 [(0, .int k)] := hl
  refine lv_iload_n hx hb dX8_isJump_0 rfl (lv_at hl 0 rfl) ?_
  refine lv_iconst (v := 1) hx hb dX8_isJump_1 (by decide) ?_
  refine lv_icmp_eq (tgt := 10) hx hb dX8_isJump_2 (by decide) (fun c_2 => ?_) (fun c_2 => ?_)
  · refine lv_iconst (v := 1) hx hb dX8_isJump_10 (by decide) ?_
    refine lv_goto (tgt := 15) hx hb dX8_isJump_11 (by decide) ?_
    exact W.zret (v := 1) hx hb hr rfl (fun t ht hW => ⟨⟨1, w, rfl, ⟨by first | exact Or.inl ⟨rfl, Or.inl c_2⟩ | exact Or.inl ⟨rfl, Or.inl (Classical.not_not.mp c_2)⟩ | exact Or.inl ⟨rfl, Or.inr (Classical.not_not.mp c_7)⟩ | exact Or.inl ⟨rfl, Or.inr c_7⟩ | exact Or.inr ⟨rfl, c_2, c_7⟩, rfl⟩, ⟨by rw [ht]; exact hP, va_K.moved hW.alike hK, hD⟩⟩, hS.F ht⟩) hS.2.2 dX8_isJump_15
  · refine lv_iload_n hx hb dX8_isJump_5 rfl (lv_at hl 0 rfl) ?_
    refine lv_iconst (v := 2) hx hb dX8_isJump_6 (by decide) ?_
    refine lv_icmp_ne (tgt := 14) hx hb dX8_isJump_7 (by decide) (fun c_7 => ?_) (fun c_7 => ?_)
    · refine lv_iconst (v := 0) hx hb dX8_isJump_14 (by decide) ?_
      exact W.zret (v := 0) hx hb hr rfl (fun t ht hW => ⟨⟨0, w, rfl, ⟨by first | exact Or.inl ⟨rfl, Or.inl c_2⟩ | exact Or.inl ⟨rfl, Or.inl (Classical.not_not.mp c_2)⟩ | exact Or.inl ⟨rfl, Or.inr (Classical.not_not.mp c_7)⟩ | exact Or.inl ⟨rfl, Or.inr c_7⟩ | exact Or.inr ⟨rfl, c_2, c_7⟩, rfl⟩, ⟨by rw [ht]; exact hP, va_K.moved hW.alike hK, hD⟩⟩, hS.F ht⟩) hS.2.2 dX8_isJump_15
    · refine lv_iconst (v := 1) hx hb dX8_isJump_10 (by decide) ?_
      refine lv_goto (tgt := 15) hx hb dX8_isJump_11 (by decide) ?_
      exact W.zret (v := 1) hx hb hr rfl (fun t ht hW => ⟨⟨1, w, rfl, ⟨by first | exact Or.inl ⟨rfl, Or.inl c_2⟩ | exact Or.inl ⟨rfl, Or.inl (Classical.not_not.mp c_2)⟩ | exact Or.inl ⟨rfl, Or.inr (Classical.not_not.mp c_7)⟩ | exact Or.inl ⟨rfl, Or.inr c_7⟩ | exact Or.inr ⟨rfl, c_2, c_7⟩, rfl⟩, ⟨by rw [ht]; exact hP, va_K.moved hW.alike hK, hD⟩⟩, hS.F ht⟩) hS.2.2 dX8_isJump_15
set_option maxHeartbeats 4000000 in
set_option maxRecDepth 100000 in
theorem m_refuse (l : Launch) (D : va_G) (cI cJ cZ : ClassId) (cO : ClassId) (oc : Nat × va_E) (am : Nat → Nat) (qo : Nat) (F : Nat → Nat → Int32) (G : Nat → Nat → Int64) (th mn ld sw : Int32) (sm : Int64) (k : Int32) : CT l D (TO cI cJ cZ cO) yX8_refuse (.code yX8_refuse cX8_refuse 2 (some Jvm.ClassFile.FieldType.int)) 0 0 0 (MW oc am cI cJ cZ cO th mn ld sw sm qo F G) [.ref (am 1), .int k] (QI D (TO cI cJ cZ cO) (fun r u => r = 0 ∧ u = MW oc am cI cJ cZ cO k mn ld sw sm qo F G)) := by
  refine ent (by decide) (Nat.le_of_ble_eq_true rfl) ?_
  intro p e s m below meth c ls A hx hb hr hg hown hml hlocks hnm hP hK hD hS hA hN hl
  have hl : lv_has ls 2 [(0, .ref (am 1)), (1, .int k)] := hl
  refine lv_aload_n hx hb dX8_refuse_0 rfl (lv_at hl 0 rfl) ?_
  refine lv_iload_n hx hb dX8_refuse_1 rfl (lv_at hl 1 rfl) ?_
  refine va_put (D := D) (ci := 8) (v := .int k) (C := RX8) (T := TX8) (N := 32) hx hb hg inGX8 tyX8 tyX8_ok nmX8 hown hK hP hD hS 1 rfl rfl 0 (by decide) (hg _ mw_343) (fun _ h9 => h9) rfl (tyX8_ok 0 (by decide)) rfl rfl (Nat.le_of_ble_eq_true rfl) dX8_refuse_2 (fun H locs hP hD hS => ?_)
  have hP : va_P D vwCl (MW oc am cI cJ cZ cO k mn ld sw sm qo F G) H := hP
  have hD : va_D A (MW oc am cI cJ cZ cO k mn ld sw sm qo F G) := hD
  refine lv_iconst (v := 0) hx hb dX8_refuse_5 (by decide) ?_
  exact W.iret (v := 0) hx hb hr (fun t ht hW => ⟨⟨0, (MW oc am cI cJ cZ cO k mn ld sw sm qo F G), rfl, ⟨rfl, rfl⟩, ⟨by rw [ht]; exact hP, va_K.moved hW.alike hK, hD⟩⟩, hS.F ht⟩) hS.2.2 dX8_refuse_6
set_option maxHeartbeats 4000000 in
set_option maxRecDepth 100000 in
theorem m_thrown (l : Launch) (D : va_G) (cI cJ cZ : ClassId) (cO : ClassId) (oc : Nat × va_E) (am : Nat → Nat) (qo : Nat) (F : Nat → Nat → Int32) (G : Nat → Nat → Int64) (th mn ld sw : Int32) (sm : Int64) : CT l D (TO cI cJ cZ cO) yX8_thrown (.code yX8_thrown cX8_thrown 1 (some Jvm.ClassFile.FieldType.int)) 0 0 0 (MW oc am cI cJ cZ cO th mn ld sw sm qo F G) [.ref (am 1)] (QI D (TO cI cJ cZ cO) (fun r u => r = th ∧ u = MW oc am cI cJ cZ cO th mn ld sw sm qo F G)) := by
  refine ent (by decide) (Nat.le_of_ble_eq_true rfl) ?_
  intro p e s m below meth c ls A hx hb hr hg hown hml hlocks hnm hP hK hD hS hA hN hl
  have hl : lv_has ls 1 [(0, .ref (am 1))] := hl
  refine lv_aload_n hx hb dX8_thrown_0 rfl (lv_at hl 0 rfl) ?_
  refine va_get (D := D) (ci := 8) (v := .int th) (C := RX8) (T := TX8) (N := 32) hx hb hg inGX8 hown hK hP 1 rfl rfl 0 (by decide) (hg _ mw_343) (fun _ h9 => h9) rfl dX8_thrown_1 ?_
  exact W.iret (v := th) hx hb hr (fun t ht hW => ⟨⟨th, (MW oc am cI cJ cZ cO th mn ld sw sm qo F G), rfl, ⟨rfl, rfl⟩, ⟨by rw [ht]; exact hP, va_K.moved hW.alike hK, hD⟩⟩, hS.F ht⟩) hS.2.2 dX8_thrown_4
set_option maxHeartbeats 4000000 in
set_option maxRecDepth 100000 in
theorem m_isInstruction (l : Launch) (D : va_G) (cI cJ cZ : ClassId) (cO : ClassId) (oc : Nat × va_E) (am : Nat → Nat) (qo : Nat) (F : Nat → Nat → Int32) (G : Nat → Nat → Int64) (ld k : Int32) : CT l D (TO cI cJ cZ cO) yX8_isInstruction (.code yX8_isInstruction cX8_isInstruction 2 (some Jvm.ClassFile.FieldType.boolean)) 1 0 0 (MW oc am cI cJ cZ cO 0 0 ld 0 0 qo F G) [.ref (am 1), .int k] (QI D (TO cI cJ cZ cO) (fun r u => r = 0 ∧ u = MW oc am cI cJ cZ cO 0 0 ld 0 0 qo F G)) := by
  refine ent (by decide) (Nat.le_of_ble_eq_true rfl) ?_
  intro p e s m below meth c ls A hx hb hr hg hown hml hlocks hnm hP hK hD hS hA hN hl
  have hl : lv_has ls 2 [(0, .ref (am 1)), (1, .int k)] := hl
  refine lv_iload_n hx hb dX8_isInstruction_0 rfl (lv_at hl 1 rfl) ?_
  refine lv_iconst (v := 0) hx hb dX8_isInstruction_1 (by decide) ?_
  refine lv_aload_n hx hb dX8_isInstruction_2 rfl (lv_at hl 0 rfl) ?_
  refine va_get (D := D) (ci := 8) (v := .int 0) (C := RX8) (T := TX8) (N := 32) hx hb hg inGX8 hown hK hP 1 rfl rfl 1 (by decide) (hg _ mw_344) (fun _ h9 => h9) rfl dX8_isInstruction_3 ?_
  refine lv_iconst (v := 1) hx hb dX8_isInstruction_6 (by decide) ?_
  refine lv_isub hx hb dX8_isInstruction_7 ?_
  refine lv_topi (fun v_1 ev_1 => ?_)
  obtain rfl : v_1 = ((-1) : Int32) := ev_1.trans (by decide)
  refine kI (rS hx hb hml hown hg hN hK hP hD (m_is l D cI cJ cZ cO (MW oc am cI cJ cZ cO 0 0 ld 0 0 qo F G) k 0 (-1)) mw_345 mw_346 mw_347 mw_348 pd_X8_is ⟨Nat.le_of_ble_eq_true rfl, Nat.le_of_ble_eq_true rfl⟩ rfl hl.1 rfl (Nat.le_of_ble_eq_true rfl) dX8_isInstruction_8 ⟨Nat.le_of_ble_eq_true rfl, Nat.le_of_ble_eq_true rfl⟩) hD hS hA (fun r_2 u_2 H locs hp hP hD hS => ?_)
  obtain ⟨hisr_2, rfl⟩ := hp
  obtain rfl : r_2 = 0 := is_m1 hisr_2
  exact W.zret (v := 0) hx hb hr rfl (fun t ht hW => ⟨⟨0, (MW oc am cI cJ cZ cO 0 0 ld 0 0 qo F G), rfl, ⟨rfl, rfl⟩, ⟨by rw [ht]; exact hP, va_K.moved hW.alike hK, hD⟩⟩, hS.F ht⟩) hS.2.2 dX8_isInstruction_11
set_option maxHeartbeats 4000000 in
set_option maxRecDepth 100000 in
theorem m_beginAnew (l : Launch) (D : va_G) (cI cJ cZ : ClassId) (cO : ClassId) (oc : Nat × va_E) (am : Nat → Nat) (qo : Nat) (F : Nat → Nat → Int32) (G : Nat → Nat → Int64) (th mn ld sw : Int32) (sm : Int64) : CT l D (TO cI cJ cZ cO) yX8_beginAnew (.code yX8_beginAnew cX8_beginAnew 1 (none : Option FieldType)) 0 0 0 (MW oc am cI cJ cZ cO th mn ld sw sm qo F G) [.ref (am 1)] (QV D (TO cI cJ cZ cO) (fun u => u = MW oc am cI cJ cZ cO th mn 0 0 sm qo F G)) := by
  refine ent (by decide) (Nat.le_of_ble_eq_true rfl) ?_
  intro p e s m below meth c ls A hx hb hr hg hown hml hlocks hnm hP hK hD hS hA hN hl
  have hl : lv_has ls 1 [(0, .ref (am 1))] := hl
  refine lv_aload_n hx hb dX8_beginAnew_0 rfl (lv_at hl 0 rfl) ?_
  refine lv_iconst (v := 0) hx hb dX8_beginAnew_1 (by decide) ?_
  refine va_put (D := D) (ci := 8) (v := .int 0) (C := RX8) (T := TX8) (N := 32) hx hb hg inGX8 tyX8 tyX8_ok nmX8 hown hK hP hD hS 1 rfl rfl 6 (by decide) (hg _ mw_349) (fun _ h9 => h9) rfl (tyX8_ok 6 (by decide)) rfl rfl (Nat.le_of_ble_eq_true rfl) dX8_beginAnew_2 (fun H locs hP hD hS => ?_)
  have hP : va_P D vwCl (MW oc am cI cJ cZ cO th mn 0 sw sm qo F G) H := hP
  have hD : va_D A (MW oc am cI cJ cZ cO th mn 0 sw sm qo F G) := hD
  refine lv_aload_n hx hb dX8_beginAnew_5 rfl (lv_at hl 0 rfl) ?_
  refine lv_iconst (v := 0) hx hb dX8_beginAnew_6 (by decide) ?_
  refine va_put (D := D) (ci := 8) (v := .int 0) (C := RX8) (T := TX8) (N := 32) hx hb hg inGX8 tyX8 tyX8_ok nmX8 hown hK hP hD hS 1 rfl rfl 30 (by decide) (hg _ mw_350) (fun _ h9 => h9) rfl (tyX8_ok 30 (by decide)) rfl rfl (Nat.le_of_ble_eq_true rfl) dX8_beginAnew_7 (fun H locs hP hD hS => ?_)
  have hP : va_P D vwCl (MW oc am cI cJ cZ cO th mn 0 0 sm qo F G) H := hP
  have hD : va_D A (MW oc am cI cJ cZ cO th mn 0 0 sm qo F G) := hD
  exact W.vret hx hb hr (fun t ht hW => ⟨⟨(MW oc am cI cJ cZ cO th mn 0 0 sm qo F G), rfl, rfl, ⟨by rw [ht]; exact hP, va_K.moved hW.alike hK, hD⟩⟩, hS.F ht⟩) hS.2.2 dX8_beginAnew_10
set_option maxHeartbeats 4000000 in
set_option maxRecDepth 100000 in
theorem m_layLive (l : Launch) (D : va_G) (cI cJ cZ : ClassId) (cO : ClassId) (oc : Nat × va_E) (am : Nat → Nat) (qo : Nat) (F : Nat → Nat → Int32) (G : Nat → Nat → Int64) : CT l D (TO cI cJ cZ cO) yX8_layLive (.code yX8_layLive cX8_layLive 5 (none : Option FieldType)) 1 0 0 (MW oc am cI cJ cZ cO 0 0 1 0 0 qo F G) [.ref (am 1)] (QV D (TO cI cJ cZ cO) (fun u => ∃ F' G', u = MW oc am cI cJ cZ cO 0 0 1 0 0 qo F' G')) := by
  refine ent (by decide) (Nat.le_of_ble_eq_true rfl) ?_
  intro p e s m below meth c ls A hx hb hr hg hown hml hlocks hnm hP hK hD hS hA hN hl
  have hl : lv_has ls 5 [(0, .ref (am 1))] := hl
  refine lv_aload_n hx hb dX8_layLive_0 rfl (lv_at hl 0 rfl) ?_
  refine va_get (D := D) (ci := 8) (v := .ref (am 12)) (C := RX8) (T := TX8) (N := 32) hx hb hg inGX8 hown hK hP 1 rfl rfl 16 (by decide) (hg _ mw_351) (fun _ h9 => h9) rfl dX8_layLive_1 ?_
  refine lv_iconst (v := 0) hx hb dX8_layLive_4 (by decide) ?_
  refine kV (rS hx hb hml hown hg hN hK hP hD (m_fillI l D cI cJ cZ cO (MW oc am cI cJ cZ cO 0 0 1 0 0 qo F G) 12 (am 12) 40 (F 12) 0 rfl (by decide)) mw_352 mw_353 mw_354 mw_355 pd_J7_fill_53178 ⟨Nat.le_of_ble_eq_true rfl, Nat.le_of_ble_eq_true rfl⟩ rfl hl.1 rfl (Nat.le_of_ble_eq_true rfl) dX8_layLive_5 ⟨Nat.le_of_ble_eq_true rfl, Nat.le_of_ble_eq_true rfl⟩) hD hS hA (fun u_1 H locs hp hP hD hS => ?_)
  obtain ⟨f_2, rfl⟩ := hp
  have hP : va_P D vwCl (MW oc am cI cJ cZ cO 0 0 1 0 0 qo (va_up F 12 f_2) G) H := hP
  have hD : va_D A (MW oc am cI cJ cZ cO 0 0 1 0 0 qo (va_up F 12 f_2) G) := hD
  refine lv_iconst (v := 1) hx hb dX8_layLive_8 (by decide) ?_
  refine lv_istore_n (lv' := [(1, .int 1), (0, .ref (am 1))]) hx hb dX8_layLive_9 rfl hl (by decide) rfl (fun ls hl => ?_)
  refine lv_iload_n hx hb dX8_layLive_10 rfl (lv_at hl 0 rfl) ?_
  refine lv_if_eq (tgt := 103) hx hb dX8_layLive_11 (by decide) (fun c_11 => absurd c_11 (by decide)) (fun c_11 => ?_)
  refine lv_iconst (v := 0) hx hb dX8_layLive_14 (by decide) ?_
  refine lv_istore_n (lv' := [(1, .int 0), (0, .ref (am 1))]) hx hb dX8_layLive_15 rfl hl (by decide) rfl (fun ls hl => ?_)
  refine lv_iconst (v := 0) hx hb dX8_layLive_16 (by decide) ?_
  refine lv_istore_n (lv' := [(2, .int 0), (1, .int 0), (0, .ref (am 1))]) hx hb dX8_layLive_17 rfl hl (by decide) rfl (fun ls hl => ?_)
  refine lv_iload_n hx hb dX8_layLive_18 rfl (lv_at hl 0 rfl) ?_
  refine lv_aload_n hx hb dX8_layLive_19 rfl (lv_at hl 2 rfl) ?_
  refine va_get (D := D) (ci := 8) (v := .int 0) (C := RX8) (T := TX8) (N := 32) hx hb hg inGX8 hown hK hP 1 rfl rfl 7 (by decide) (hg _ mw_356) (fun _ h9 => h9) rfl dX8_layLive_20 ?_
  refine lv_icmp_ge (tgt := 100) hx hb dX8_layLive_23 (by decide) (fun c_23 => ?_) (fun c_23 => absurd (by decide) c_23)
  refine lv_goto (tgt := 10) hx hb dX8_layLive_100 (by decide) ?_
  refine lv_iload_n hx hb dX8_layLive_10 rfl (lv_at hl 1 rfl) ?_
  refine lv_if_eq (tgt := 103) hx hb dX8_layLive_11 (by decide) (fun c_11 => ?_) (fun c_11 => absurd (by decide) c_11)
  exact W.vret hx hb hr (fun t ht hW => ⟨⟨(MW oc am cI cJ cZ cO 0 0 1 0 0 qo (va_up F 12 f_2) G), rfl, ⟨_, _, rfl⟩, ⟨by rw [ht]; exact hP, va_K.moved hW.alike hK, hD⟩⟩, hS.F ht⟩) hS.2.2 dX8_layLive_103
set_option maxHeartbeats 4000000 in
set_option maxRecDepth 100000 in
theorem m_reduce (l : Launch) (D : va_G) (cI cJ cZ : ClassId) (cO : ClassId) (oc : Nat × va_E) (am : Nat → Nat) (qo : Nat) (F : Nat → Nat → Int32) (G : Nat → Nat → Int64) : CT l D (TO cI cJ cZ cO) yX8_reduce (.code yX8_reduce cX8_reduce 3 (none : Option FieldType)) 1 0 0 (MW oc am cI cJ cZ cO 0 0 1 0 0 qo F G) [.ref (am 1)] (QV D (TO cI cJ cZ cO) (fun u => ∃ F' G', u = MW oc am cI cJ cZ cO 0 0 1 0 0 qo F' G')) := by
  refine ent (by decide) (Nat.le_of_ble_eq_true rfl) ?_
  intro p e s m below meth c ls A hx hb hr hg hown hml hlocks hnm hP hK hD hS hA hN hl
  have hl : lv_has ls 3 [(0, .ref (am 1))] := hl
  refine lv_aload_n hx hb dX8_reduce_0 rfl (lv_at hl 0 rfl) ?_
  refine va_get (D := D) (ci := 8) (v := .ref (am 13)) (C := RX8) (T := TX8) (N := 32) hx hb hg inGX8 hown hK hP 1 rfl rfl 17 (by decide) (hg _ mw_357) (fun _ h9 => h9) rfl dX8_reduce_1 ?_
  refine lv_lconst (v := 0) hx hb dX8_reduce_4 (by decide) ?_
  refine kV (rS hx hb hml hown hg hN hK hP hD (m_fillJ l D cI cJ cZ cO (MW oc am cI cJ cZ cO 0 0 1 0 0 qo F G) 13 (am 13) 40 (G 13) 0 rfl (by decide)) mw_358 mw_359 mw_360 mw_355 pd_J7_fill_d0a16 ⟨Nat.le_of_ble_eq_true rfl, Nat.le_of_ble_eq_true rfl⟩ rfl hl.1 rfl (Nat.le_of_ble_eq_true rfl) dX8_reduce_5 ⟨Nat.le_of_ble_eq_true rfl, Nat.le_of_ble_eq_true rfl⟩) hD hS hA (fun u_1 H locs hp hP hD hS => ?_)
  obtain ⟨f_2, rfl⟩ := hp
  have hP : va_P D vwCl (MW oc am cI cJ cZ cO 0 0 1 0 0 qo F (va_up G 13 f_2)) H := hP
  have hD : va_D A (MW oc am cI cJ cZ cO 0 0 1 0 0 qo F (va_up G 13 f_2)) := hD
  refine lv_iconst (v := 0) hx hb dX8_reduce_8 (by decide) ?_
  refine lv_istore_n (lv' := [(1, .int 0), (0, .ref (am 1))]) hx hb dX8_reduce_9 rfl hl (by decide) rfl (fun ls hl => ?_)
  refine lv_iload_n hx hb dX8_reduce_10 rfl (lv_at hl 0 rfl) ?_
  refine lv_aload_n hx hb dX8_reduce_11 rfl (lv_at hl 1 rfl) ?_
  refine va_get (D := D) (ci := 8) (v := .int 0) (C := RX8) (T := TX8) (N := 32) hx hb hg inGX8 hown hK hP 1 rfl rfl 8 (by decide) (hg _ mw_361) (fun _ h9 => h9) rfl dX8_reduce_12 ?_
  refine lv_icmp_ge (tgt := 69) hx hb dX8_reduce_15 (by decide) (fun c_15 => ?_) (fun c_15 => absurd (by decide) c_15)
  refine lv_iconst (v := 0) hx hb dX8_reduce_69 (by decide) ?_
  refine lv_istore_n (lv' := [(1, .int 0), (0, .ref (am 1))]) hx hb dX8_reduce_70 rfl hl (by decide) rfl (fun ls hl => ?_)
  refine lv_iload_n hx hb dX8_reduce_71 rfl (lv_at hl 0 rfl) ?_
  refine lv_aload_n hx hb dX8_reduce_72 rfl (lv_at hl 1 rfl) ?_
  refine va_get (D := D) (ci := 8) (v := .int 0) (C := RX8) (T := TX8) (N := 32) hx hb hg inGX8 hown hK hP 1 rfl rfl 7 (by decide) (hg _ mw_356) (fun _ h9 => h9) rfl dX8_reduce_73 ?_
  refine lv_icmp_ge (tgt := 104) hx hb dX8_reduce_76 (by decide) (fun c_76 => ?_) (fun c_76 => absurd (by decide) c_76)
  refine lv_aload_n hx hb dX8_reduce_104 rfl (lv_at hl 1 rfl) ?_
  refine lv_aload_n hx hb dX8_reduce_105 rfl (lv_at hl 1 rfl) ?_
  refine va_get (D := D) (ci := 8) (v := .long 0) (C := RX8) (T := TX8) (N := 32) hx hb hg inGX8 hown hK hP 1 rfl rfl 13 (by decide) (hg _ mw_362) (fun _ h9 => h9) rfl dX8_reduce_106 ?_
  refine va_put (D := D) (ci := 8) (v := .long 0) (C := RX8) (T := TX8) (N := 32) hx hb hg inGX8 tyX8 tyX8_ok nmX8 hown hK hP hD hS 1 rfl rfl 22 (by decide) (hg _ mw_363) (fun _ h9 => h9) rfl (tyX8_ok 22 (by decide)) rfl rfl (Nat.le_of_ble_eq_true rfl) dX8_reduce_109 (fun H locs hP hD hS => ?_)
  have hP : va_P D vwCl (MW oc am cI cJ cZ cO 0 0 1 0 0 qo F (va_up G 13 f_2)) H := hP
  have hD : va_D A (MW oc am cI cJ cZ cO 0 0 1 0 0 qo F (va_up G 13 f_2)) := hD
  refine lv_aload_n hx hb dX8_reduce_112 rfl (lv_at hl 1 rfl) ?_
  refine lv_iconst (v := 0) hx hb dX8_reduce_113 (by decide) ?_
  refine va_put (D := D) (ci := 8) (v := .int 0) (C := RX8) (T := TX8) (N := 32) hx hb hg inGX8 tyX8 tyX8_ok nmX8 hown hK hP hD hS 1 rfl rfl 21 (by decide) (hg _ mw_364) (fun _ h9 => h9) rfl (tyX8_ok 21 (by decide)) rfl rfl (Nat.le_of_ble_eq_true rfl) dX8_reduce_114 (fun H locs hP hD hS => ?_)
  have hP : va_P D vwCl (MW oc am cI cJ cZ cO 0 0 1 0 0 qo F (va_up G 13 f_2)) H := hP
  have hD : va_D A (MW oc am cI cJ cZ cO 0 0 1 0 0 qo F (va_up G 13 f_2)) := hD
  refine lv_iconst (v := 1) hx hb dX8_reduce_117 (by decide) ?_
  refine lv_istore_n (lv' := [(1, .int 1), (0, .ref (am 1))]) hx hb dX8_reduce_118 rfl hl (by decide) rfl (fun ls hl => ?_)
  refine lv_iload_n hx hb dX8_reduce_119 rfl (lv_at hl 0 rfl) ?_
  refine lv_if_eq (tgt := 173) hx hb dX8_reduce_120 (by decide) (fun c_120 => absurd c_120 (by decide)) (fun c_120 => ?_)
  refine lv_iconst (v := 0) hx hb dX8_reduce_123 (by decide) ?_
  refine lv_istore_n (lv' := [(1, .int 0), (0, .ref (am 1))]) hx hb dX8_reduce_124 rfl hl (by decide) rfl (fun ls hl => ?_)
  refine lv_iconst (v := 0) hx hb dX8_reduce_125 (by decide) ?_
  refine lv_istore_n (lv' := [(2, .int 0), (1, .int 0), (0, .ref (am 1))]) hx hb dX8_reduce_126 rfl hl (by decide) rfl (fun ls hl => ?_)
  refine lv_iload_n hx hb dX8_reduce_127 rfl (lv_at hl 0 rfl) ?_
  refine lv_aload_n hx hb dX8_reduce_128 rfl (lv_at hl 2 rfl) ?_
  refine va_get (D := D) (ci := 8) (v := .int 0) (C := RX8) (T := TX8) (N := 32) hx hb hg inGX8 hown hK hP 1 rfl rfl 7 (by decide) (hg _ mw_356) (fun _ h9 => h9) rfl dX8_reduce_129 ?_
  refine lv_icmp_ge (tgt := 170) hx hb dX8_reduce_132 (by decide) (fun c_132 => ?_) (fun c_132 => absurd (by decide) c_132)
  refine lv_goto (tgt := 119) hx hb dX8_reduce_170 (by decide) ?_
  refine lv_iload_n hx hb dX8_reduce_119 rfl (lv_at hl 1 rfl) ?_
  refine lv_if_eq (tgt := 173) hx hb dX8_reduce_120 (by decide) (fun c_120 => ?_) (fun c_120 => absurd (by decide) c_120)
  exact W.vret hx hb hr (fun t ht hW => ⟨⟨(MW oc am cI cJ cZ cO 0 0 1 0 0 qo F (va_up G 13 f_2)), rfl, ⟨_, _, rfl⟩, ⟨by rw [ht]; exact hP, va_K.moved hW.alike hK, hD⟩⟩, hS.F ht⟩) hS.2.2 dX8_reduce_173
set_option maxHeartbeats 4000000 in
set_option maxRecDepth 100000 in
theorem m_layLayers (l : Launch) (D : va_G) (cI cJ cZ : ClassId) (cO : ClassId) (oc : Nat × va_E) (am : Nat → Nat) (qo : Nat) (F : Nat → Nat → Int32) (G : Nat → Nat → Int64) : CT l D (TO cI cJ cZ cO) yX8_layLayers (.code yX8_layLayers cX8_layLayers 3 (none : Option FieldType)) 1 1 0 (MW oc am cI cJ cZ cO 0 0 1 0 0 qo F G) [.ref (am 1)] (QV D (TO cI cJ cZ cO) (fun u => ∃ qo' F' G', u = MW oc am cI cJ cZ cO 0 0 1 0 0 qo' F' G')) := by
  refine ent (by decide) (Nat.le_of_ble_eq_true rfl) ?_
  intro p e s m below meth c ls A hx hb hr hg hown hml hlocks hnm hP hK hD hS hA hN hl
  have hl : lv_has ls 3 [(0, .ref (am 1))] := hl
  refine lv_aload_n hx hb dX8_layLayers_0 rfl (lv_at hl 0 rfl) ?_
  refine va_get (D := D) (ci := 8) (v := .ref (am 17)) (C := RX8) (T := TX8) (N := 32) hx hb hg inGX8 hown hK hP 1 rfl rfl 23 (by decide) (hg _ mw_365) (fun _ h9 => h9) rfl dX8_layLayers_1 ?_
  refine lv_iconst (v := 0) hx hb dX8_layLayers_4 (by decide) ?_
  refine kV (rS hx hb hml hown hg hN hK hP hD (m_fillI l D cI cJ cZ cO (MW oc am cI cJ cZ cO 0 0 1 0 0 qo F G) 17 (am 17) 40 (F 17) 0 rfl (by decide)) mw_352 mw_353 mw_354 mw_355 pd_J7_fill_53178 ⟨Nat.le_of_ble_eq_true rfl, Nat.le_of_ble_eq_true rfl⟩ rfl hl.1 rfl (Nat.le_of_ble_eq_true rfl) dX8_layLayers_5 ⟨Nat.le_of_ble_eq_true rfl, Nat.le_of_ble_eq_true rfl⟩) hD hS hA (fun u_1 H locs hp hP hD hS => ?_)
  obtain ⟨f_2, rfl⟩ := hp
  have hP : va_P D vwCl (MW oc am cI cJ cZ cO 0 0 1 0 0 qo (va_up F 17 f_2) G) H := hP
  have hD : va_D A (MW oc am cI cJ cZ cO 0 0 1 0 0 qo (va_up F 17 f_2) G) := hD
  refine lv_aload_n hx hb dX8_layLayers_8 rfl (lv_at hl 0 rfl) ?_
  refine va_get (D := D) (ci := 8) (v := .ref (am 19)) (C := RX8) (T := TX8) (N := 32) hx hb hg inGX8 hown hK hP 1 rfl rfl 26 (by decide) (hg _ mw_366) (fun _ h9 => h9) rfl dX8_layLayers_9 ?_
  refine lv_iconst (v := 0) hx hb dX8_layLayers_12 (by decide) ?_
  refine kV (rS hx hb hml hown hg hN hK hP hD (m_fillZ l D cI cJ cZ cO (MW oc am cI cJ cZ cO 0 0 1 0 0 qo (va_up F 17 f_2) G) 19 (am 19) 80 ((va_up F 17 f_2) 19) rfl (by decide)) mw_367 mw_368 mw_369 mw_355 pd_J7_fill_49daa ⟨Nat.le_of_ble_eq_true rfl, Nat.le_of_ble_eq_true rfl⟩ rfl hl.1 rfl (Nat.le_of_ble_eq_true rfl) dX8_layLayers_13 ⟨Nat.le_of_ble_eq_true rfl, Nat.le_of_ble_eq_true rfl⟩) hD hS hA (fun u_3 H locs hp hP hD hS => ?_)
  obtain ⟨f_4, rfl⟩ := hp
  have hP : va_P D vwCl (MW oc am cI cJ cZ cO 0 0 1 0 0 qo (va_up (va_up F 17 f_2) 19 f_4) G) H := hP
  have hD : va_D A (MW oc am cI cJ cZ cO 0 0 1 0 0 qo (va_up (va_up F 17 f_2) 19 f_4) G) := hD
  refine lv_aload_n hx hb dX8_layLayers_16 rfl (lv_at hl 0 rfl) ?_
  refine va_get (D := D) (ci := 8) (v := .ref (am 20)) (C := RX8) (T := TX8) (N := 32) hx hb hg inGX8 hown hK hP 1 rfl rfl 27 (by decide) (hg _ mw_370) (fun _ h9 => h9) rfl dX8_layLayers_17 ?_
  refine lv_iconst (v := 0) hx hb dX8_layLayers_20 (by decide) ?_
  refine kV (rS hx hb hml hown hg hN hK hP hD (m_fillI l D cI cJ cZ cO (MW oc am cI cJ cZ cO 0 0 1 0 0 qo (va_up (va_up F 17 f_2) 19 f_4) G) 20 (am 20) 40 ((va_up (va_up F 17 f_2) 19 f_4) 20) 0 rfl (by decide)) mw_352 mw_353 mw_354 mw_355 pd_J7_fill_53178 ⟨Nat.le_of_ble_eq_true rfl, Nat.le_of_ble_eq_true rfl⟩ rfl hl.1 rfl (Nat.le_of_ble_eq_true rfl) dX8_layLayers_21 ⟨Nat.le_of_ble_eq_true rfl, Nat.le_of_ble_eq_true rfl⟩) hD hS hA (fun u_5 H locs hp hP hD hS => ?_)
  obtain ⟨f_6, rfl⟩ := hp
  have hP : va_P D vwCl (MW oc am cI cJ cZ cO 0 0 1 0 0 qo (va_up (va_up (va_up F 17 f_2) 19 f_4) 20 f_6) G) H := hP
  have hD : va_D A (MW oc am cI cJ cZ cO 0 0 1 0 0 qo (va_up (va_up (va_up F 17 f_2) 19 f_4) 20 f_6) G) := hD
  refine lv_aload_n hx hb dX8_layLayers_24 rfl (lv_at hl 0 rfl) ?_
  refine lv_iconst (v := 0) hx hb dX8_layLayers_25 (by decide) ?_
  refine va_put (D := D) (ci := 8) (v := .int 0) (C := RX8) (T := TX8) (N := 32) hx hb hg inGX8 tyX8 tyX8_ok nmX8 hown hK hP hD hS 1 rfl rfl 25 (by decide) (hg _ mw_371) (fun _ h9 => h9) rfl (tyX8_ok 25 (by decide)) rfl rfl (Nat.le_of_ble_eq_true rfl) dX8_layLayers_26 (fun H locs hP hD hS => ?_)
  have hP : va_P D vwCl (MW oc am cI cJ cZ cO 0 0 1 0 0 qo (va_up (va_up (va_up F 17 f_2) 19 f_4) 20 f_6) G) H := hP
  have hD : va_D A (MW oc am cI cJ cZ cO 0 0 1 0 0 qo (va_up (va_up (va_up F 17 f_2) 19 f_4) 20 f_6) G) := hD
  refine lv_aload_n hx hb dX8_layLayers_29 rfl (lv_at hl 0 rfl) ?_
  refine lv_iconst (v := 0) hx hb dX8_layLayers_30 (by decide) ?_
  refine va_put (D := D) (ci := 8) (v := .int 0) (C := RX8) (T := TX8) (N := 32) hx hb hg inGX8 tyX8 tyX8_ok nmX8 hown hK hP hD hS 1 rfl rfl 28 (by decide) (hg _ mw_372) (fun _ h9 => h9) rfl (tyX8_ok 28 (by decide)) rfl rfl (Nat.le_of_ble_eq_true rfl) dX8_layLayers_31 (fun H locs hP hD hS => ?_)
  have hP : va_P D vwCl (MW oc am cI cJ cZ cO 0 0 1 0 0 qo (va_up (va_up (va_up F 17 f_2) 19 f_4) 20 f_6) G) H := hP
  have hD : va_D A (MW oc am cI cJ cZ cO 0 0 1 0 0 qo (va_up (va_up (va_up F 17 f_2) 19 f_4) 20 f_6) G) := hD
  refine lv_aload_n hx hb dX8_layLayers_34 rfl (lv_at hl 0 rfl) ?_
  refine va_get (D := D) (ci := 8) (v := .int 0) (C := RX8) (T := TX8) (N := 32) hx hb hg inGX8 hown hK hP 1 rfl rfl 1 (by decide) (hg _ mw_344) (fun _ h9 => h9) rfl dX8_layLayers_35 ?_
  refine lv_if_le (tgt := 46) hx hb dX8_layLayers_38 (by decide) (fun c_38 => ?_) (fun c_38 => absurd (by decide) c_38)
  refine lv_iconst (v := 1) hx hb dX8_layLayers_46 (by decide) ?_
  refine lv_istore_n (lv' := [(1, .int 1), (0, .ref (am 1))]) hx hb dX8_layLayers_47 rfl hl (by decide) rfl (fun ls hl => ?_)
  refine lv_iload_n hx hb dX8_layLayers_48 rfl (lv_at hl 0 rfl) ?_
  refine lv_if_eq (tgt := 131) hx hb dX8_layLayers_49 (by decide) (fun c_49 => absurd c_49 (by decide)) (fun c_49 => ?_)
  refine lv_iconst (v := 0) hx hb dX8_layLayers_52 (by decide) ?_
  refine lv_istore_n (lv' := [(1, .int 0), (0, .ref (am 1))]) hx hb dX8_layLayers_53 rfl hl (by decide) rfl (fun ls hl => ?_)
  refine lv_iconst (v := 0) hx hb dX8_layLayers_54 (by decide) ?_
  refine lv_istore_n (lv' := [(2, .int 0), (1, .int 0), (0, .ref (am 1))]) hx hb dX8_layLayers_55 rfl hl (by decide) rfl (fun ls hl => ?_)
  refine lv_iload_n hx hb dX8_layLayers_56 rfl (lv_at hl 0 rfl) ?_
  refine lv_aload_n hx hb dX8_layLayers_57 rfl (lv_at hl 2 rfl) ?_
  refine va_get (D := D) (ci := 8) (v := .int 0) (C := RX8) (T := TX8) (N := 32) hx hb hg inGX8 hown hK hP 1 rfl rfl 8 (by decide) (hg _ mw_361) (fun _ h9 => h9) rfl dX8_layLayers_58 ?_
  refine lv_icmp_ge (tgt := 128) hx hb dX8_layLayers_61 (by decide) (fun c_61 => ?_) (fun c_61 => absurd (by decide) c_61)
  refine lv_goto (tgt := 48) hx hb dX8_layLayers_128 (by decide) ?_
  refine lv_iload_n hx hb dX8_layLayers_48 rfl (lv_at hl 1 rfl) ?_
  refine lv_if_eq (tgt := 131) hx hb dX8_layLayers_49 (by decide) (fun c_49 => ?_) (fun c_49 => absurd (by decide) c_49)
  refine lv_iconst (v := 0) hx hb dX8_layLayers_131 (by decide) ?_
  refine lv_istore_n (lv' := [(2, .int 0), (1, .int 0), (0, .ref (am 1))]) hx hb dX8_layLayers_132 rfl hl (by decide) rfl (fun ls hl => ?_)
  refine lv_iload_n hx hb dX8_layLayers_133 rfl (lv_at hl 0 rfl) ?_
  refine lv_aload_n hx hb dX8_layLayers_134 rfl (lv_at hl 2 rfl) ?_
  refine va_get (D := D) (ci := 8) (v := .int 0) (C := RX8) (T := TX8) (N := 32) hx hb hg inGX8 hown hK hP 1 rfl rfl 25 (by decide) (hg _ mw_371) (fun _ h9 => h9) rfl dX8_layLayers_135 ?_
  refine lv_icmp_ge (tgt := 171) hx hb dX8_layLayers_138 (by decide) (fun c_138 => ?_) (fun c_138 => absurd (by decide) c_138)
  refine lv_aload_n hx hb dX8_layLayers_171 rfl (lv_at hl 2 rfl) ?_
  refine va_get (D := D) (ci := 8) (v := .int 0) (C := RX8) (T := TX8) (N := 32) hx hb hg inGX8 hown hK hP 1 rfl rfl 30 (by decide) (hg _ mw_350) (fun _ h9 => h9) rfl dX8_layLayers_172 ?_
  refine lv_if_le (tgt := 179) hx hb dX8_layLayers_175 (by decide) (fun c_175 => ?_) (fun c_175 => absurd (by decide) c_175)
  refine lv_aload_n hx hb dX8_layLayers_179 rfl (lv_at hl 2 rfl) ?_
  refine lv_aload_n hx hb dX8_layLayers_180 rfl (lv_at hl 2 rfl) ?_
  refine va_get (D := D) (ci := 8) (v := .int 0) (C := RX8) (T := TX8) (N := 32) hx hb hg inGX8 hown hK hP 1 rfl rfl 28 (by decide) (hg _ mw_372) (fun _ h9 => h9) rfl dX8_layLayers_181 ?_
  refine my_newA (N' := 0) hx hb hown (hg _ mw_373) hN hK hP hD hS hA 3 rfl (by decide) (by decide) (Nat.le_of_ble_eq_true rfl) (Nat.le_of_ble_eq_true rfl) (Nat.le_of_ble_eq_true rfl) dX8_layLayers_184 (fun q_7 H hP hD hS => ?_)
  refine va_put (D := D) (ci := 8) (v := .ref q_7) (C := RX8) (T := TX8) (N := 32) hx hb hg inGX8 tyX8 tyX8_ok nmX8 hown hK hP hD hS 1 rfl rfl 29 (by decide) (hg _ mw_374) (fun _ h9 => h9) rfl (tyX8_ok 29 (by decide)) rfl rfl (Nat.le_of_ble_eq_true rfl) dX8_layLayers_187 (fun H locs hP hD hS => ?_)
  have hP : va_P D vwCl (MW oc am cI cJ cZ cO 0 0 1 0 0 q_7 (va_up (va_up (va_up F 17 f_2) 19 f_4) 20 f_6) G) H := hP.sub [0, 1, 2, 3, 4, 5, 6, 7, 8, 9, 10, 11, 12, 13, 14, 15, 16, 17, 18, 19, 20, 22] rfl
  have hD : va_D A (MW oc am cI cJ cZ cO 0 0 1 0 0 q_7 (va_up (va_up (va_up F 17 f_2) 19 f_4) 20 f_6) G) := hD.sub [0, 1, 2, 3, 4, 5, 6, 7, 8, 9, 10, 11, 12, 13, 14, 15, 16, 17, 18, 19, 20, 22] (by decide) rfl
  refine lv_iconst (v := 0) hx hb dX8_layLayers_190 (by decide) ?_
  refine lv_istore_n (lv' := [(2, .int 0), (1, .int 0), (0, .ref (am 1))]) hx hb dX8_layLayers_191 rfl hl (by decide) rfl (fun ls hl => ?_)
  refine lv_iload_n hx hb dX8_layLayers_192 rfl (lv_at hl 0 rfl) ?_
  refine lv_aload_n hx hb dX8_layLayers_193 rfl (lv_at hl 2 rfl) ?_
  refine va_get (D := D) (ci := 8) (v := .int 0) (C := RX8) (T := TX8) (N := 32) hx hb hg inGX8 hown hK hP 1 rfl rfl 28 (by decide) (hg _ mw_372) (fun _ h9 => h9) rfl dX8_layLayers_194 ?_
  refine lv_icmp_ge (tgt := 217) hx hb dX8_layLayers_197 (by decide) (fun c_197 => ?_) (fun c_197 => absurd (by decide) c_197)
  exact W.vret hx hb hr (fun t ht hW => ⟨⟨(MW oc am cI cJ cZ cO 0 0 1 0 0 q_7 (va_up (va_up (va_up F 17 f_2) 19 f_4) 20 f_6) G), rfl, ⟨_, _, _, rfl⟩, ⟨by rw [ht]; exact hP, va_K.moved hW.alike hK, hD⟩⟩, hS.F ht⟩) hS.2.2 dX8_layLayers_217
set_option maxHeartbeats 4000000 in
set_option maxRecDepth 100000 in
theorem m_lay (l : Launch) (D : va_G) (cI cJ cZ : ClassId) (cO : ClassId) (oc : Nat × va_E) (am : Nat → Nat) (qo : Nat) (F : Nat → Nat → Int32) (G : Nat → Nat → Int64) : CT l D (TO cI cJ cZ cO) yX8_lay (.code yX8_lay cX8_lay 5 (none : Option FieldType)) 2 1 0 (MW oc am cI cJ cZ cO 0 0 0 0 0 qo F G) [.ref (am 1)] (QV D (TO cI cJ cZ cO) (fun u => ∃ qo' F' G', u = MW oc am cI cJ cZ cO 0 0 1 0 0 qo' F' G')) := by
  refine ent (by decide) (Nat.le_of_ble_eq_true rfl) ?_
  intro p e s m below meth c ls A hx hb hr hg hown hml hlocks hnm hP hK hD hS hA hN hl
  have hl : lv_has ls 5 [(0, .ref (am 1))] := hl
  refine lv_aload_n hx hb dX8_lay_0 rfl (lv_at hl 0 rfl) ?_
  refine va_get (D := D) (ci := 8) (v := .int 0) (C := RX8) (T := TX8) (N := 32) hx hb hg inGX8 hown hK hP 1 rfl rfl 6 (by decide) (hg _ mw_349) (fun _ h9 => h9) rfl dX8_lay_1 ?_
  refine lv_if_eq (tgt := 8) hx hb dX8_lay_4 (by decide) (fun c_4 => ?_) (fun c_4 => absurd (by decide) c_4)
  refine lv_aload_n hx hb dX8_lay_8 rfl (lv_at hl 0 rfl) ?_
  refine lv_iconst (v := 1) hx hb dX8_lay_9 (by decide) ?_
  refine va_put (D := D) (ci := 8) (v := .int 1) (C := RX8) (T := TX8) (N := 32) hx hb hg inGX8 tyX8 tyX8_ok nmX8 hown hK hP hD hS 1 rfl rfl 6 (by decide) (hg _ mw_349) (fun _ h9 => h9) rfl (tyX8_ok 6 (by decide)) rfl rfl (Nat.le_of_ble_eq_true rfl) dX8_lay_10 (fun H locs hP hD hS => ?_)
  have hP : va_P D vwCl (MW oc am cI cJ cZ cO 0 0 1 0 0 qo F G) H := hP
  have hD : va_D A (MW oc am cI cJ cZ cO 0 0 1 0 0 qo F G) := hD
  refine lv_aload_n hx hb dX8_lay_13 rfl (lv_at hl 0 rfl) ?_
  refine lv_iconst (v := 0) hx hb dX8_lay_14 (by decide) ?_
  refine va_put (D := D) (ci := 8) (v := .int 0) (C := RX8) (T := TX8) (N := 32) hx hb hg inGX8 tyX8 tyX8_ok nmX8 hown hK hP hD hS 1 rfl rfl 7 (by decide) (hg _ mw_356) (fun _ h9 => h9) rfl (tyX8_ok 7 (by decide)) rfl rfl (Nat.le_of_ble_eq_true rfl) dX8_lay_15 (fun H locs hP hD hS => ?_)
  have hP : va_P D vwCl (MW oc am cI cJ cZ cO 0 0 1 0 0 qo F G) H := hP
  have hD : va_D A (MW oc am cI cJ cZ cO 0 0 1 0 0 qo F G) := hD
  refine lv_aload_n hx hb dX8_lay_18 rfl (lv_at hl 0 rfl) ?_
  refine lv_iconst (v := 0) hx hb dX8_lay_19 (by decide) ?_
  refine va_put (D := D) (ci := 8) (v := .int 0) (C := RX8) (T := TX8) (N := 32) hx hb hg inGX8 tyX8 tyX8_ok nmX8 hown hK hP hD hS 1 rfl rfl 8 (by decide) (hg _ mw_361) (fun _ h9 => h9) rfl (tyX8_ok 8 (by decide)) rfl rfl (Nat.le_of_ble_eq_true rfl) dX8_lay_20 (fun H locs hP hD hS => ?_)
  have hP : va_P D vwCl (MW oc am cI cJ cZ cO 0 0 1 0 0 qo F G) H := hP
  have hD : va_D A (MW oc am cI cJ cZ cO 0 0 1 0 0 qo F G) := hD
  refine lv_iconst (v := 0) hx hb dX8_lay_23 (by decide) ?_
  refine lv_istore_n (lv' := [(1, .int 0), (0, .ref (am 1))]) hx hb dX8_lay_24 rfl hl (by decide) rfl (fun ls hl => ?_)
  refine lv_iload_n hx hb dX8_lay_25 rfl (lv_at hl 0 rfl) ?_
  refine lv_aload_n hx hb dX8_lay_26 rfl (lv_at hl 1 rfl) ?_
  refine va_get (D := D) (ci := 8) (v := .int 0) (C := RX8) (T := TX8) (N := 32) hx hb hg inGX8 hown hK hP 1 rfl rfl 1 (by decide) (hg _ mw_344) (fun _ h9 => h9) rfl dX8_lay_27 ?_
  refine lv_icmp_ge (tgt := 79) hx hb dX8_lay_30 (by decide) (fun c_30 => ?_) (fun c_30 => absurd (by decide) c_30)
  refine lv_aload_n hx hb dX8_lay_79 rfl (lv_at hl 1 rfl) ?_
  refine va_get (D := D) (ci := 8) (v := .ref (am 7)) (C := RX8) (T := TX8) (N := 32) hx hb hg inGX8 hown hK hP 1 rfl rfl 10 (by decide) (hg _ mw_375) (fun _ h9 => h9) rfl dX8_lay_80 ?_
  refine lv_aload_n hx hb dX8_lay_83 rfl (lv_at hl 1 rfl) ?_
  refine va_get (D := D) (ci := 8) (v := .int 0) (C := RX8) (T := TX8) (N := 32) hx hb hg inGX8 hown hK hP 1 rfl rfl 7 (by decide) (hg _ mw_356) (fun _ h9 => h9) rfl dX8_lay_84 ?_
  refine lv_aload_n hx hb dX8_lay_87 rfl (lv_at hl 1 rfl) ?_
  refine va_get (D := D) (ci := 8) (v := .int 0) (C := RX8) (T := TX8) (N := 32) hx hb hg inGX8 hown hK hP 1 rfl rfl 1 (by decide) (hg _ mw_344) (fun _ h9 => h9) rfl dX8_lay_88 ?_
  refine va_iast hx hb hK hP hD hS 7 0 rfl rfl (by unfold vp_in; decide) dX8_lay_91 (fun H locs hP hD hS => ?_)
  have hP : va_P D vwCl (MW oc am cI cJ cZ cO 0 0 1 0 0 qo (va_up F 7 (upd (F 7) (0 : Int32).toNatClampNeg 0)) G) H := hP
  have hD : va_D A (MW oc am cI cJ cZ cO 0 0 1 0 0 qo (va_up F 7 (upd (F 7) (0 : Int32).toNatClampNeg 0)) G) := hD
  refine lv_iconst (v := 0) hx hb dX8_lay_92 (by decide) ?_
  refine lv_istore_n (lv' := [(1, .int 0), (0, .ref (am 1))]) hx hb dX8_lay_93 rfl hl (by decide) rfl (fun ls hl => ?_)
  refine lv_iload_n hx hb dX8_lay_94 rfl (lv_at hl 0 rfl) ?_
  refine lv_aload_n hx hb dX8_lay_95 rfl (lv_at hl 1 rfl) ?_
  refine va_get (D := D) (ci := 8) (v := .int 0) (C := RX8) (T := TX8) (N := 32) hx hb hg inGX8 hown hK hP 1 rfl rfl 7 (by decide) (hg _ mw_356) (fun _ h9 => h9) rfl dX8_lay_96 ?_
  refine lv_icmp_ge (tgt := 258) hx hb dX8_lay_99 (by decide) (fun c_99 => ?_) (fun c_99 => absurd (by decide) c_99)
  refine lv_aload_n hx hb dX8_lay_258 rfl (lv_at hl 1 rfl) ?_
  refine lv_aload_n hx hb dX8_lay_259 rfl (lv_at hl 1 rfl) ?_
  refine va_get (D := D) (ci := 8) (v := .int 0) (C := RX8) (T := TX8) (N := 32) hx hb hg inGX8 hown hK hP 1 rfl rfl 1 (by decide) (hg _ mw_344) (fun _ h9 => h9) rfl dX8_lay_260 ?_
  refine lv_if_ne (tgt := 270) hx hb dX8_lay_263 (by decide) (fun c_263 => absurd (by decide) c_263) (fun c_263 => ?_)
  refine lv_lconst (v := 0) hx hb dX8_lay_266 (by decide) ?_
  refine lv_goto (tgt := 276) hx hb dX8_lay_267 (by decide) ?_
  refine va_put (D := D) (ci := 8) (v := .long 0) (C := RX8) (T := TX8) (N := 32) hx hb hg inGX8 tyX8 tyX8_ok nmX8 hown hK hP hD hS 1 rfl rfl 13 (by decide) (hg _ mw_362) (fun _ h9 => h9) rfl (tyX8_ok 13 (by decide)) rfl rfl (Nat.le_of_ble_eq_true rfl) dX8_lay_276 (fun H locs hP hD hS => ?_)
  have hP : va_P D vwCl (MW oc am cI cJ cZ cO 0 0 1 0 0 qo (va_up F 7 (upd (F 7) (0 : Int32).toNatClampNeg 0)) G) H := hP
  have hD : va_D A (MW oc am cI cJ cZ cO 0 0 1 0 0 qo (va_up F 7 (upd (F 7) (0 : Int32).toNatClampNeg 0)) G) := hD
  refine lv_iconst (v := 0) hx hb dX8_lay_279 (by decide) ?_
  refine lv_istore_n (lv' := [(1, .int 0), (0, .ref (am 1))]) hx hb dX8_lay_280 rfl hl (by decide) rfl (fun ls hl => ?_)
  refine lv_iload_n hx hb dX8_lay_281 rfl (lv_at hl 0 rfl) ?_
  refine lv_aload_n hx hb dX8_lay_282 rfl (lv_at hl 1 rfl) ?_
  refine va_get (D := D) (ci := 8) (v := .int 0) (C := RX8) (T := TX8) (N := 32) hx hb hg inGX8 hown hK hP 1 rfl rfl 7 (by decide) (hg _ mw_356) (fun _ h9 => h9) rfl dX8_lay_283 ?_
  refine lv_icmp_ge (tgt := 309) hx hb dX8_lay_286 (by decide) (fun c_286 => ?_) (fun c_286 => absurd (by decide) c_286)
  refine lv_iconst (v := 0) hx hb dX8_lay_309 (by decide) ?_
  refine lv_istore_n (lv' := [(1, .int 0), (0, .ref (am 1))]) hx hb dX8_lay_310 rfl hl (by decide) rfl (fun ls hl => ?_)
  refine lv_iload_n hx hb dX8_lay_311 rfl (lv_at hl 0 rfl) ?_
  refine lv_aload_n hx hb dX8_lay_312 rfl (lv_at hl 1 rfl) ?_
  refine va_get (D := D) (ci := 8) (v := .int 0) (C := RX8) (T := TX8) (N := 32) hx hb hg inGX8 hown hK hP 1 rfl rfl 7 (by decide) (hg _ mw_356) (fun _ h9 => h9) rfl dX8_lay_313 ?_
  refine lv_icmp_ge (tgt := 336) hx hb dX8_lay_316 (by decide) (fun c_316 => ?_) (fun c_316 => absurd (by decide) c_316)
  refine lv_aload_n hx hb dX8_lay_336 rfl (lv_at hl 1 rfl) ?_
  refine kV (rV (q0 := 1) (ci := 8) hx hb hml hown hg hN hK hP hD (m_layLive l D cI cJ cZ cO oc am qo (va_up F 7 (upd (F 7) (0 : Int32).toNatClampNeg 0)) G) mw_376 mw_377 mw_378 mw_379 mw_348 pdv_X8_layLive ⟨Nat.le_of_ble_eq_true rfl, Nat.le_of_ble_eq_true rfl⟩ rfl rfl rfl hl.1 rfl (Nat.le_of_ble_eq_true rfl) dX8_lay_337 ⟨Nat.le_of_ble_eq_true rfl, Nat.le_of_ble_eq_true rfl⟩) hD hS hA (fun u_1 H locs hp hP hD hS => ?_)
  obtain ⟨F_2, G_3, rfl⟩ := hp
  refine lv_aload_n hx hb dX8_lay_340 rfl (lv_at hl 1 rfl) ?_
  refine kV (rV (q0 := 1) (ci := 8) hx hb hml hown hg hN hK hP hD (m_reduce l D cI cJ cZ cO oc am qo F_2 G_3) mw_380 mw_381 mw_382 mw_383 mw_348 pdv_X8_reduce ⟨Nat.le_of_ble_eq_true rfl, Nat.le_of_ble_eq_true rfl⟩ rfl rfl rfl hl.1 rfl (Nat.le_of_ble_eq_true rfl) dX8_lay_341 ⟨Nat.le_of_ble_eq_true rfl, Nat.le_of_ble_eq_true rfl⟩) hD hS hA (fun u_4 H locs hp hP hD hS => ?_)
  obtain ⟨F_5, G_6, rfl⟩ := hp
  refine lv_aload_n hx hb dX8_lay_344 rfl (lv_at hl 1 rfl) ?_
  refine kV (rV (q0 := 1) (ci := 8) hx hb hml hown hg hN hK hP hD (m_layLayers l D cI cJ cZ cO oc am qo F_5 G_6) mw_384 mw_385 mw_386 mw_387 mw_348 pdv_X8_layLayers ⟨Nat.le_of_ble_eq_true rfl, Nat.le_of_ble_eq_true rfl⟩ rfl rfl rfl hl.1 rfl (Nat.le_of_ble_eq_true rfl) dX8_lay_345 ⟨Nat.le_of_ble_eq_true rfl, Nat.le_of_ble_eq_true rfl⟩) hD hS hA (fun u_7 H locs hp hP hD hS => ?_)
  obtain ⟨q_8, F_9, G_10, rfl⟩ := hp
  exact W.vret hx hb hr (fun t ht hW => ⟨⟨(MW oc am cI cJ cZ cO 0 0 1 0 0 q_8 F_9 G_10), rfl, ⟨_, _, _, rfl⟩, ⟨by rw [ht]; exact hP, va_K.moved hW.alike hK, hD⟩⟩, hS.F ht⟩) hS.2.2 dX8_lay_348
end
