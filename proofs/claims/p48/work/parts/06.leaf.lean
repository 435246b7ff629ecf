theorem dX7_at_0 : decode cX7_at 0 = .ok (.aload_n 0, 1) := by decide +kernel
theorem dX7_at_1 : decode cX7_at 1 = .ok (.ifnull 19, 3) := by decide +kernel
theorem dX7_at_4 : decode cX7_at 4 = .ok (.iload_n 1, 1) := by decide +kernel
theorem dX7_at_5 : decode cX7_at 5 = .ok (.ifCond .lt 15, 3) := by decide +kernel
theorem dX7_at_8 : decode cX7_at 8 = .ok (.iload_n 1, 1) := by decide +kernel
theorem dX7_at_9 : decode cX7_at 9 = .ok (.aload_n 0, 1) := by decide +kernel
theorem dX7_at_10 : decode cX7_at 10 = .ok (.arraylength, 1) := by decide +kernel
theorem dX7_at_11 : decode cX7_at 11 = .ok (.if_icmp .ge 9, 3) := by decide +kernel
theorem dX7_at_14 : decode cX7_at 14 = .ok (.aload_n 0, 1) := by decide +kernel
theorem dX7_at_15 : decode cX7_at 15 = .ok (.iload_n 1, 1) := by decide +kernel
theorem dX7_at_16 : decode cX7_at 16 = .ok (.iaload, 1) := by decide +kernel
theorem dX7_at_17 : decode cX7_at 17 = .ok (.goto 4, 3) := by decide +kernel
theorem dX7_at_20 : decode cX7_at 20 = .ok (.iconst 0, 1) := by decide +kernel
theorem dX7_at_21 : decode cX7_at 21 = .ok (.ireturn, 1) := by decide +kernel
theorem dX7_at__0 : decode cX7_at_ 0 = .ok (.aload_n 0, 1) := by decide +kernel
theorem dX7_at__1 : decode cX7_at_ 1 = .ok (.ifnull 19, 3) := by decide +kernel
theorem dX7_at__4 : decode cX7_at_ 4 = .ok (.iload_n 1, 1) := by decide +kernel
theorem dX7_at__5 : decode cX7_at_ 5 = .ok (.ifCond .lt 15, 3) := by decide +kernel
theorem dX7_at__8 : decode cX7_at_ 8 = .ok (.iload_n 1, 1) := by decide +kernel
theorem dX7_at__9 : decode cX7_at_ 9 = .ok (.aload_n 0, 1) := by decide +kernel
theorem dX7_at__10 : decode cX7_at_ 10 = .ok (.arraylength, 1) := by decide +kernel
theorem dX7_at__11 : decode cX7_at_ 11 = .ok (.if_icmp .ge 9, 3) := by decide +kernel
theorem dX7_at__14 : decode cX7_at_ 14 = .ok (.aload_n 0, 1) := by decide +kernel
theorem dX7_at__15 : decode cX7_at_ 15 = .ok (.iload_n 1, 1) := by decide +kernel
theorem dX7_at__16 : decode cX7_at_ 16 = .ok (.laload, 1) := by decide +kernel
theorem dX7_at__17 : decode cX7_at_ 17 = .ok (.goto 4, 3) := by decide +kernel
theorem dX7_at__20 : decode cX7_at_ 20 = .ok (.lconst 0, 1) := by decide +kernel
theorem dX7_at__21 : decode cX7_at_ 21 = .ok (.lreturn, 1) := by decide +kernel
theorem dX7_put_0 : decode cX7_put 0 = .ok (.aload_n 0, 1) := by decide +kernel
theorem dX7_put_1 : decode cX7_put 1 = .ok (.ifnull 17, 3) := by decide +kernel
theorem dX7_put_4 : decode cX7_put 4 = .ok (.iload_n 1, 1) := by decide +kernel
theorem dX7_put_5 : decode cX7_put 5 = .ok (.ifCond .lt 13, 3) := by decide +kernel
theorem dX7_put_8 : decode cX7_put 8 = .ok (.iload_n 1, 1) := by decide +kernel
theorem dX7_put_9 : decode cX7_put 9 = .ok (.aload_n 0, 1) := by decide +kernel
theorem dX7_put_10 : decode cX7_put 10 = .ok (.arraylength, 1) := by decide +kernel
theorem dX7_put_11 : decode cX7_put 11 = .ok (.if_icmp .ge 7, 3) := by decide +kernel
theorem dX7_put_14 : decode cX7_put 14 = .ok (.aload_n 0, 1) := by decide +kernel
theorem dX7_put_15 : decode cX7_put 15 = .ok (.iload_n 1, 1) := by decide +kernel
theorem dX7_put_16 : decode cX7_put 16 = .ok (.iload_n 2, 1) := by decide +kernel
theorem dX7_put_17 : decode cX7_put 17 = .ok (.iastore, 1) := by decide +kernel
theorem dX7_put_18 : decode cX7_put 18 = .ok (.return_, 1) := by decide +kernel
theorem dX7_put__0 : decode cX7_put_ 0 = .ok (.aload_n 0, 1) := by decide +kernel
theorem dX7_put__1 : decode cX7_put_ 1 = .ok (.ifnull 17, 3) := by decide +kernel
theorem dX7_put__4 : decode cX7_put_ 4 = .ok (.iload_n 1, 1) := by decide +kernel
theorem dX7_put__5 : decode cX7_put_ 5 = .ok (.ifCond .lt 13, 3) := by decide +kernel
theorem dX7_put__8 : decode cX7_put_ 8 = .ok (.iload_n 1, 1) := by decide +kernel
theorem dX7_put__9 : decode cX7_put_ 9 = .ok (.aload_n 0, 1) := by decide +kernel
theorem dX7_put__10 : decode cX7_put_ 10 = .ok (.arraylength, 1) := by decide +kernel
theorem dX7_put__11 : decode cX7_put_ 11 = .ok (.if_icmp .ge 7, 3) := by decide +kernel
theorem dX7_put__14 : decode cX7_put_ 14 = .ok (.aload_n 0, 1) := by decide +kernel
theorem dX7_put__15 : decode cX7_put_ 15 = .ok (.iload_n 1, 1) := by decide +kernel
theorem dX7_put__16 : decode cX7_put_ 16 = .ok (.lload_n 2, 1) := by decide +kernel
theorem dX7_put__17 : decode cX7_put_ 17 = .ok (.lastore, 1) := by decide +kernel
theorem dX7_put__18 : decode cX7_put_ 18 = .ok (.return_, 1) := by decide +kernel
theorem dX7_bit_0 : decode cX7_bit 0 = .ok (.lconst 1, 1) := by decide +kernel
theorem dX7_bit_1 : decode cX7_bit 1 = .ok (.iload_n 0, 1) := by decide +kernel
theorem dX7_bit_2 : decode cX7_bit 2 = .ok (.lshl, 1) := by decide +kernel
theorem dX7_bit_3 : decode cX7_bit 3 = .ok (.lreturn, 1) := by decide +kernel
theorem dX7_has_0 : decode cX7_has 0 = .ok (.lload_n 0, 1) := by decide +kernel
theorem dX7_has_1 : decode cX7_has 1 = .ok (.iload_n 2, 1) := by decide +kernel
theorem dX7_has_2 : decode cX7_has 2 = .ok (.lushr, 1) := by decide +kernel
theorem dX7_has_3 : decode cX7_has 3 = .ok (.lconst 1, 1) := by decide +kernel
theorem dX7_has_4 : decode cX7_has 4 = .ok (.land, 1) := by decide +kernel
theorem dX7_has_5 : decode cX7_has 5 = .ok (.lconst 0, 1) := by decide +kernel
theorem dX7_has_6 : decode cX7_has 6 = .ok (.lcmp, 1) := by decide +kernel
theorem dX7_has_7 : decode cX7_has 7 = .ok (.ifCond .eq 7, 3) := by decide +kernel
theorem dX7_has_10 : decode cX7_has 10 = .ok (.iconst 1, 1) := by decide +kernel
theorem dX7_has_11 : decode cX7_has 11 = .ok (.goto 4, 3) := by decide +kernel
theorem dX7_has_14 : decode cX7_has 14 = .ok (.iconst 0, 1) := by decide +kernel
theorem dX7_has_15 : decode cX7_has 15 = .ok (.ireturn, 1) := by decide +kernel
theorem dJ13_bitCount_95d88_0 : decode cJ13_bitCount_95d88 0 = .ok (.lload_n 0, 1) := by decide +kernel
theorem dJ13_bitCount_95d88_1 : decode cJ13_bitCount_95d88 1 = .ok (.lload_n 0, 1) := by decide +kernel
theorem dJ13_bitCount_95d88_2 : decode cJ13_bitCount_95d88 2 = .ok (.iconst 1, 1) := by decide +kernel
theorem dJ13_bitCount_95d88_3 : decode cJ13_bitCount_95d88 3 = .ok (.lushr, 1) := by decide +kernel
theorem dJ13_bitCount_95d88_4 : decode cJ13_bitCount_95d88 4 = .ok (.ldc2_w 314, 3) := by decide +kernel
theorem dJ13_bitCount_95d88_7 : decode cJ13_bitCount_95d88 7 = .ok (.land, 1) := by decide +kernel
theorem dJ13_bitCount_95d88_8 : decode cJ13_bitCount_95d88 8 = .ok (.lsub, 1) := by decide +kernel
theorem dJ13_bitCount_95d88_9 : decode cJ13_bitCount_95d88 9 = .ok (.lstore_n 0, 1) := by decide +kernel
theorem dJ13_bitCount_95d88_10 : decode cJ13_bitCount_95d88 10 = .ok (.lload_n 0, 1) := by decide +kernel
theorem dJ13_bitCount_95d88_11 : decode cJ13_bitCount_95d88 11 = .ok (.ldc2_w 316, 3) := by decide +kernel
theorem dJ13_bitCount_95d88_14 : decode cJ13_bitCount_95d88 14 = .ok (.land, 1) := by decide +kernel
theorem dJ13_bitCount_95d88_15 : decode cJ13_bitCount_95d88 15 = .ok (.lload_n 0, 1) := by decide +kernel
theorem dJ13_bitCount_95d88_16 : decode cJ13_bitCount_95d88 16 = .ok (.iconst 2, 1) := by decide +kernel
theorem dJ13_bitCount_95d88_17 : decode cJ13_bitCount_95d88 17 = .ok (.lushr, 1) := by decide +kernel
theorem dJ13_bitCount_95d88_18 : decode cJ13_bitCount_95d88 18 = .ok (.ldc2_w 316, 3) := by decide +kernel
theorem dJ13_bitCount_95d88_21 : decode cJ13_bitCount_95d88 21 = .ok (.land, 1) := by decide +kernel
theorem dJ13_bitCount_95d88_22 : decode cJ13_bitCount_95d88 22 = .ok (.ladd, 1) := by decide +kernel
theorem dJ13_bitCount_95d88_23 : decode cJ13_bitCount_95d88 23 = .ok (.lstore_n 0, 1) := by decide +kernel
theorem dJ13_bitCount_95d88_24 : decode cJ13_bitCount_95d88 24 = .ok (.lload_n 0, 1) := by decide +kernel
theorem dJ13_bitCount_95d88_25 : decode cJ13_bitCount_95d88 25 = .ok (.lload_n 0, 1) := by decide +kernel
theorem dJ13_bitCount_95d88_26 : decode cJ13_bitCount_95d88 26 = .ok (.iconst 4, 1) := by decide +kernel
theorem dJ13_bitCount_95d88_27 : decode cJ13_bitCount_95d88 27 = .ok (.lushr, 1) := by decide +kernel
theorem dJ13_bitCount_95d88_28 : decode cJ13_bitCount_95d88 28 = .ok (.ladd, 1) := by decide +kernel
theorem dJ13_bitCount_95d88_29 : decode cJ13_bitCount_95d88 29 = .ok (.ldc2_w 318, 3) := by decide +kernel
theorem dJ13_bitCount_95d88_32 : decode cJ13_bitCount_95d88 32 = .ok (.land, 1) := by decide +kernel
theorem dJ13_bitCount_95d88_33 : decode cJ13_bitCount_95d88 33 = .ok (.lstore_n 0, 1) := by decide +kernel
theorem dJ13_bitCount_95d88_34 : decode cJ13_bitCount_95d88 34 = .ok (.lload_n 0, 1) := by decide +kernel
theorem dJ13_bitCount_95d88_35 : decode cJ13_bitCount_95d88 35 = .ok (.lload_n 0, 1) := by decide +kernel
theorem dJ13_bitCount_95d88_36 : decode cJ13_bitCount_95d88 36 = .ok (.bipush 8, 2) := by decide +kernel
theorem dJ13_bitCount_95d88_38 : decode cJ13_bitCount_95d88 38 = .ok (.lushr, 1) := by decide +kernel
theorem dJ13_bitCount_95d88_39 : decode cJ13_bitCount_95d88 39 = .ok (.ladd, 1) := by decide +kernel
theorem dJ13_bitCount_95d88_40 : decode cJ13_bitCount_95d88 40 = .ok (.lstore_n 0, 1) := by decide +kernel
theorem dJ13_bitCount_95d88_41 : decode cJ13_bitCount_95d88 41 = .ok (.lload_n 0, 1) := by decide +kernel
theorem dJ13_bitCount_95d88_42 : decode cJ13_bitCount_95d88 42 = .ok (.lload_n 0, 1) := by decide +kernel
theorem dJ13_bitCount_95d88_43 : decode cJ13_bitCount_95d88 43 = .ok (.bipush 16, 2) := by decide +kernel
theorem dJ13_bitCount_95d88_45 : decode cJ13_bitCount_95d88 45 = .ok (.lushr, 1) := by decide +kernel
theorem dJ13_bitCount_95d88_46 : decode cJ13_bitCount_95d88 46 = .ok (.ladd, 1) := by decide +kernel
theorem dJ13_bitCount_95d88_47 : decode cJ13_bitCount_95d88 47 = .ok (.lstore_n 0, 1) := by decide +kernel
theorem dJ13_bitCount_95d88_48 : decode cJ13_bitCount_95d88 48 = .ok (.lload_n 0, 1) := by decide +kernel
theorem dJ13_bitCount_95d88_49 : decode cJ13_bitCount_95d88 49 = .ok (.lload_n 0, 1) := by decide +kernel
theorem dJ13_bitCount_95d88_50 : decode cJ13_bitCount_95d88 50 = .ok (.bipush 32, 2) := by decide +kernel
theorem dJ13_bitCount_95d88_52 : decode cJ13_bitCount_95d88 52 = .ok (.lushr, 1) := by decide +kernel
theorem dJ13_bitCount_95d88_53 : decode cJ13_bitCount_95d88 53 = .ok (.ladd, 1) := by decide +kernel
theorem dJ13_bitCount_95d88_54 : decode cJ13_bitCount_95d88 54 = .ok (.lstore_n 0, 1) := by decide +kernel
theorem dJ13_bitCount_95d88_55 : decode cJ13_bitCount_95d88 55 = .ok (.lload_n 0, 1) := by decide +kernel
theorem dJ13_bitCount_95d88_56 : decode cJ13_bitCount_95d88 56 = .ok (.l2i, 1) := by decide +kernel
theorem dJ13_bitCount_95d88_57 : decode cJ13_bitCount_95d88 57 = .ok (.bipush 127, 2) := by decide +kernel
theorem dJ13_bitCount_95d88_59 : decode cJ13_bitCount_95d88 59 = .ok (.iand, 1) := by decide +kernel
theorem dJ13_bitCount_95d88_60 : decode cJ13_bitCount_95d88 60 = .ok (.ireturn, 1) := by decide +kernel
theorem dX7_lowest_0 : decode cX7_lowest 0 = .ok (.lload_n 0, 1) := by decide +kernel
theorem dX7_lowest_1 : decode cX7_lowest 1 = .ok (.lload_n 0, 1) := by decide +kernel
theorem dX7_lowest_2 : decode cX7_lowest 2 = .ok (.lneg, 1) := by decide +kernel
theorem dX7_lowest_3 : decode cX7_lowest 3 = .ok (.land, 1) := by decide +kernel
theorem dX7_lowest_4 : decode cX7_lowest 4 = .ok (.lconst 1, 1) := by decide +kernel
theorem dX7_lowest_5 : decode cX7_lowest 5 = .ok (.lsub, 1) := by decide +kernel
theorem dX7_lowest_6 : decode cX7_lowest 6 = .ok (.invokestatic 188, 3) := by decide +kernel
theorem dX7_lowest_9 : decode cX7_lowest 9 = .ok (.ireturn, 1) := by decide +kernel
theorem dX7_jumps_0 : decode cX7_jumps 0 = .ok (.iload_n 0, 1) := by decide +kernel
theorem dX7_jumps_1 : decode cX7_jumps 1 = .ok (.iconst 1, 1) := by decide +kernel
theorem dX7_jumps_2 : decode cX7_jumps 2 = .ok (.if_icmp .eq 8, 3) := by decide +kernel
theorem dX7_jumps_5 : decode cX7_jumps 5 = .ok (.iload_n 0, 1) := by decide +kernel
theorem dX7_jumps_6 : decode cX7_jumps 6 = .ok (.iconst 2, 1) := by decide +kernel
theorem dX7_jumps_7 : decode cX7_jumps 7 = .ok (.if_icmp .ne 7, 3) := by decide +kernel
theorem dX7_jumps_10 : decode cX7_jumps 10 = .ok (.iconst 1, 1) := by decide +kernel
theorem dX7_jumps_11 : decode cX7_jumps 11 = .ok (.goto 4, 3) := by decide +kernel
theorem dX7_jumps_14 : decode cX7_jumps 14 = .ok (.iconst 0, 1) := by decide +kernel
theorem dX7_jumps_15 : decode cX7_jumps 15 = .ok (.ireturn, 1) := by decide +kernel
theorem dX7_isTarget_0 : decode cX7_isTarget 0 = .ok (.iload_n 0, 1) := by decide +kernel
theorem dX7_isTarget_1 : decode cX7_isTarget 1 = .ok (.ifCond .lt 13, 3) := by decide +kernel
theorem dX7_isTarget_4 : decode cX7_isTarget 4 = .ok (.iload_n 0, 1) := by decide +kernel
theorem dX7_isTarget_5 : decode cX7_isTarget 5 = .ok (.bipush 40, 2) := by decide +kernel
theorem dX7_isTarget_7 : decode cX7_isTarget 7 = .ok (.if_icmp .gt 7, 3) := by decide +kernel
theorem dX7_isTarget_10 : decode cX7_isTarget 10 = .ok (.iconst 1, 1) := by decide +kernel
theorem dX7_isTarget_11 : decode cX7_isTarget 11 = .ok (.goto 4, 3) := by decide +kernel
theorem dX7_isTarget_14 : decode cX7_isTarget 14 = .ok (.iconst 0, 1) := by decide +kernel
theorem dX7_isTarget_15 : decode cX7_isTarget 15 = .ok (.ireturn, 1) := by decide +kernel
theorem dX7_mix_0 : decode cX7_mix 0 = .ok (.lload_n 0, 1) := by decide +kernel
theorem dX7_mix_1 : decode cX7_mix 1 = .ok (.ldc2_w 364, 3) := by decide +kernel
theorem dX7_mix_4 : decode cX7_mix 4 = .ok (.lmul, 1) := by decide +kernel
theorem dX7_mix_5 : decode cX7_mix 5 = .ok (.iload_n 2, 1) := by decide +kernel
theorem dX7_mix_6 : decode cX7_mix 6 = .ok (.i2l, 1) := by decide +kernel
theorem dX7_mix_7 : decode cX7_mix 7 = .ok (.ladd, 1) := by decide +kernel
theorem dX7_mix_8 : decode cX7_mix 8 = .ok (.lreturn, 1) := by decide +kernel
theorem dX7_mix__0 : decode cX7_mix_ 0 = .ok (.lload_n 0, 1) := by decide +kernel
theorem dX7_mix__1 : decode cX7_mix_ 1 = .ok (.ldc2_w 364, 3) := by decide +kernel
theorem dX7_mix__4 : decode cX7_mix_ 4 = .ok (.lmul, 1) := by decide +kernel
theorem dX7_mix__5 : decode cX7_mix_ 5 = .ok (.iload_n 2, 1) := by decide +kernel
theorem dX7_mix__6 : decode cX7_mix_ 6 = .ok (.ifCond .eq 7, 3) := by decide +kernel
theorem dX7_mix__9 : decode cX7_mix_ 9 = .ok (.lconst 1, 1) := by decide +kernel
theorem dX7_mix__10 : decode cX7_mix_ 10 = .ok (.goto 4, 3) := by decide +kernel
theorem dX7_mix__13 : decode cX7_mix_ 13 = .ok (.lconst 0, 1) := by decide +kernel
theorem dX7_mix__14 : decode cX7_mix_ 14 = .ok (.ladd, 1) := by decide +kernel
theorem dX7_mix__15 : decode cX7_mix_ 15 = .ok (.lreturn, 1) := by decide +kernel
theorem mw_0 : Cond.laysFinal "OrielChart$Code" "OrielChart$Code" "kind" "[I" ∈ GW := gw_mem (inT1 _ (List.mem_of_getElem? (i := 46) rfl)) rfl
theorem mw_1 : Cond.laysFinal "OrielChart$Code" "OrielChart$Code" "target" "[I" ∈ GW := gw_mem (inT1 _ (List.mem_of_getElem? (i := 48) rfl)) rfl
theorem mw_2 : Cond.laysFinal "OrielChart$Code" "OrielChart$Code" "sets" "[I" ∈ GW := gw_mem (inT1 _ (List.mem_of_getElem? (i := 50) rfl)) rfl
theorem mw_3 : Cond.laysFinal "OrielChart$Code" "OrielChart$Code" "uses" "[I" ∈ GW := gw_mem (inT1 _ (List.mem_of_getElem? (i := 52) rfl)) rfl
theorem mw_4 : Cond.lays "OrielChart$Code" "OrielChart$Code" "count" "I" ∈ GW := gw_mem (inT1 _ (List.mem_of_getElem? (i := 54) rfl)) rfl
theorem mw_5 : Cond.laysFinal "OrielChart$Flow" "OrielChart$Flow" "home" "[I" ∈ GW := gw_mem (inT1 _ (List.mem_of_getElem? (i := 99) rfl)) rfl
theorem mw_6 : Cond.laysFinal "OrielChart$Flow" "OrielChart$Flow" "first" "[I" ∈ GW := gw_mem (inT1 _ (List.mem_of_getElem? (i := 101) rfl)) rfl
theorem mw_7 : Cond.laysFinal "OrielChart$Flow" "OrielChart$Flow" "last" "[I" ∈ GW := gw_mem (inT1 _ (List.mem_of_getElem? (i := 103) rfl)) rfl
theorem mw_8 : Cond.laysFinal "OrielChart$Flow" "OrielChart$Flow" "from" "[I" ∈ GW := gw_mem (inT1 _ (List.mem_of_getElem? (i := 105) rfl)) rfl
theorem mw_9 : Cond.laysFinal "OrielChart$Flow" "OrielChart$Flow" "to" "[I" ∈ GW := gw_mem (inT1 _ (List.mem_of_getElem? (i := 107) rfl)) rfl
theorem mw_10 : Cond.laysFinal "OrielChart$Flow" "OrielChart$Flow" "firstEdge" "[I" ∈ GW := gw_mem (inT1 _ (List.mem_of_getElem? (i := 109) rfl)) rfl
theorem mw_11 : Cond.laysFinal "OrielChart$Flow" "OrielChart$Flow" "next" "[J" ∈ GW := gw_mem (inT1 _ (List.mem_of_getElem? (i := 111) rfl)) rfl
theorem mw_12 : Cond.lays "OrielChart$Flow" "OrielChart$Flow" "blockCount" "I" ∈ GW := gw_mem (inT1 _ (List.mem_of_getElem? (i := 113) rfl)) rfl
theorem mw_13 : Cond.lays "OrielChart$Flow" "OrielChart$Flow" "edgeCount" "I" ∈ GW := gw_mem (inT1 _ (List.mem_of_getElem? (i := 115) rfl)) rfl
theorem mw_14 : Cond.lays "OrielChart$Flow" "OrielChart$Flow" "reached" "J" ∈ GW := gw_mem (inT1 _ (List.mem_of_getElem? (i := 117) rfl)) rfl
theorem mw_15 : Cond.lays "OrielChart$Flow" "OrielChart$Flow" "fresh" "Z" ∈ GW := gw_mem (inT1 _ (List.mem_of_getElem? (i := 119) rfl)) rfl
theorem mw_16 : Cond.laysFinal "OrielChart$Lives" "OrielChart$Lives" "live" "[I" ∈ GW := gw_mem (inT1 _ (List.mem_of_getElem? (i := 165) rfl)) rfl
theorem mw_17 : Cond.lays "OrielChart$Lives" "OrielChart$Lives" "vainCount" "I" ∈ GW := gw_mem (inT1 _ (List.mem_of_getElem? (i := 167) rfl)) rfl
theorem mw_18 : Cond.lays "OrielChart$Lives" "OrielChart$Lives" "fresh" "Z" ∈ GW := gw_mem (inT1 _ (List.mem_of_getElem? (i := 169) rfl)) rfl
theorem mw_19 : Cond.laysFinal "OrielChart$Picture" "OrielChart$Picture" "walk" "LOrielChart$Walk;" ∈ GW := gw_mem (inT2 _ (List.mem_of_getElem? (i := 33) rfl)) rfl
theorem mw_20 : Cond.laysFinal "OrielChart$Picture" "OrielChart$Picture" "layer" "[I" ∈ GW := gw_mem (inT2 _ (List.mem_of_getElem? (i := 35) rfl)) rfl
theorem mw_21 : Cond.laysFinal "OrielChart$Picture" "OrielChart$Picture" "start" "[I" ∈ GW := gw_mem (inT2 _ (List.mem_of_getElem? (i := 37) rfl)) rfl
theorem mw_22 : Cond.laysFinal "OrielChart$Picture" "OrielChart$Picture" "firstBend" "[I" ∈ GW := gw_mem (inT2 _ (List.mem_of_getElem? (i := 39) rfl)) rfl
theorem mw_23 : Cond.laysFinal "OrielChart$Picture" "OrielChart$Picture" "edgeOf" "[I" ∈ GW := gw_mem (inT2 _ (List.mem_of_getElem? (i := 41) rfl)) rfl
theorem mw_24 : Cond.laysFinal "OrielChart$Picture" "OrielChart$Picture" "order" "[I" ∈ GW := gw_mem (inT2 _ (List.mem_of_getElem? (i := 43) rfl)) rfl
theorem mw_25 : Cond.laysFinal "OrielChart$Picture" "OrielChart$Picture" "place" "[I" ∈ GW := gw_mem (inT2 _ (List.mem_of_getElem? (i := 45) rfl)) rfl
theorem mw_26 : Cond.laysFinal "OrielChart$Picture" "OrielChart$Picture" "kept" "[I" ∈ GW := gw_mem (inT2 _ (List.mem_of_getElem? (i := 47) rfl)) rfl
theorem mw_27 : Cond.laysFinal "OrielChart$Picture" "OrielChart$Picture" "sum" "[I" ∈ GW := gw_mem (inT2 _ (List.mem_of_getElem? (i := 49) rfl)) rfl
theorem mw_28 : Cond.laysFinal "OrielChart$Picture" "OrielChart$Picture" "lines" "[I" ∈ GW := gw_mem (inT2 _ (List.mem_of_getElem? (i := 51) rfl)) rfl
theorem mw_29 : Cond.laysFinal "OrielChart$Picture" "OrielChart$Picture" "above" "[I" ∈ GW := gw_mem (inT2 _ (List.mem_of_getElem? (i := 53) rfl)) rfl
theorem mw_30 : Cond.laysFinal "OrielChart$Picture" "OrielChart$Picture" "below" "[I" ∈ GW := gw_mem (inT2 _ (List.mem_of_getElem? (i := 55) rfl)) rfl
theorem mw_31 : Cond.lays "OrielChart$Picture" "OrielChart$Picture" "edgeCount" "I" ∈ GW := gw_mem (inT2 _ (List.mem_of_getElem? (i := 57) rfl)) rfl
theorem mw_32 : Cond.lays "OrielChart$Picture" "OrielChart$Picture" "layerCount" "I" ∈ GW := gw_mem (inT2 _ (List.mem_of_getElem? (i := 59) rfl)) rfl
theorem mw_33 : Cond.lays "OrielChart$Picture" "OrielChart$Picture" "sweeps" "I" ∈ GW := gw_mem (inT2 _ (List.mem_of_getElem? (i := 61) rfl)) rfl
theorem mw_34 : Cond.lays "OrielChart$Picture" "OrielChart$Picture" "fresh" "Z" ∈ GW := gw_mem (inT2 _ (List.mem_of_getElem? (i := 63) rfl)) rfl
theorem mw_35 : Cond.laysFinal "OrielChart$Ranks" "OrielChart$Ranks" "ruled" "[J" ∈ GW := gw_mem (inT1 _ (List.mem_of_getElem? (i := 139) rfl)) rfl
theorem mw_36 : Cond.laysFinal "OrielChart$Ranks" "OrielChart$Ranks" "loop" "[J" ∈ GW := gw_mem (inT1 _ (List.mem_of_getElem? (i := 141) rfl)) rfl
theorem mw_37 : Cond.laysFinal "OrielChart$Ranks" "OrielChart$Ranks" "previous" "[J" ∈ GW := gw_mem (inT1 _ (List.mem_of_getElem? (i := 143) rfl)) rfl
theorem mw_38 : Cond.laysFinal "OrielChart$Ranks" "OrielChart$Ranks" "onward" "[J" ∈ GW := gw_mem (inT1 _ (List.mem_of_getElem? (i := 145) rfl)) rfl
theorem mw_39 : Cond.lays "OrielChart$Ranks" "OrielChart$Ranks" "loopCount" "I" ∈ GW := gw_mem (inT1 _ (List.mem_of_getElem? (i := 147) rfl)) rfl
theorem mw_40 : Cond.lays "OrielChart$Ranks" "OrielChart$Ranks" "tame" "Z" ∈ GW := gw_mem (inT1 _ (List.mem_of_getElem? (i := 149) rfl)) rfl
theorem mw_41 : Cond.lays "OrielChart$Ranks" "OrielChart$Ranks" "fresh" "Z" ∈ GW := gw_mem (inT1 _ (List.mem_of_getElem? (i := 151) rfl)) rfl
theorem mw_42 : Cond.laysFinal "OrielChart$Reduction" "OrielChart$Reduction" "next" "[J" ∈ GW := gw_mem (inT1 _ (List.mem_of_getElem? (i := 191) rfl)) rfl
theorem mw_43 : Cond.laysFinal "OrielChart$Reduction" "OrielChart$Reduction" "home" "[I" ∈ GW := gw_mem (inT1 _ (List.mem_of_getElem? (i := 193) rfl)) rfl
theorem mw_44 : Cond.laysFinal "OrielChart$Reduction" "OrielChart$Reduction" "rule" "[I" ∈ GW := gw_mem (inT1 _ (List.mem_of_getElem? (i := 195) rfl)) rfl
theorem mw_45 : Cond.laysFinal "OrielChart$Reduction" "OrielChart$Reduction" "node" "[I" ∈ GW := gw_mem (inT1 _ (List.mem_of_getElem? (i := 197) rfl)) rfl
theorem mw_46 : Cond.laysFinal "OrielChart$Reduction" "OrielChart$Reduction" "entry" "[I" ∈ GW := gw_mem (inT1 _ (List.mem_of_getElem? (i := 199) rfl)) rfl
theorem mw_47 : Cond.lays "OrielChart$Reduction" "OrielChart$Reduction" "nodes" "J" ∈ GW := gw_mem (inT1 _ (List.mem_of_getElem? (i := 201) rfl)) rfl
theorem mw_48 : Cond.lays "OrielChart$Reduction" "OrielChart$Reduction" "stepCount" "I" ∈ GW := gw_mem (inT1 _ (List.mem_of_getElem? (i := 203) rfl)) rfl
theorem mw_49 : Cond.lays "OrielChart$Reduction" "OrielChart$Reduction" "fresh" "Z" ∈ GW := gw_mem (inT1 _ (List.mem_of_getElem? (i := 205) rfl)) rfl
theorem mw_50 : Cond.laysFinal "OrielChart$Walk" "OrielChart$Walk" "came" "[I" ∈ GW := gw_mem (inT1 _ (List.mem_of_getElem? (i := 234) rfl)) rfl
theorem mw_51 : Cond.laysFinal "OrielChart$Walk" "OrielChart$Walk" "upper" "[I" ∈ GW := gw_mem (inT1 _ (List.mem_of_getElem? (i := 236) rfl)) rfl
theorem mw_52 : Cond.laysFinal "OrielChart$Walk" "OrielChart$Walk" "lower" "[I" ∈ GW := gw_mem (inT1 _ (List.mem_of_getElem? (i := 238) rfl)) rfl
theorem mw_53 : Cond.laysFinal "OrielChart$Walk" "OrielChart$Walk" "open" "[I" ∈ GW := gw_mem (inT2 _ (List.mem_of_getElem? (i := 0) rfl)) rfl
theorem mw_54 : Cond.laysFinal "OrielChart$Walk" "OrielChart$Walk" "edge" "[I" ∈ GW := gw_mem (inT2 _ (List.mem_of_getElem? (i := 2) rfl)) rfl
theorem mw_55 : Cond.lays "OrielChart$Walk" "OrielChart$Walk" "cameCount" "I" ∈ GW := gw_mem (inT2 _ (List.mem_of_getElem? (i := 4) rfl)) rfl
theorem mw_56 : Cond.lays "OrielChart$Walk" "OrielChart$Walk" "openCount" "I" ∈ GW := gw_mem (inT2 _ (List.mem_of_getElem? (i := 6) rfl)) rfl
theorem mw_57 : Cond.lays "OrielChart$Walk" "OrielChart$Walk" "seen" "J" ∈ GW := gw_mem (inT2 _ (List.mem_of_getElem? (i := 8) rfl)) rfl
theorem mw_58 : Cond.lays "OrielChart$Walk" "OrielChart$Walk" "stillGoing" "J" ∈ GW := gw_mem (inT2 _ (List.mem_of_getElem? (i := 10) rfl)) rfl
theorem mw_59 : Cond.laysFinal "OrielChart" "OrielChart" "code" "LOrielChart$Code;" ∈ GW := gw_mem (inT2 _ (List.mem_of_getElem? (i := 72) rfl)) rfl
theorem mw_60 : Cond.laysFinal "OrielChart" "OrielChart" "flow" "LOrielChart$Flow;" ∈ GW := gw_mem (inT2 _ (List.mem_of_getElem? (i := 74) rfl)) rfl
theorem mw_61 : Cond.laysFinal "OrielChart" "OrielChart" "ranks" "LOrielChart$Ranks;" ∈ GW := gw_mem (inT2 _ (List.mem_of_getElem? (i := 76) rfl)) rfl
theorem mw_62 : Cond.laysFinal "OrielChart" "OrielChart" "lives" "LOrielChart$Lives;" ∈ GW := gw_mem (inT2 _ (List.mem_of_getElem? (i := 78) rfl)) rfl
theorem mw_63 : Cond.laysFinal "OrielChart" "OrielChart" "reduction" "LOrielChart$Reduction;" ∈ GW := gw_mem (inT2 _ (List.mem_of_getElem? (i := 80) rfl)) rfl
theorem mw_64 : Cond.laysFinal "OrielChart" "OrielChart" "picture" "LOrielChart$Picture;" ∈ GW := gw_mem (inT2 _ (List.mem_of_getElem? (i := 82) rfl)) rfl
theorem mw_65 : Cond.constantLong RJ13 314 (6148914691236517205) ∈ GW := gw_mem (inT2 _ (List.mem_of_getElem? (i := 147) rfl)) rfl
theorem mw_66 : Cond.constantLong RJ13 316 (3689348814741910323) ∈ GW := gw_mem (inT2 _ (List.mem_of_getElem? (i := 148) rfl)) rfl
theorem mw_67 : Cond.constantLong RJ13 318 (1085102592571150095) ∈ GW := gw_mem (inT2 _ (List.mem_of_getElem? (i := 149) rfl)) rfl
theorem mw_68 : Cond.code yJ13_bitCount_95d88 cJ13_bitCount_95d88 2 (some Jvm.ClassFile.FieldType.int) ∈ GW := gw_mem (inT2 _ (List.mem_of_getElem? (i := 146) rfl)) rfl
theorem mw_69 : Cond.methodLink RX7 188 yJ13_bitCount_95d88 ∈ GW := gw_mem (inT2 _ (List.mem_of_getElem? (i := 144) rfl)) rfl
theorem mw_70 : Cond.static yJ13_bitCount_95d88 ∈ GW := gw_mem (inT2 _ (List.mem_of_getElem? (i := 145) rfl)) rfl
theorem mw_71 : Cond.initialized RJ13 ∈ GW := gw_mem (inT1 _ (List.mem_of_getElem? (i := 9) rfl)) rfl
theorem mw_72 : Cond.constantLong RX7 364 (31) ∈ GW := gw_mem (inT3 _ (List.mem_of_getElem? (i := 89) rfl)) rfl
theorem pd_J13_bitCount_95d88 : yJ13_bitCount_95d88.cls ≠ "java/lang/invoke/MethodHandle" ∧ yJ13_bitCount_95d88.cls ≠ "java/lang/invoke/VarHandle" ∧ (parseMethodDescriptor yJ13_bitCount_95d88.desc).map (fun d => d.parameters.length) = some 1 := by decide +kernel
set_option maxRecDepth 20000 in
theorem inGX0 : ∀ w ∈ u_ws RX0 TX0 5, w ∈ GW := List.forall_mem_cons.mpr ⟨mw_0, List.forall_mem_cons.mpr ⟨mw_1, List.forall_mem_cons.mpr ⟨mw_2, List.forall_mem_cons.mpr ⟨mw_3, List.forall_mem_cons.mpr ⟨mw_4, fun _ h => absurd h List.not_mem_nil⟩⟩⟩⟩⟩
set_option maxRecDepth 20000 in
theorem inGX1 : ∀ w ∈ u_ws RX1 TX1 11, w ∈ GW := List.forall_mem_cons.mpr ⟨mw_5, List.forall_mem_cons.mpr ⟨mw_6, List.forall_mem_cons.mpr ⟨mw_7, List.forall_mem_cons.mpr ⟨mw_8, List.forall_mem_cons.mpr ⟨mw_9, List.forall_mem_cons.mpr ⟨mw_10, List.forall_mem_cons.mpr ⟨mw_11, List.forall_mem_cons.mpr ⟨mw_12, List.forall_mem_cons.mpr ⟨mw_13, List.forall_mem_cons.mpr ⟨mw_14, List.forall_mem_cons.mpr ⟨mw_15, fun _ h => absurd h List.not_mem_nil⟩⟩⟩⟩⟩⟩⟩⟩⟩⟩⟩
set_option maxRecDepth 20000 in
theorem inGX2 : ∀ w ∈ u_ws RX2 TX2 3, w ∈ GW := List.forall_mem_cons.mpr ⟨mw_16, List.forall_mem_cons.mpr ⟨mw_17, List.forall_mem_cons.mpr ⟨mw_18, fun _ h => absurd h List.not_mem_nil⟩⟩⟩
set_option maxRecDepth 20000 in
theorem inGX3 : ∀ w ∈ u_ws RX3 TX3 16, w ∈ GW := List.forall_mem_cons.mpr ⟨mw_19, List.forall_mem_cons.mpr ⟨mw_20, List.forall_mem_cons.mpr ⟨mw_21, List.forall_mem_cons.mpr ⟨mw_22, List.forall_mem_cons.mpr ⟨mw_23, List.forall_mem_cons.mpr ⟨mw_24, List.forall_mem_cons.mpr ⟨mw_25, List.forall_mem_cons.mpr ⟨mw_26, List.forall_mem_cons.mpr ⟨mw_27, List.forall_mem_cons.mpr ⟨mw_28, List.forall_mem_cons.mpr ⟨mw_29, List.forall_mem_cons.mpr ⟨mw_30, List.forall_mem_cons.mpr ⟨mw_31, List.forall_mem_cons.mpr ⟨mw_32, List.forall_mem_cons.mpr ⟨mw_33, List.forall_mem_cons.mpr ⟨mw_34, fun _ h => absurd h List.not_mem_nil⟩⟩⟩⟩⟩⟩⟩⟩⟩⟩⟩⟩⟩⟩⟩⟩
set_option maxRecDepth 20000 in
theorem inGX4 : ∀ w ∈ u_ws RX4 TX4 7, w ∈ GW := List.forall_mem_cons.mpr ⟨mw_35, List.forall_mem_cons.mpr ⟨mw_36, List.forall_mem_cons.mpr ⟨mw_37, List.forall_mem_cons.mpr ⟨mw_38, List.forall_mem_cons.mpr ⟨mw_39, List.forall_mem_cons.mpr ⟨mw_40, List.forall_mem_cons.mpr ⟨mw_41, fun _ h => absurd h List.not_mem_nil⟩⟩⟩⟩⟩⟩⟩
set_option maxRecDepth 20000 in
theorem inGX5 : ∀ w ∈ u_ws RX5 TX5 8, w ∈ GW := List.forall_mem_cons.mpr ⟨mw_42, List.forall_mem_cons.mpr ⟨mw_43, List.forall_mem_cons.mpr ⟨mw_44, List.forall_mem_cons.mpr ⟨mw_45, List.forall_mem_cons.mpr ⟨mw_46, List.forall_mem_cons.mpr ⟨mw_47, List.forall_mem_cons.mpr ⟨mw_48, List.forall_mem_cons.mpr ⟨mw_49, fun _ h => absurd h List.not_mem_nil⟩⟩⟩⟩⟩⟩⟩⟩
set_option maxRecDepth 20000 in
theorem inGX6 : ∀ w ∈ u_ws RX6 TX6 9, w ∈ GW := List.forall_mem_cons.mpr ⟨mw_50, List.forall_mem_cons.mpr ⟨mw_51, List.forall_mem_cons.mpr ⟨mw_52, List.forall_mem_cons.mpr ⟨mw_53, List.forall_mem_cons.mpr ⟨mw_54, List.forall_mem_cons.mpr ⟨mw_55, List.forall_mem_cons.mpr ⟨mw_56, List.forall_mem_cons.mpr ⟨mw_57, List.forall_mem_cons.mpr ⟨mw_58, fun _ h => absurd h List.not_mem_nil⟩⟩⟩⟩⟩⟩⟩⟩⟩
set_option maxRecDepth 20000 in
theorem inGX7 : ∀ w ∈ u_ws RX7 TX7 6, w ∈ GW := List.forall_mem_cons.mpr ⟨mw_59, List.forall_mem_cons.mpr ⟨mw_60, List.forall_mem_cons.mpr ⟨mw_61, List.forall_mem_cons.mpr ⟨mw_62, List.forall_mem_cons.mpr ⟨mw_63, List.forall_mem_cons.mpr ⟨mw_64, fun _ h => absurd h List.not_mem_nil⟩⟩⟩⟩⟩⟩
set_option maxHeartbeats 4000000 in
set_option maxRecDepth 100000 in
theorem c_at (l : Launch) (D : va_G) (cI cJ : ClassId) (w : va_W) (q0 a n : Nat) (f : Nat → Int32) (i : Int32) (hq : w[q0]? = some (a, .inl (cI, n, .inl f))) (hn : n < 2 ^ 31) : CT l D (TY cI cJ) yX7_at (.code yX7_at cX7_at 2 (some Jvm.ClassFile.FieldType.int)) 0 0 0 w [.ref a, .int i] (QI D (TY cI cJ) (fun r u => r = rd f n i ∧ u = w)) := by
  refine ent (by decide) (Nat.le_of_ble_eq_true rfl) ?_
  intro p e s m below meth c ls A hx hb hr hg hown hml hlocks hnm hP hK hD hS hA hN hl
  have hl : lv_has ls 2 [(0, .ref a), (1, .int i)] := hl
  refine lv_aload_n hx hb dX7_at_0 rfl (lv_at hl 0 rfl) ?_
  refine lv_ifnull hx hb dX7_at_1 ?_
  refine lv_iload_n hx hb dX7_at_4 rfl (lv_at hl 1 rfl) ?_
  refine lv_if_lt (tgt := 20) hx hb dX7_at_5 (by decide) (fun c_5 => ?_) (fun c_5 => ?_)
  · refine lv_iconst (v := 0) hx hb dX7_at_20 (by decide) ?_
    exact W.iret (v := 0) hx hb hr (fun t ht hW => ⟨⟨0, w, rfl, ⟨(show 0 = rd f n i from (by simp only [rd, eq_true c_5, gi_sl, gi_sA, gi_sB, gi_si_s, gi_si_n, gl_si, gl_sA, gl_sB, gl_sl_s, gl_sl_n, gA_si, gA_sl, gA_sB, gA_sA_s, gA_sA_n, gB_si, gB_sl, gB_sA, gB_sB_s, gB_sB_n, Nat.reduceBEq, if_true, if_false, eq_self, Bool.false_eq_true, Bool.true_eq_false, not_true_eq_false, not_false_eq_true, decide_true, decide_false, cond_true, cond_false, Bool.true_and, Bool.false_and, Bool.and_true, Bool.and_false, Bool.true_or, Bool.false_or, Bool.or_true, Bool.or_false, b2i_tt, b2i_ff]; done)), rfl⟩, ⟨by rw [ht]; exact hP, va_K.moved hW.alike hK, hD⟩⟩, hS.F ht⟩) hS.2.2 dX7_at_21
  · refine lv_iload_n hx hb dX7_at_8 rfl (lv_at hl 1 rfl) ?_
    refine lv_aload_n hx hb dX7_at_9 rfl (lv_at hl 0 rfl) ?_
    refine va_alen (v := (nI n)) hx hb hK hP q0 0 hq rfl rfl dX7_at_10 ?_
    refine lv_icmp_ge (tgt := 20) hx hb dX7_at_11 (by decide) (fun c_11 => ?_) (fun c_11 => ?_)
    · have c_11 : ¬ i < (nI n) := i_ge c_11
      refine lv_iconst (v := 0) hx hb dX7_at_20 (by decide) ?_
      exact W.iret (v := 0) hx hb hr (fun t ht hW => ⟨⟨0, w, rfl, ⟨(show 0 = rd f n i from (by simp only [rd, eq_false c_5, eq_false c_11, gi_sl, gi_sA, gi_sB, gi_si_s, gi_si_n, gl_si, gl_sA, gl_sB, gl_sl_s, gl_sl_n, gA_si, gA_sl, gA_sB, gA_sA_s, gA_sA_n, gB_si, gB_sl, gB_sA, gB_sB_s, gB_sB_n, Nat.reduceBEq, if_true, if_false, eq_self, Bool.false_eq_true, Bool.true_eq_false, not_true_eq_false, not_false_eq_true, decide_true, decide_false, cond_true, cond_false, Bool.true_and, Bool.false_and, Bool.and_true, Bool.and_false, Bool.true_or, Bool.false_or, Bool.or_true, Bool.or_false, b2i_tt, b2i_ff]; done)), rfl⟩, ⟨by rw [ht]; exact hP, va_K.moved hW.alike hK, hD⟩⟩, hS.F ht⟩) hS.2.2 dX7_at_21
    · have c_11 : i < (nI n) := i_nge c_11
      refine lv_aload_n hx hb dX7_at_14 rfl (lv_at hl 0 rfl) ?_
      refine lv_iload_n hx hb dX7_at_15 rfl (lv_at hl 1 rfl) ?_
      refine va_iald hx hb hK hP q0 0 hq rfl (vp_yes hn c_5 c_11) dX7_at_16 ?_
      refine lv_goto (tgt := 21) hx hb dX7_at_17 (by decide) ?_
      exact W.iret (v := (f (i : Int32).toNatClampNeg)) hx hb hr (fun t ht hW => ⟨⟨(f (i : Int32).toNatClampNeg), w, rfl, ⟨(show (f (i : Int32).toNatClampNeg) = rd f n i from (by simp only [rd, eq_false c_5, eq_true c_11, gi_sl, gi_sA, gi_sB, gi_si_s, gi_si_n, gl_si, gl_sA, gl_sB, gl_sl_s, gl_sl_n, gA_si, gA_sl, gA_sB, gA_sA_s, gA_sA_n, gB_si, gB_sl, gB_sA, gB_sB_s, gB_sB_n, Nat.reduceBEq, if_true, if_false, eq_self, Bool.false_eq_true, Bool.true_eq_false, not_true_eq_false, not_false_eq_true, decide_true, decide_false, cond_true, cond_false, Bool.true_and, Bool.false_and, Bool.and_true, Bool.and_false, Bool.true_or, Bool.false_or, Bool.or_true, Bool.or_false, b2i_tt, b2i_ff]; done)), rfl⟩, ⟨by rw [ht]; exact hP, va_K.moved hW.alike hK, hD⟩⟩, hS.F ht⟩) hS.2.2 dX7_at_21
set_option maxHeartbeats 4000000 in
set_option maxRecDepth 100000 in
theorem c_atL (l : Launch) (D : va_G) (cI cJ : ClassId) (w : va_W) (q0 a n : Nat) (f : Nat → Int64) (i : Int32) (hq : w[q0]? = some (a, .inl (cJ, n, .inr (.inl f)))) (hn : n < 2 ^ 31) : CT l D (TY cI cJ) yX7_at_ (.code yX7_at_ cX7_at_ 2 (some Jvm.ClassFile.FieldType.long)) 0 0 0 w [.ref a, .int i] (QL D (TY cI cJ) (fun r u => r = rdL f n i ∧ u = w)) := by
  refine ent (by decide) (Nat.le_of_ble_eq_true rfl) ?_
  intro p e s m below meth c ls A hx hb hr hg hown hml hlocks hnm hP hK hD hS hA hN hl
  have hl : lv_has ls 2 [(0, .ref a), (1, .int i)] := hl
  refine lv_aload_n hx hb dX7_at__0 rfl (lv_at hl 0 rfl) ?_
  refine lv_ifnull hx hb dX7_at__1 ?_
  refine lv_iload_n hx hb dX7_at__4 rfl (lv_at hl 1 rfl) ?_
  refine lv_if_lt (tgt := 20) hx hb dX7_at__5 (by decide) (fun c_5 => ?_) (fun c_5 => ?_)
  · refine lv_lconst (v := 0) hx hb dX7_at__20 (by decide) ?_
    exact W.lret (v := 0) hx hb hr (fun t ht hW => ⟨⟨0, w, rfl, ⟨(show 0 = rdL f n i from (by simp only [rdL, eq_true c_5, gi_sl, gi_sA, gi_sB, gi_si_s, gi_si_n, gl_si, gl_sA, gl_sB, gl_sl_s, gl_sl_n, gA_si, gA_sl, gA_sB, gA_sA_s, gA_sA_n, gB_si, gB_sl, gB_sA, gB_sB_s, gB_sB_n, Nat.reduceBEq, if_true, if_false, eq_self, Bool.false_eq_true, Bool.true_eq_false, not_true_eq_false, not_false_eq_true, decide_true, decide_false, cond_true, cond_false, Bool.true_and, Bool.false_and, Bool.and_true, Bool.and_false, Bool.true_or, Bool.false_or, Bool.or_true, Bool.or_false, b2i_tt, b2i_ff]; done)), rfl⟩, ⟨by rw [ht]; exact hP, va_K.moved hW.alike hK, hD⟩⟩, hS.F ht⟩) hS.2.2 dX7_at__21
  · refine lv_iload_n hx hb dX7_at__8 rfl (lv_at hl 1 rfl) ?_
    refine lv_aload_n hx hb dX7_at__9 rfl (lv_at hl 0 rfl) ?_
    refine va_alen (v := (nI n)) hx hb hK hP q0 1 hq rfl rfl dX7_at__10 ?_
    refine lv_icmp_ge (tgt := 20) hx hb dX7_at__11 (by decide) (fun c_11 => ?_) (fun c_11 => ?_)
    · have c_11 : ¬ i < (nI n) := i_ge c_11
      refine lv_lconst (v := 0) hx hb dX7_at__20 (by decide) ?_
      exact W.lret (v := 0) hx hb hr (fun t ht hW => ⟨⟨0, w, rfl, ⟨(show 0 = rdL f n i from (by simp only [rdL, eq_false c_5, eq_false c_11, gi_sl, gi_sA, gi_sB, gi_si_s, gi_si_n, gl_si, gl_sA, gl_sB, gl_sl_s, gl_sl_n, gA_si, gA_sl, gA_sB, gA_sA_s, gA_sA_n, gB_si, gB_sl, gB_sA, gB_sB_s, gB_sB_n, Nat.reduceBEq, if_true, if_false, eq_self, Bool.false_eq_true, Bool.true_eq_false, not_true_eq_false, not_false_eq_true, decide_true, decide_false, cond_true, cond_false, Bool.true_and, Bool.false_and, Bool.and_true, Bool.and_false, Bool.true_or, Bool.false_or, Bool.or_true, Bool.or_false, b2i_tt, b2i_ff]; done)), rfl⟩, ⟨by rw [ht]; exact hP, va_K.moved hW.alike hK, hD⟩⟩, hS.F ht⟩) hS.2.2 dX7_at__21
    · have c_11 : i < (nI n) := i_nge c_11
      refine lv_aload_n hx hb dX7_at__14 rfl (lv_at hl 0 rfl) ?_
      refine lv_iload_n hx hb dX7_at__15 rfl (lv_at hl 1 rfl) ?_
      refine va_lald hx hb hK hP q0 1 hq rfl (vp_yes hn c_5 c_11) dX7_at__16 ?_
      refine lv_goto (tgt := 21) hx hb dX7_at__17 (by decide) ?_
      exact W.lret (v := (f (i : Int32).toNatClampNeg)) hx hb hr (fun t ht hW => ⟨⟨(f (i : Int32).toNatClampNeg), w, rfl, ⟨(show (f (i : Int32).toNatClampNeg) = rdL f n i from (by simp only [rdL, eq_false c_5, eq_true c_11, gi_sl, gi_sA, gi_sB, gi_si_s, gi_si_n, gl_si, gl_sA, gl_sB, gl_sl_s, gl_sl_n, gA_si, gA_sl, gA_sB, gA_sA_s, gA_sA_n, gB_si, gB_sl, gB_sA, gB_sB_s, gB_sB_n, Nat.reduceBEq, if_true, if_false, eq_self, Bool.false_eq_true, Bool.true_eq_false, not_true_eq_false, not_false_eq_true, decide_true, decide_false, cond_true, cond_false, Bool.true_and, Bool.false_and, Bool.and_true, Bool.and_false, Bool.true_or, Bool.false_or, Bool.or_true, Bool.or_false, b2i_tt, b2i_ff]; done)), rfl⟩, ⟨by rw [ht]; exact hP, va_K.moved hW.alike hK, hD⟩⟩, hS.F ht⟩) hS.2.2 dX7_at__21
set_option maxHeartbeats 4000000 in
set_option maxRecDepth 100000 in
theorem c_put (l : Launch) (D : va_G) (cI cJ : ClassId) (w : va_W) (q0 a n : Nat) (f : Nat → Int32) (i : Int32) (v : Int32) (hq : w[q0]? = some (a, .inl (cI, n, .inl f))) (hn : n < 2 ^ 31) : CT l D (TY cI cJ) yX7_put (.code yX7_put cX7_put 3 (none : Option FieldType)) 0 0 0 w [.ref a, .int i, .int v] (QV D (TY cI cJ) (fun u => u = w.set q0 (a, .inl (cI, n, .inl (wr f n i v))))) := by
  refine ent (by decide) (Nat.le_of_ble_eq_true rfl) ?_
  intro p e s m below meth c ls A hx hb hr hg hown hml hlocks hnm hP hK hD hS hA hN hl
  have hl : lv_has ls 3 [(0, .ref a), (1, .int i), (2, .int v)] := hl
  refine lv_aload_n hx hb dX7_put_0 rfl (lv_at hl 0 rfl) ?_
  refine lv_ifnull hx hb dX7_put_1 ?_
  refine lv_iload_n hx hb dX7_put_4 rfl (lv_at hl 1 rfl) ?_
  refine lv_if_lt (tgt := 18) hx hb dX7_put_5 (by decide) (fun c_5 => ?_) (fun c_5 => ?_)
  · exact W.vret hx hb hr (fun t ht hW => ⟨⟨w, rfl, (by rw [show wr f n i v = f from (by simp only [wr, eq_true c_5, gi_sl, gi_sA, gi_sB, gi_si_s, gi_si_n, gl_si, gl_sA, gl_sB, gl_sl_s, gl_sl_n, gA_si, gA_sl, gA_sB, gA_sA_s, gA_sA_n, gB_si, gB_sl, gB_sA, gB_sB_s, gB_sB_n, Nat.reduceBEq, if_true, if_false, eq_self, Bool.false_eq_true, Bool.true_eq_false, not_true_eq_false, not_false_eq_true, decide_true, decide_false, cond_true, cond_false, Bool.true_and, Bool.false_and, Bool.and_true, Bool.and_false, Bool.true_or, Bool.false_or, Bool.or_true, Bool.or_false, b2i_tt, b2i_ff]; done)]; exact (set_same hq).symm), ⟨by rw [ht]; exact hP, va_K.moved hW.alike hK, hD⟩⟩, hS.F ht⟩) hS.2.2 dX7_put_18
  · refine lv_iload_n hx hb dX7_put_8 rfl (lv_at hl 1 rfl) ?_
    refine lv_aload_n hx hb dX7_put_9 rfl (lv_at hl 0 rfl) ?_
    refine va_alen (v := (nI n)) hx hb hK hP q0 0 hq rfl rfl dX7_put_10 ?_
    refine lv_icmp_ge (tgt := 18) hx hb dX7_put_11 (by decide) (fun c_11 => ?_) (fun c_11 => ?_)
    · have c_11 : ¬ i < (nI n) := i_ge c_11
      exact W.vret hx hb hr (fun t ht hW => ⟨⟨w, rfl, (by rw [show wr f n i v = f from (by simp only [wr, eq_false c_5, eq_false c_11, gi_sl, gi_sA, gi_sB, gi_si_s, gi_si_n, gl_si, gl_sA, gl_sB, gl_sl_s, gl_sl_n, gA_si, gA_sl, gA_sB, gA_sA_s, gA_sA_n, gB_si, gB_sl, gB_sA, gB_sB_s, gB_sB_n, Nat.reduceBEq, if_true, if_false, eq_self, Bool.false_eq_true, Bool.true_eq_false, not_true_eq_false, not_false_eq_true, decide_true, decide_false, cond_true, cond_false, Bool.true_and, Bool.false_and, Bool.and_true, Bool.and_false, Bool.true_or, Bool.false_or, Bool.or_true, Bool.or_false, b2i_tt, b2i_ff]; done)]; exact (set_same hq).symm), ⟨by rw [ht]; exact hP, va_K.moved hW.alike hK, hD⟩⟩, hS.F ht⟩) hS.2.2 dX7_put_18
    · have c_11 : i < (nI n) := i_nge c_11
      refine lv_aload_n hx hb dX7_put_14 rfl (lv_at hl 0 rfl) ?_
      refine lv_iload_n hx hb dX7_put_15 rfl (lv_at hl 1 rfl) ?_
      refine lv_iload_n hx hb dX7_put_16 rfl (lv_at hl 2 rfl) ?_
      refine va_iast hx hb hK hP hD hS q0 0 hq rfl (vp_yes hn c_5 c_11) dX7_put_17 (fun H locs hP hD hS => ?_)
      have hP : va_P D vwCl (w.set q0 (a, .inl (cI, n, .inl (upd f (i : Int32).toNatClampNeg v)))) H := hP
      have hD : va_D A (w.set q0 (a, .inl (cI, n, .inl (upd f (i : Int32).toNatClampNeg v)))) := hD
      exact W.vret hx hb hr (fun t ht hW => ⟨⟨(w.set q0 (a, .inl (cI, n, .inl (upd f (i : Int32).toNatClampNeg v)))), rfl, (by rw [show wr f n i v = upd f i.toNatClampNeg v from (by simp only [wr, eq_false c_5, eq_true c_11, gi_sl, gi_sA, gi_sB, gi_si_s, gi_si_n, gl_si, gl_sA, gl_sB, gl_sl_s, gl_sl_n, gA_si, gA_sl, gA_sB, gA_sA_s, gA_sA_n, gB_si, gB_sl, gB_sA, gB_sB_s, gB_sB_n, Nat.reduceBEq, if_true, if_false, eq_self, Bool.false_eq_true, Bool.true_eq_false, not_true_eq_false, not_false_eq_true, decide_true, decide_false, cond_true, cond_false, Bool.true_and, Bool.false_and, Bool.and_true, Bool.and_false, Bool.true_or, Bool.false_or, Bool.or_true, Bool.or_false, b2i_tt, b2i_ff]; done)]), ⟨by rw [ht]; exact hP, va_K.moved hW.alike hK, hD⟩⟩, hS.F ht⟩) hS.2.2 dX7_put_18
set_option maxHeartbeats 4000000 in
set_option maxRecDepth 100000 in
theorem c_putL (l : Launch) (D : va_G) (cI cJ : ClassId) (w : va_W) (q0 a n : Nat) (f : Nat → Int64) (i : Int32) (v : Int64) (hq : w[q0]? = some (a, .inl (cJ, n, .inr (.inl f)))) (hn : n < 2 ^ 31) : CT l D (TY cI cJ) yX7_put_ (.code yX7_put_ cX7_put_ 4 (none : Option FieldType)) 0 0 0 w [.ref a, .int i, .long v] (QV D (TY cI cJ) (fun u => u = w.set q0 (a, .inl (cJ, n, .inr (.inl (wrL f n i v)))))) := by
  refine ent (by decide) (Nat.le_of_ble_eq_true rfl) ?_
  intro p e s m below meth c ls A hx hb hr hg hown hml hlocks hnm hP hK hD hS hA hN hl
  have hl : lv_has ls 4 [(0, .ref a), (1, .int i), (2, .long v)] := hl
  refine lv_aload_n hx hb dX7_put__0 rfl (lv_at hl 0 rfl) ?_
  refine lv_ifnull hx hb dX7_put__1 ?_
  refine lv_iload_n hx hb dX7_put__4 rfl (lv_at hl 1 rfl) ?_
  refine lv_if_lt (tgt := 18) hx hb dX7_put__5 (by decide) (fun c_5 => ?_) (fun c_5 => ?_)
  · exact W.vret hx hb hr (fun t ht hW => ⟨⟨w, rfl, (by rw [show wrL f n i v = f from (by simp only [wrL, eq_true c_5, gi_sl, gi_sA, gi_sB, gi_si_s, gi_si_n, gl_si, gl_sA, gl_sB, gl_sl_s, gl_sl_n, gA_si, gA_sl, gA_sB, gA_sA_s, gA_sA_n, gB_si, gB_sl, gB_sA, gB_sB_s, gB_sB_n, Nat.reduceBEq, if_true, if_false, eq_self, Bool.false_eq_true, Bool.true_eq_false, not_true_eq_false, not_false_eq_true, decide_true, decide_false, cond_true, cond_false, Bool.true_and, Bool.false_and, Bool.and_true, Bool.and_false, Bool.true_or, Bool.false_or, Bool.or_true, Bool.or_false, b2i_tt, b2i_ff]; done)]; exact (set_same hq).symm), ⟨by rw [ht]; exact hP, va_K.moved hW.alike hK, hD⟩⟩, hS.F ht⟩) hS.2.2 dX7_put__18
  · refine lv_iload_n hx hb dX7_put__8 rfl (lv_at hl 1 rfl) ?_
    refine lv_aload_n hx hb dX7_put__9 rfl (lv_at hl 0 rfl) ?_
    refine va_alen (v := (nI n)) hx hb hK hP q0 1 hq rfl rfl dX7_put__10 ?_
    refine lv_icmp_ge (tgt := 18) hx hb dX7_put__11 (by decide) (fun c_11 => ?_) (fun c_11 => ?_)
    · have c_11 : ¬ i < (nI n) := i_ge c_11
      exact W.vret hx hb hr (fun t ht hW => ⟨⟨w, rfl, (by rw [show wrL f n i v = f from (by simp only [wrL, eq_false c_5, eq_false c_11, gi_sl, gi_sA, gi_sB, gi_si_s, gi_si_n, gl_si, gl_sA, gl_sB, gl_sl_s, gl_sl_n, gA_si, gA_sl, gA_sB, gA_sA_s, gA_sA_n, gB_si, gB_sl, gB_sA, gB_sB_s, gB_sB_n, Nat.reduceBEq, if_true, if_false, eq_self, Bool.false_eq_true, Bool.true_eq_false, not_true_eq_false, not_false_eq_true, decide_true, decide_false, cond_true, cond_false, Bool.true_and, Bool.false_and, Bool.and_true, Bool.and_false, Bool.true_or, Bool.false_or, Bool.or_true, Bool.or_false, b2i_tt, b2i_ff]; done)]; exact (set_same hq).symm), ⟨by rw [ht]; exact hP, va_K.moved hW.alike hK, hD⟩⟩, hS.F ht⟩) hS.2.2 dX7_put__18
    · have c_11 : i < (nI n) := i_nge c_11
      refine lv_aload_n hx hb dX7_put__14 rfl (lv_at hl 0 rfl) ?_
      refine lv_iload_n hx hb dX7_put__15 rfl (lv_at hl 1 rfl) ?_
      refine lv_lload_n hx hb dX7_put__16 rfl (lv_at hl 2 rfl) ?_
      refine va_last hx hb hK hP hD hS q0 1 hq rfl (vp_yes hn c_5 c_11) dX7_put__17 (fun H locs hP hD hS => ?_)
      have hP : va_P D vwCl (w.set q0 (a, .inl (cJ, n, .inr (.inl (vp_updL f (i : Int32).toNatClampNeg v))))) H := hP
      have hD : va_D A (w.set q0 (a, .inl (cJ, n, .inr (.inl (vp_updL f (i : Int32).toNatClampNeg v))))) := hD
      exact W.vret hx hb hr (fun t ht hW => ⟨⟨(w.set q0 (a, .inl (cJ, n, .inr (.inl (vp_updL f (i : Int32).toNatClampNeg v))))), rfl, (by rw [show wrL f n i v = vp_updL f i.toNatClampNeg v from (by simp only [wrL, eq_false c_5, eq_true c_11, gi_sl, gi_sA, gi_sB, gi_si_s, gi_si_n, gl_si, gl_sA, gl_sB, gl_sl_s, gl_sl_n, gA_si, gA_sl, gA_sB, gA_sA_s, gA_sA_n, gB_si, gB_sl, gB_sA, gB_sB_s, gB_sB_n, Nat.reduceBEq, if_true, if_false, eq_self, Bool.false_eq_true, Bool.true_eq_false, not_true_eq_false, not_false_eq_true, decide_true, decide_false, cond_true, cond_false, Bool.true_and, Bool.false_and, Bool.and_true, Bool.and_false, Bool.true_or, Bool.false_or, Bool.or_true, Bool.or_false, b2i_tt, b2i_ff]; done)]), ⟨by rw [ht]; exact hP, va_K.moved hW.alike hK, hD⟩⟩, hS.F ht⟩) hS.2.2 dX7_put__18
set_option maxHeartbeats 4000000 in
set_option maxRecDepth 100000 in
theorem c_bit (l : Launch) (D : va_G) (cI cJ : ClassId) (w : va_W) (n : Int32) : CT l D (TY cI cJ) yX7_bit (.code yX7_bit cX7_bit 1 (some Jvm.ClassFile.FieldType.long)) 0 0 0 w [.int n] (QL D (TY cI cJ) (fun r u => r = (bitL n) ∧ u = w)) := by
  refine ent (by decide) (Nat.le_of_ble_eq_true rfl) ?_
  intro p e s m below meth c ls A hx hb hr hg hown hml hlocks hnm hP hK hD hS hA hN hl
  have hl : lv_has ls 1 [(0, .int n)] := hl
  refine lv_lconst (v := 1) hx hb dX7_bit_0 (by decide) ?_
  refine lv_iload_n hx hb dX7_bit_1 rfl (lv_at hl 0 rfl) ?_
  refine lv_lshl (v := (sh 1 n)) hx hb dX7_bit_2 rfl ?_
  exact W.lret (v := (sh 1 n)) hx hb hr (fun t ht hW => ⟨⟨(sh 1 n), w, rfl, ⟨(show (sh 1 n) = (bitL n) from (by first | with_reducible rfl | (simp only [bitL, gi_sl, gi_sA, gi_sB, gi_si_s, gi_si_n, gl_si, gl_sA, gl_sB, gl_sl_s, gl_sl_n, gA_si, gA_sl, gA_sB, gA_sA_s, gA_sA_n, gB_si, gB_sl, gB_sA, gB_sB_s, gB_sB_n, Nat.reduceBEq, if_true, if_false, eq_self, Bool.false_eq_true, Bool.true_eq_false, not_true_eq_false, not_false_eq_true, decide_true, decide_false, cond_true, cond_false, Bool.true_and, Bool.false_and, Bool.and_true, Bool.and_false, Bool.true_or, Bool.false_or, Bool.or_true, Bool.or_false, b2i_tt, b2i_ff]; done))), rfl⟩, ⟨by rw [ht]; exact hP, va_K.moved hW.alike hK, hD⟩⟩, hS.F ht⟩) hS.2.2 dX7_bit_3
set_option maxHeartbeats 4000000 in
set_option maxRecDepth 100000 in
theorem c_has (l : Launch) (D : va_G) (cI cJ : ClassId) (w : va_W) (x : Int64) (n : Int32) : CT l D (TY cI cJ) yX7_has (.code yX7_has cX7_has 3 (some Jvm.ClassFile.FieldType.boolean)) 0 0 0 w [.long x, .int n] (QI D (TY cI cJ) (fun r u => r = (b2i (hs x n)) ∧ u = w)) := by
  refine ent (by decide) (Nat.le_of_ble_eq_true rfl) ?_
  intro p e s m below meth c ls A hx hb hr hg hown hml hlocks hnm hP hK hD hS hA hN hl
  have hl : lv_has ls 3 [(0, .long x), (2, .int n)] := hl
  refine lv_lload_n hx hb dX7_has_0 rfl (lv_at hl 0 rfl) ?_
  refine lv_iload_n hx hb dX7_has_1 rfl (lv_at hl 1 rfl) ?_
  refine lv_lushr (v := (us x n)) hx hb dX7_has_2 rfl ?_
  refine lv_lconst (v := 1) hx hb dX7_has_3 (by decide) ?_
  refine lv_land hx hb dX7_has_4 ?_
  refine lv_lconst (v := 0) hx hb dX7_has_5 (by decide) ?_
  refine W.lcmp hx hb dX7_has_6 ?_
  refine lv_if_eq (tgt := 14) hx hb dX7_has_7 (by decide) (fun c_7 => ?_) (fun c_7 => ?_)
  · have c_7 : ((us x n) &&& 1) = 0 := lcmp_0 c_7
    refine lv_iconst (v := 0) hx hb dX7_has_14 (by decide) ?_
    exact W.zret (v := 0) hx hb hr rfl (fun t ht hW => ⟨⟨0, w, rfl, ⟨(show (0 : Int32) = (b2i (hs x n)) from (by simp only [hs, eq_true c_7, gi_sl, gi_sA, gi_sB, gi_si_s, gi_si_n, gl_si, gl_sA, gl_sB, gl_sl_s, gl_sl_n, gA_si, gA_sl, gA_sB, gA_sA_s, gA_sA_n, gB_si, gB_sl, gB_sA, gB_sB_s, gB_sB_n, Nat.reduceBEq, if_true, if_false, eq_self, Bool.false_eq_true, Bool.true_eq_false, not_true_eq_false, not_false_eq_true, decide_true, decide_false, cond_true, cond_false, Bool.true_and, Bool.false_and, Bool.and_true, Bool.and_false, Bool.true_or, Bool.false_or, Bool.or_true, Bool.or_false, b2i_tt, b2i_ff]; done)), rfl⟩, ⟨by rw [ht]; exact hP, va_K.moved hW.alike hK, hD⟩⟩, hS.F ht⟩) hS.2.2 dX7_has_15
  · have c_7 : ¬ ((us x n) &&& 1) = 0 := lcmp_1 c_7
    refine lv_iconst (v := 1) hx hb dX7_has_10 (by decide) ?_
    refine lv_goto (tgt := 15) hx hb dX7_has_11 (by decide) ?_
    exact W.zret (v := 1) hx hb hr rfl (fun t ht hW => ⟨⟨1, w, rfl, ⟨(show (1 : Int32) = (b2i (hs x n)) from (by simp only [hs, eq_false c_7, gi_sl, gi_sA, gi_sB, gi_si_s, gi_si_n, gl_si, gl_sA, gl_sB, gl_sl_s, gl_sl_n, gA_si, gA_sl, gA_sB, gA_sA_s, gA_sA_n, gB_si, gB_sl, gB_sA, gB_sB_s, gB_sB_n, Nat.reduceBEq, if_true, if_false, eq_self, Bool.false_eq_true, Bool.true_eq_false, not_true_eq_false, not_false_eq_true, decide_true, decide_false, cond_true, cond_false, Bool.true_and, Bool.false_and, Bool.and_true, Bool.and_false, Bool.true_or, Bool.false_or, Bool.or_true, Bool.or_false, b2i_tt, b2i_ff]; done)), rfl⟩, ⟨by rw [ht]; exact hP, va_K.moved hW.alike hK, hD⟩⟩, hS.F ht⟩) hS.2.2 dX7_has_15
set_option maxHeartbeats 4000000 in
set_option maxRecDepth 100000 in
theorem c_bitCount (l : Launch) (D : va_G) (cI cJ : ClassId) (w : va_W) (x : Int64) : CT l D (TY cI cJ) yJ13_bitCount_95d88 (.code yJ13_bitCount_95d88 cJ13_bitCount_95d88 2 (some Jvm.ClassFile.FieldType.int)) 0 0 0 w [.long x] (QI D (TY cI cJ) (fun r u => r = (bc x) ∧ u = w)) := by
  refine ent (by decide) (Nat.le_of_ble_eq_true rfl) ?_
  intro p e s m below meth c ls A hx hb hr hg hown hml hlocks hnm hP hK hD hS hA hN hl
  have hl : lv_has ls 2 [(0, .long x)] := hl
  refine lv_lload_n hx hb dJ13_bitCount_95d88_0 rfl (lv_at hl 0 rfl) ?_
  refine lv_lload_n hx hb dJ13_bitCount_95d88_1 rfl (lv_at hl 0 rfl) ?_
  refine lv_iconst (v := 1) hx hb dJ13_bitCount_95d88_2 (by decide) ?_
  refine lv_lushr (v := (us x 1)) hx hb dJ13_bitCount_95d88_3 rfl ?_
  refine lv_ldc2 (v := 6148914691236517205) hx hb hown (hg _ mw_65) dJ13_bitCount_95d88_4 ?_
  refine lv_land hx hb dJ13_bitCount_95d88_7 ?_
  refine lv_lsub hx hb dJ13_bitCount_95d88_8 ?_
  refine lv_lstore_n (lv' := [(0, .long (x - ((us x 1) &&& 6148914691236517205)))]) hx hb dJ13_bitCount_95d88_9 rfl hl (by decide) rfl (fun ls hl => ?_)
  refine lv_lload_n hx hb dJ13_bitCount_95d88_10 rfl (lv_at hl 0 rfl) ?_
  refine lv_ldc2 (v := 3689348814741910323) hx hb hown (hg _ mw_66) dJ13_bitCount_95d88_11 ?_
  refine lv_land hx hb dJ13_bitCount_95d88_14 ?_
  refine lv_lload_n hx hb dJ13_bitCount_95d88_15 rfl (lv_at hl 0 rfl) ?_
  refine lv_iconst (v := 2) hx hb dJ13_bitCount_95d88_16 (by decide) ?_
  refine lv_lushr (v := (us (x - ((us x 1) &&& 6148914691236517205)) 2)) hx hb dJ13_bitCount_95d88_17 rfl ?_
  refine lv_ldc2 (v := 3689348814741910323) hx hb hown (hg _ mw_66) dJ13_bitCount_95d88_18 ?_
  refine lv_land hx hb dJ13_bitCount_95d88_21 ?_
  refine lv_ladd hx hb dJ13_bitCount_95d88_22 ?_
  refine lv_lstore_n (lv' := [(0, .long (((x - ((us x 1) &&& 6148914691236517205)) &&& 3689348814741910323) + ((us (x - ((us x 1) &&& 6148914691236517205)) 2) &&& 3689348814741910323)))]) hx hb dJ13_bitCount_95d88_23 rfl hl (by decide) rfl (fun ls hl => ?_)
  refine lv_lload_n hx hb dJ13_bitCount_95d88_24 rfl (lv_at hl 0 rfl) ?_
  refine lv_lload_n hx hb dJ13_bitCount_95d88_25 rfl (lv_at hl 0 rfl) ?_
  refine lv_iconst (v := 4) hx hb dJ13_bitCount_95d88_26 (by decide) ?_
  refine lv_lushr (v := (us (((x - ((us x 1) &&& 6148914691236517205)) &&& 3689348814741910323) + ((us (x - ((us x 1) &&& 6148914691236517205)) 2) &&& 3689348814741910323)) 4)) hx hb dJ13_bitCount_95d88_27 rfl ?_
  refine lv_ladd hx hb dJ13_bitCount_95d88_28 ?_
  refine lv_ldc2 (v := 1085102592571150095) hx hb hown (hg _ mw_67) dJ13_bitCount_95d88_29 ?_
  refine lv_land hx hb dJ13_bitCount_95d88_32 ?_
  refine lv_lstore_n (lv' := [(0, .long (((((x - ((us x 1) &&& 6148914691236517205)) &&& 3689348814741910323) + ((us (x - ((us x 1) &&& 6148914691236517205)) 2) &&& 3689348814741910323)) + (us (((x - ((us x 1) &&& 6148914691236517205)) &&& 3689348814741910323) + ((us (x - ((us x 1) &&& 6148914691236517205)) 2) &&& 3689348814741910323)) 4)) &&& 1085102592571150095))]) hx hb dJ13_bitCount_95d88_33 rfl hl (by decide) rfl (fun ls hl => ?_)
  refine lv_lload_n hx hb dJ13_bitCount_95d88_34 rfl (lv_at hl 0 rfl) ?_
  refine lv_lload_n hx hb dJ13_bitCount_95d88_35 rfl (lv_at hl 0 rfl) ?_
  refine lv_bipush (v := 8) hx hb dJ13_bitCount_95d88_36 (by decide) ?_
  refine lv_lushr (v := (us (((((x - ((us x 1) &&& 6148914691236517205)) &&& 3689348814741910323) + ((us (x - ((us x 1) &&& 6148914691236517205)) 2) &&& 3689348814741910323)) + (us (((x - ((us x 1) &&& 6148914691236517205)) &&& 3689348814741910323) + ((us (x - ((us x 1) &&& 6148914691236517205)) 2) &&& 3689348814741910323)) 4)) &&& 1085102592571150095) 8)) hx hb dJ13_bitCount_95d88_38 rfl ?_
  refine lv_ladd hx hb dJ13_bitCount_95d88_39 ?_
  refine lv_lstore_n (lv' := [(0, .long ((((((x - ((us x 1) &&& 6148914691236517205)) &&& 3689348814741910323) + ((us (x - ((us x 1) &&& 6148914691236517205)) 2) &&& 3689348814741910323)) + (us (((x - ((us x 1) &&& 6148914691236517205)) &&& 3689348814741910323) + ((us (x - ((us x 1) &&& 6148914691236517205)) 2) &&& 3689348814741910323)) 4)) &&& 1085102592571150095) + (us (((((x - ((us x 1) &&& 6148914691236517205)) &&& 3689348814741910323) + ((us (x - ((us x 1) &&& 6148914691236517205)) 2) &&& 3689348814741910323)) + (us (((x - ((us x 1) &&& 6148914691236517205)) &&& 3689348814741910323) + ((us (x - ((us x 1) &&& 6148914691236517205)) 2) &&& 3689348814741910323)) 4)) &&& 1085102592571150095) 8)))]) hx hb dJ13_bitCount_95d88_40 rfl hl (by decide) rfl (fun ls hl => ?_)
  refine lv_lload_n hx hb dJ13_bitCount_95d88_41 rfl (lv_at hl 0 rfl) ?_
  refine lv_lload_n hx hb dJ13_bitCount_95d88_42 rfl (lv_at hl 0 rfl) ?_
  refine lv_bipush (v := 16) hx hb dJ13_bitCount_95d88_43 (by decide) ?_
  refine lv_lushr (v := (us ((((((x - ((us x 1) &&& 6148914691236517205)) &&& 3689348814741910323) + ((us (x - ((us x 1) &&& 6148914691236517205)) 2) &&& 3689348814741910323)) + (us (((x - ((us x 1) &&& 6148914691236517205)) &&& 3689348814741910323) + ((us (x - ((us x 1) &&& 6148914691236517205)) 2) &&& 3689348814741910323)) 4)) &&& 1085102592571150095) + (us (((((x - ((us x 1) &&& 6148914691236517205)) &&& 3689348814741910323) + ((us (x - ((us x 1) &&& 6148914691236517205)) 2) &&& 3689348814741910323)) + (us (((x - ((us x 1) &&& 6148914691236517205)) &&& 3689348814741910323) + ((us (x - ((us x 1) &&& 6148914691236517205)) 2) &&& 3689348814741910323)) 4)) &&& 1085102592571150095) 8)) 16)) hx hb dJ13_bitCount_95d88_45 rfl ?_
  refine lv_ladd hx hb dJ13_bitCount_95d88_46 ?_
  refine lv_lstore_n (lv' := [(0, .long (((((((x - ((us x 1) &&& 6148914691236517205)) &&& 3689348814741910323) + ((us (x - ((us x 1) &&& 6148914691236517205)) 2) &&& 3689348814741910323)) + (us (((x - ((us x 1) &&& 6148914691236517205)) &&& 3689348814741910323) + ((us (x - ((us x 1) &&& 6148914691236517205)) 2) &&& 3689348814741910323)) 4)) &&& 1085102592571150095) + (us (((((x - ((us x 1) &&& 6148914691236517205)) &&& 3689348814741910323) + ((us (x - ((us x 1) &&& 6148914691236517205)) 2) &&& 3689348814741910323)) + (us (((x - ((us x 1) &&& 6148914691236517205)) &&& 3689348814741910323) + ((us (x - ((us x 1) &&& 6148914691236517205)) 2) &&& 3689348814741910323)) 4)) &&& 1085102592571150095) 8)) + (us ((((((x - ((us x 1) &&& 6148914691236517205)) &&& 3689348814741910323) + ((us (x - ((us x 1) &&& 6148914691236517205)) 2) &&& 3689348814741910323)) + (us (((x - ((us x 1) &&& 6148914691236517205)) &&& 3689348814741910323) + ((us (x - ((us x 1) &&& 6148914691236517205)) 2) &&& 3689348814741910323)) 4)) &&& 1085102592571150095) + (us (((((x - ((us x 1) &&& 6148914691236517205)) &&& 3689348814741910323) + ((us (x - ((us x 1) &&& 6148914691236517205)) 2) &&& 3689348814741910323)) + (us (((x - ((us x 1) &&& 6148914691236517205)) &&& 3689348814741910323) + ((us (x - ((us x 1) &&& 6148914691236517205)) 2) &&& 3689348814741910323)) 4)) &&& 1085102592571150095) 8)) 16)))]) hx hb dJ13_bitCount_95d88_47 rfl hl (by decide) rfl (fun ls hl => ?_)
  refine lv_lload_n hx hb dJ13_bitCount_95d88_48 rfl (lv_at hl 0 rfl) ?_
  refine lv_lload_n hx hb dJ13_bitCount_95d88_49 rfl (lv_at hl 0 rfl) ?_
  refine lv_bipush (v := 32) hx hb dJ13_bitCount_95d88_50 (by decide) ?_
  refine lv_lushr (v := (us (((((((x - ((us x 1) &&& 6148914691236517205)) &&& 3689348814741910323) + ((us (x - ((us x 1) &&& 6148914691236517205)) 2) &&& 3689348814741910323)) + (us (((x - ((us x 1) &&& 6148914691236517205)) &&& 3689348814741910323) + ((us (x - ((us x 1) &&& 6148914691236517205)) 2) &&& 3689348814741910323)) 4)) &&& 1085102592571150095) + (us (((((x - ((us x 1) &&& 6148914691236517205)) &&& 3689348814741910323) + ((us (x - ((us x 1) &&& 6148914691236517205)) 2) &&& 3689348814741910323)) + (us (((x - ((us x 1) &&& 6148914691236517205)) &&& 3689348814741910323) + ((us (x - ((us x 1) &&& 6148914691236517205)) 2) &&& 3689348814741910323)) 4)) &&& 1085102592571150095) 8)) + (us ((((((x - ((us x 1) &&& 6148914691236517205)) &&& 3689348814741910323) + ((us (x - ((us x 1) &&& 6148914691236517205)) 2) &&& 3689348814741910323)) + (us (((x - ((us x 1) &&& 6148914691236517205)) &&& 3689348814741910323) + ((us (x - ((us x 1) &&& 6148914691236517205)) 2) &&& 3689348814741910323)) 4)) &&& 1085102592571150095) + (us (((((x - ((us x 1) &&& 6148914691236517205)) &&& 3689348814741910323) + ((us (x - ((us x 1) &&& 6148914691236517205)) 2) &&& 3689348814741910323)) + (us (((x - ((us x 1) &&& 6148914691236517205)) &&& 3689348814741910323) + ((us (x - ((us x 1) &&& 6148914691236517205)) 2) &&& 3689348814741910323)) 4)) &&& 1085102592571150095) 8)) 16)) 32)) hx hb dJ13_bitCount_95d88_52 rfl ?_
  refine lv_ladd hx hb dJ13_bitCount_95d88_53 ?_
  refine lv_lstore_n (lv' := [(0, .long ((((((((x - ((us x 1) &&& 6148914691236517205)) &&& 3689348814741910323) + ((us (x - ((us x 1) &&& 6148914691236517205)) 2) &&& 3689348814741910323)) + (us (((x - ((us x 1) &&& 6148914691236517205)) &&& 3689348814741910323) + ((us (x - ((us x 1) &&& 6148914691236517205)) 2) &&& 3689348814741910323)) 4)) &&& 1085102592571150095) + (us (((((x - ((us x 1) &&& 6148914691236517205)) &&& 3689348814741910323) + ((us (x - ((us x 1) &&& 6148914691236517205)) 2) &&& 3689348814741910323)) + (us (((x - ((us x 1) &&& 6148914691236517205)) &&& 3689348814741910323) + ((us (x - ((us x 1) &&& 6148914691236517205)) 2) &&& 3689348814741910323)) 4)) &&& 1085102592571150095) 8)) + (us ((((((x - ((us x 1) &&& 6148914691236517205)) &&& 3689348814741910323) + ((us (x - ((us x 1) &&& 6148914691236517205)) 2) &&& 3689348814741910323)) + (us (((x - ((us x 1) &&& 6148914691236517205)) &&& 3689348814741910323) + ((us (x - ((us x 1) &&& 6148914691236517205)) 2) &&& 3689348814741910323)) 4)) &&& 1085102592571150095) + (us (((((x - ((us x 1) &&& 6148914691236517205)) &&& 3689348814741910323) + ((us (x - ((us x 1) &&& 6148914691236517205)) 2) &&& 3689348814741910323)) + (us (((x - ((us x 1) &&& 6148914691236517205)) &&& 3689348814741910323) + ((us (x - ((us x 1) &&& 6148914691236517205)) 2) &&& 3689348814741910323)) 4)) &&& 1085102592571150095) 8)) 16)) + (us (((((((x - ((us x 1) &&& 6148914691236517205)) &&& 3689348814741910323) + ((us (x - ((us x 1) &&& 6148914691236517205)) 2) &&& 3689348814741910323)) + (us (((x - ((us x 1) &&& 6148914691236517205)) &&& 3689348814741910323) + ((us (x - ((us x 1) &&& 6148914691236517205)) 2) &&& 3689348814741910323)) 4)) &&& 1085102592571150095) + (us (((((x - ((us x 1) &&& 6148914691236517205)) &&& 3689348814741910323) + ((us (x - ((us x 1) &&& 6148914691236517205)) 2) &&& 3689348814741910323)) + (us (((x - ((us x 1) &&& 6148914691236517205)) &&& 3689348814741910323) + ((us (x - ((us x 1) &&& 6148914691236517205)) 2) &&& 3689348814741910323)) 4)) &&& 1085102592571150095) 8)) + (us ((((((x - ((us x 1) &&& 6148914691236517205)) &&& 3689348814741910323) + ((us (x - ((us x 1) &&& 6148914691236517205)) 2) &&& 3689348814741910323)) + (us (((x - ((us x 1) &&& 6148914691236517205)) &&& 3689348814741910323) + ((us (x - ((us x 1) &&& 6148914691236517205)) 2) &&& 3689348814741910323)) 4)) &&& 1085102592571150095) + (us (((((x - ((us x 1) &&& 6148914691236517205)) &&& 3689348814741910323) + ((us (x - ((us x 1) &&& 6148914691236517205)) 2) &&& 3689348814741910323)) + (us (((x - ((us x 1) &&& 6148914691236517205)) &&& 3689348814741910323) + ((us (x - ((us x 1) &&& 6148914691236517205)) 2) &&& 3689348814741910323)) 4)) &&& 1085102592571150095) 8)) 16)) 32)))]) hx hb dJ13_bitCount_95d88_54 rfl hl (by decide) rfl (fun ls hl => ?_)
  refine lv_lload_n hx hb dJ13_bitCount_95d88_55 rfl (lv_at hl 0 rfl) ?_
  refine lv_l2i hx hb dJ13_bitCount_95d88_56 rfl ?_
  refine lv_bipush (v := 127) hx hb dJ13_bitCount_95d88_57 (by decide) ?_
  refine lv_iand hx hb dJ13_bitCount_95d88_59 ?_
  exact W.iret (v := (((((((((x - ((us x 1) &&& 6148914691236517205)) &&& 3689348814741910323) + ((us (x - ((us x 1) &&& 6148914691236517205)) 2) &&& 3689348814741910323)) + (us (((x - ((us x 1) &&& 6148914691236517205)) &&& 3689348814741910323) + ((us (x - ((us x 1) &&& 6148914691236517205)) 2) &&& 3689348814741910323)) 4)) &&& 1085102592571150095) + (us (((((x - ((us x 1) &&& 6148914691236517205)) &&& 3689348814741910323) + ((us (x - ((us x 1) &&& 6148914691236517205)) 2) &&& 3689348814741910323)) + (us (((x - ((us x 1) &&& 6148914691236517205)) &&& 3689348814741910323) + ((us (x - ((us x 1) &&& 6148914691236517205)) 2) &&& 3689348814741910323)) 4)) &&& 1085102592571150095) 8)) + (us ((((((x - ((us x 1) &&& 6148914691236517205)) &&& 3689348814741910323) + ((us (x - ((us x 1) &&& 6148914691236517205)) 2) &&& 3689348814741910323)) + (us (((x - ((us x 1) &&& 6148914691236517205)) &&& 3689348814741910323) + ((us (x - ((us x 1) &&& 6148914691236517205)) 2) &&& 3689348814741910323)) 4)) &&& 1085102592571150095) + (us (((((x - ((us x 1) &&& 6148914691236517205)) &&& 3689348814741910323) + ((us (x - ((us x 1) &&& 6148914691236517205)) 2) &&& 3689348814741910323)) + (us (((x - ((us x 1) &&& 6148914691236517205)) &&& 3689348814741910323) + ((us (x - ((us x 1) &&& 6148914691236517205)) 2) &&& 3689348814741910323)) 4)) &&& 1085102592571150095) 8)) 16)) + (us (((((((x - ((us x 1) &&& 6148914691236517205)) &&& 3689348814741910323) + ((us (x - ((us x 1) &&& 6148914691236517205)) 2) &&& 3689348814741910323)) + (us (((x - ((us x 1) &&& 6148914691236517205)) &&& 3689348814741910323) + ((us (x - ((us x 1) &&& 6148914691236517205)) 2) &&& 3689348814741910323)) 4)) &&& 1085102592571150095) + (us (((((x - ((us x 1) &&& 6148914691236517205)) &&& 3689348814741910323) + ((us (x - ((us x 1) &&& 6148914691236517205)) 2) &&& 3689348814741910323)) + (us (((x - ((us x 1) &&& 6148914691236517205)) &&& 3689348814741910323) + ((us (x - ((us x 1) &&& 6148914691236517205)) 2) &&& 3689348814741910323)) 4)) &&& 1085102592571150095) 8)) + (us ((((((x - ((us x 1) &&& 6148914691236517205)) &&& 3689348814741910323) + ((us (x - ((us x 1) &&& 6148914691236517205)) 2) &&& 3689348814741910323)) + (us (((x - ((us x 1) &&& 6148914691236517205)) &&& 3689348814741910323) + ((us (x - ((us x 1) &&& 6148914691236517205)) 2) &&& 3689348814741910323)) 4)) &&& 1085102592571150095) + (us (((((x - ((us x 1) &&& 6148914691236517205)) &&& 3689348814741910323) + ((us (x - ((us x 1) &&& 6148914691236517205)) 2) &&& 3689348814741910323)) + (us (((x - ((us x 1) &&& 6148914691236517205)) &&& 3689348814741910323) + ((us (x - ((us x 1) &&& 6148914691236517205)) 2) &&& 3689348814741910323)) 4)) &&& 1085102592571150095) 8)) 16)) 32)).toInt32 &&& 127)) hx hb hr (fun t ht hW => ⟨⟨(((((((((x - ((us x 1) &&& 6148914691236517205)) &&& 3689348814741910323) + ((us (x - ((us x 1) &&& 6148914691236517205)) 2) &&& 3689348814741910323)) + (us (((x - ((us x 1) &&& 6148914691236517205)) &&& 3689348814741910323) + ((us (x - ((us x 1) &&& 6148914691236517205)) 2) &&& 3689348814741910323)) 4)) &&& 1085102592571150095) + (us (((((x - ((us x 1) &&& 6148914691236517205)) &&& 3689348814741910323) + ((us (x - ((us x 1) &&& 6148914691236517205)) 2) &&& 3689348814741910323)) + (us (((x - ((us x 1) &&& 6148914691236517205)) &&& 3689348814741910323) + ((us (x - ((us x 1) &&& 6148914691236517205)) 2) &&& 3689348814741910323)) 4)) &&& 1085102592571150095) 8)) + (us ((((((x - ((us x 1) &&& 6148914691236517205)) &&& 3689348814741910323) + ((us (x - ((us x 1) &&& 6148914691236517205)) 2) &&& 3689348814741910323)) + (us (((x - ((us x 1) &&& 6148914691236517205)) &&& 3689348814741910323) + ((us (x - ((us x 1) &&& 6148914691236517205)) 2) &&& 3689348814741910323)) 4)) &&& 1085102592571150095) + (us (((((x - ((us x 1) &&& 6148914691236517205)) &&& 3689348814741910323) + ((us (x - ((us x 1) &&& 6148914691236517205)) 2) &&& 3689348814741910323)) + (us (((x - ((us x 1) &&& 6148914691236517205)) &&& 3689348814741910323) + ((us (x - ((us x 1) &&& 6148914691236517205)) 2) &&& 3689348814741910323)) 4)) &&& 1085102592571150095) 8)) 16)) + (us (((((((x - ((us x 1) &&& 6148914691236517205)) &&& 3689348814741910323) + ((us (x - ((us x 1) &&& 6148914691236517205)) 2) &&& 3689348814741910323)) + (us (((x - ((us x 1) &&& 6148914691236517205)) &&& 3689348814741910323) + ((us (x - ((us x 1) &&& 6148914691236517205)) 2) &&& 3689348814741910323)) 4)) &&& 1085102592571150095) + (us (((((x - ((us x 1) &&& 6148914691236517205)) &&& 3689348814741910323) + ((us (x - ((us x 1) &&& 6148914691236517205)) 2) &&& 3689348814741910323)) + (us (((x - ((us x 1) &&& 6148914691236517205)) &&& 3689348814741910323) + ((us (x - ((us x 1) &&& 6148914691236517205)) 2) &&& 3689348814741910323)) 4)) &&& 1085102592571150095) 8)) + (us ((((((x - ((us x 1) &&& 6148914691236517205)) &&& 3689348814741910323) + ((us (x - ((us x 1) &&& 6148914691236517205)) 2) &&& 3689348814741910323)) + (us (((x - ((us x 1) &&& 6148914691236517205)) &&& 3689348814741910323) + ((us (x - ((us x 1) &&& 6148914691236517205)) 2) &&& 3689348814741910323)) 4)) &&& 1085102592571150095) + (us (((((x - ((us x 1) &&& 6148914691236517205)) &&& 3689348814741910323) + ((us (x - ((us x 1) &&& 6148914691236517205)) 2) &&& 3689348814741910323)) + (us (((x - ((us x 1) &&& 6148914691236517205)) &&& 3689348814741910323) + ((us (x - ((us x 1) &&& 6148914691236517205)) 2) &&& 3689348814741910323)) 4)) &&& 1085102592571150095) 8)) 16)) 32)).toInt32 &&& 127), w, rfl, ⟨(show (((((((((x - ((us x 1) &&& 6148914691236517205)) &&& 3689348814741910323) + ((us (x - ((us x 1) &&& 6148914691236517205)) 2) &&& 3689348814741910323)) + (us (((x - ((us x 1) &&& 6148914691236517205)) &&& 3689348814741910323) + ((us (x - ((us x 1) &&& 6148914691236517205)) 2) &&& 3689348814741910323)) 4)) &&& 1085102592571150095) + (us (((((x - ((us x 1) &&& 6148914691236517205)) &&& 3689348814741910323) + ((us (x - ((us x 1) &&& 6148914691236517205)) 2) &&& 3689348814741910323)) + (us (((x - ((us x 1) &&& 6148914691236517205)) &&& 3689348814741910323) + ((us (x - ((us x 1) &&& 6148914691236517205)) 2) &&& 3689348814741910323)) 4)) &&& 1085102592571150095) 8)) + (us ((((((x - ((us x 1) &&& 6148914691236517205)) &&& 3689348814741910323) + ((us (x - ((us x 1) &&& 6148914691236517205)) 2) &&& 3689348814741910323)) + (us (((x - ((us x 1) &&& 6148914691236517205)) &&& 3689348814741910323) + ((us (x - ((us x 1) &&& 6148914691236517205)) 2) &&& 3689348814741910323)) 4)) &&& 1085102592571150095) + (us (((((x - ((us x 1) &&& 6148914691236517205)) &&& 3689348814741910323) + ((us (x - ((us x 1) &&& 6148914691236517205)) 2) &&& 3689348814741910323)) + (us (((x - ((us x 1) &&& 6148914691236517205)) &&& 3689348814741910323) + ((us (x - ((us x 1) &&& 6148914691236517205)) 2) &&& 3689348814741910323)) 4)) &&& 1085102592571150095) 8)) 16)) + (us (((((((x - ((us x 1) &&& 6148914691236517205)) &&& 3689348814741910323) + ((us (x - ((us x 1) &&& 6148914691236517205)) 2) &&& 3689348814741910323)) + (us (((x - ((us x 1) &&& 6148914691236517205)) &&& 3689348814741910323) + ((us (x - ((us x 1) &&& 6148914691236517205)) 2) &&& 3689348814741910323)) 4)) &&& 1085102592571150095) + (us (((((x - ((us x 1) &&& 6148914691236517205)) &&& 3689348814741910323) + ((us (x - ((us x 1) &&& 6148914691236517205)) 2) &&& 3689348814741910323)) + (us (((x - ((us x 1) &&& 6148914691236517205)) &&& 3689348814741910323) + ((us (x - ((us x 1) &&& 6148914691236517205)) 2) &&& 3689348814741910323)) 4)) &&& 1085102592571150095) 8)) + (us ((((((x - ((us x 1) &&& 6148914691236517205)) &&& 3689348814741910323) + ((us (x - ((us x 1) &&& 6148914691236517205)) 2) &&& 3689348814741910323)) + (us (((x - ((us x 1) &&& 6148914691236517205)) &&& 3689348814741910323) + ((us (x - ((us x 1) &&& 6148914691236517205)) 2) &&& 3689348814741910323)) 4)) &&& 1085102592571150095) + (us (((((x - ((us x 1) &&& 6148914691236517205)) &&& 3689348814741910323) + ((us (x - ((us x 1) &&& 6148914691236517205)) 2) &&& 3689348814741910323)) + (us (((x - ((us x 1) &&& 6148914691236517205)) &&& 3689348814741910323) + ((us (x - ((us x 1) &&& 6148914691236517205)) 2) &&& 3689348814741910323)) 4)) &&& 1085102592571150095) 8)) 16)) 32)).toInt32 &&& 127) = (bc x) from (by first | with_reducible rfl | (simp only [bc, bc1, bc2, bc3, bc4, bc5, bc6, gi_sl, gi_sA, gi_sB, gi_si_s, gi_si_n, gl_si, gl_sA, gl_sB, gl_sl_s, gl_sl_n, gA_si, gA_sl, gA_sB, gA_sA_s, gA_sA_n, gB_si, gB_sl, gB_sA, gB_sB_s, gB_sB_n, Nat.reduceBEq, if_true, if_false, eq_self, Bool.false_eq_true, Bool.true_eq_false, not_true_eq_false, not_false_eq_true, decide_true, decide_false, cond_true, cond_false, Bool.true_and, Bool.false_and, Bool.and_true, Bool.and_false, Bool.true_or, Bool.false_or, Bool.or_true, Bool.or_false, b2i_tt, b2i_ff]; done))), rfl⟩, ⟨by rw [ht]; exact hP, va_K.moved hW.alike hK, hD⟩⟩, hS.F ht⟩) hS.2.2 dJ13_bitCount_95d88_60
set_option maxHeartbeats 4000000 in
set_option maxRecDepth 100000 in
theorem c_lowest (l : Launch) (D : va_G) (cI cJ : ClassId) (w : va_W) (x : Int64) : CT l D (TY cI cJ) yX7_lowest (.code yX7_lowest cX7_lowest 2 (some Jvm.ClassFile.FieldType.int)) 1 0 0 w [.long x] (QI D (TY cI cJ) (fun r u => r = (lowest x) ∧ u = w)) := by
  refine ent (by decide) (Nat.le_of_ble_eq_true rfl) ?_
  intro p e s m below meth c ls A hx hb hr hg hown hml hlocks hnm hP hK hD hS hA hN hl
  have hl : lv_has ls 2 [(0, .long x)] := hl
  refine lv_lload_n hx hb dX7_lowest_0 rfl (lv_at hl 0 rfl) ?_
  refine lv_lload_n hx hb dX7_lowest_1 rfl (lv_at hl 0 rfl) ?_
  refine lv_lneg hx hb dX7_lowest_2 ?_
  refine lv_land hx hb dX7_lowest_3 ?_
  refine lv_lconst (v := 1) hx hb dX7_lowest_4 (by decide) ?_
  refine lv_lsub hx hb dX7_lowest_5 ?_
  refine kI (rS hx hb hml hown hg hN hK hP hD (c_bitCount l D cI cJ w ((x &&& (-x)) - 1)) mw_68 mw_69 mw_70 mw_71 pd_J13_bitCount_95d88 ⟨Nat.le_of_ble_eq_true rfl, Nat.le_of_ble_eq_true rfl⟩ rfl hl.1 rfl (Nat.le_of_ble_eq_true rfl) dX7_lowest_6 ⟨Nat.le_of_ble_eq_true rfl, Nat.le_of_ble_eq_true rfl⟩) hD hS hA (fun r_1 u_1 H locs hp hP hD hS => ?_)
  obtain ⟨er, eu⟩ := hp
  obtain rfl := er.symm
  obtain rfl := eu.symm
  exact W.iret (v := (bc ((x &&& (-x)) - 1))) hx hb hr (fun t ht hW => ⟨⟨(bc ((x &&& (-x)) - 1)), w, rfl, ⟨(show (bc ((x &&& (-x)) - 1)) = (lowest x) from (by first | with_reducible rfl | (simp only [lowest, gi_sl, gi_sA, gi_sB, gi_si_s, gi_si_n, gl_si, gl_sA, gl_sB, gl_sl_s, gl_sl_n, gA_si, gA_sl, gA_sB, gA_sA_s, gA_sA_n, gB_si, gB_sl, gB_sA, gB_sB_s, gB_sB_n, Nat.reduceBEq, if_true, if_false, eq_self, Bool.false_eq_true, Bool.true_eq_false, not_true_eq_false, not_false_eq_true, decide_true, decide_false, cond_true, cond_false, Bool.true_and, Bool.false_and, Bool.and_true, Bool.and_false, Bool.true_or, Bool.false_or, Bool.or_true, Bool.or_false, b2i_tt, b2i_ff]; done))), rfl⟩, ⟨by rw [ht]; exact hP, va_K.moved hW.alike hK, hD⟩⟩, hS.F ht⟩) hS.2.2 dX7_lowest_9
set_option maxHeartbeats 4000000 in
set_option maxRecDepth 100000 in
theorem c_jumps (l : Launch) (D : va_G) (cI cJ : ClassId) (w : va_W) (k : Int32) : CT l D (TY cI cJ) yX7_jumps (.code yX7_jumps cX7_jumps 1 (some Jvm.ClassFile.FieldType.boolean)) 0 0 0 w [.int k] (QI D (TY cI cJ) (fun r u => r = (b2i (jmp k)) ∧ u = w)) := by
  refine ent (by decide) (Nat.le_of_ble_eq_true rfl) ?_
  intro p e s m below meth c ls A hx hb hr hg hown hml hlocks hnm hP hK hD hS hA hN hl
  have hl : lv_has ls 1 [(0, .int k)] := hl
  refine lv_iload_n hx hb dX7_jumps_0 rfl (lv_at hl 0 rfl) ?_
  refine lv_iconst (v := 1) hx hb dX7_jumps_1 (by decide) ?_
  refine lv_icmp_eq (tgt := 10) hx hb dX7_jumps_2 (by decide) (fun c_2 => ?_) (fun c_2 => ?_)
  · refine lv_iconst (v := 1) hx hb dX7_jumps_10 (by decide) ?_
    refine lv_goto (tgt := 15) hx hb dX7_jumps_11 (by decide) ?_
    exact W.zret (v := 1) hx hb hr rfl (fun t ht hW => ⟨⟨1, w, rfl, ⟨(show (1 : Int32) = (b2i (jmp k)) from (by simp only [jmp, eq_true c_2, gi_sl, gi_sA, gi_sB, gi_si_s, gi_si_n, gl_si, gl_sA, gl_sB, gl_sl_s, gl_sl_n, gA_si, gA_sl, gA_sB, gA_sA_s, gA_sA_n, gB_si, gB_sl, gB_sA, gB_sB_s, gB_sB_n, Nat.reduceBEq, if_true, if_false, eq_self, Bool.false_eq_true, Bool.true_eq_false, not_true_eq_false, not_false_eq_true, decide_true, decide_false, cond_true, cond_false, Bool.true_and, Bool.false_and, Bool.and_true, Bool.and_false, Bool.true_or, Bool.false_or, Bool.or_true, Bool.or_false, b2i_tt, b2i_ff]; done)), rfl⟩, ⟨by rw [ht]; exact hP, va_K.moved hW.alike hK, hD⟩⟩, hS.F ht⟩) hS.2.2 dX7_jumps_15
  · refine lv_iload_n hx hb dX7_jumps_5 rfl (lv_at hl 0 rfl) ?_
    refine lv_iconst (v := 2) hx hb dX7_jumps_6 (by decide) ?_
    refine lv_icmp_ne (tgt := 14) hx hb dX7_jumps_7 (by decide) (fun c_7 => ?_) (fun c_7 => ?_)
    · refine lv_iconst (v := 0) hx hb dX7_jumps_14 (by decide) ?_
      exact W.zret (v := 0) hx hb hr rfl (fun t ht hW => ⟨⟨0, w, rfl, ⟨(show (0 : Int32) = (b2i (jmp k)) from (by simp only [jmp, eq_false c_2, eq_false c_7, gi_sl, gi_sA, gi_sB, gi_si_s, gi_si_n, gl_si, gl_sA, gl_sB, gl_sl_s, gl_sl_n, gA_si, gA_sl, gA_sB, gA_sA_s, gA_sA_n, gB_si, gB_sl, gB_sA, gB_sB_s, gB_sB_n, Nat.reduceBEq, if_true, if_false, eq_self, Bool.false_eq_true, Bool.true_eq_false, not_true_eq_false, not_false_eq_true, decide_true, decide_false, cond_true, cond_false, Bool.true_and, Bool.false_and, Bool.and_true, Bool.and_false, Bool.true_or, Bool.false_or, Bool.or_true, Bool.or_false, b2i_tt, b2i_ff]; done)), rfl⟩, ⟨by rw [ht]; exact hP, va_K.moved hW.alike hK, hD⟩⟩, hS.F ht⟩) hS.2.2 dX7_jumps_15
    · refine lv_iconst (v := 1) hx hb dX7_jumps_10 (by decide) ?_
      refine lv_goto (tgt := 15) hx hb dX7_jumps_11 (by decide) ?_
      exact W.zret (v := 1) hx hb hr rfl (fun t ht hW => ⟨⟨1, w, rfl, ⟨(show (1 : Int32) = (b2i (jmp k)) from (by simp only [jmp, eq_false c_2, eq_true c_7, gi_sl, gi_sA, gi_sB, gi_si_s, gi_si_n, gl_si, gl_sA, gl_sB, gl_sl_s, gl_sl_n, gA_si, gA_sl, gA_sB, gA_sA_s, gA_sA_n, gB_si, gB_sl, gB_sA, gB_sB_s, gB_sB_n, Nat.reduceBEq, if_true, if_false, eq_self, Bool.false_eq_true, Bool.true_eq_false, not_true_eq_false, not_false_eq_true, decide_true, decide_false, cond_true, cond_false, Bool.true_and, Bool.false_and, Bool.and_true, Bool.and_false, Bool.true_or, Bool.false_or, Bool.or_true, Bool.or_false, b2i_tt, b2i_ff]; done)), rfl⟩, ⟨by rw [ht]; exact hP, va_K.moved hW.alike hK, hD⟩⟩, hS.F ht⟩) hS.2.2 dX7_jumps_15
set_option maxHeartbeats 4000000 in
set_option maxRecDepth 100000 in
theorem c_isTarget (l : Launch) (D : va_G) (cI cJ : ClassId) (w : va_W) (k : Int32) : CT l D (TY cI cJ) yX7_isTarget (.code yX7_isTarget cX7_isTarget 1 (some Jvm.ClassFile.FieldType.boolean)) 0 0 0 w [.int k] (QI D (TY cI cJ) (fun r u => r = (b2i (isT k)) ∧ u = w)) := by
  refine ent (by decide) (Nat.le_of_ble_eq_true rfl) ?_
  intro p e s m below meth c ls A hx hb hr hg hown hml hlocks hnm hP hK hD hS hA hN hl
  have hl : lv_has ls 1 [(0, .int k)] := hl
  refine lv_iload_n hx hb dX7_isTarget_0 rfl (lv_at hl 0 rfl) ?_
  refine lv_if_lt (tgt := 14) hx hb dX7_isTarget_1 (by decide) (fun c_1 => ?_) (fun c_1 => ?_)
  · refine lv_iconst (v := 0) hx hb dX7_isTarget_14 (by decide) ?_
    exact W.zret (v := 0) hx hb hr rfl (fun t ht hW => ⟨⟨0, w, rfl, ⟨(show (0 : Int32) = (b2i (isT k)) from (by simp only [isT, eq_true c_1, gi_sl, gi_sA, gi_sB, gi_si_s, gi_si_n, gl_si, gl_sA, gl_sB, gl_sl_s, gl_sl_n, gA_si, gA_sl, gA_sB, gA_sA_s, gA_sA_n, gB_si, gB_sl, gB_sA, gB_sB_s, gB_sB_n, Nat.reduceBEq, if_true, if_false, eq_self, Bool.false_eq_true, Bool.true_eq_false, not_true_eq_false, not_false_eq_true, decide_true, decide_false, cond_true, cond_false, Bool.true_and, Bool.false_and, Bool.and_true, Bool.and_false, Bool.true_or, Bool.false_or, Bool.or_true, Bool.or_false, b2i_tt, b2i_ff]; done)), rfl⟩, ⟨by rw [ht]; exact hP, va_K.moved hW.alike hK, hD⟩⟩, hS.F ht⟩) hS.2.2 dX7_isTarget_15
  · refine lv_iload_n hx hb dX7_isTarget_4 rfl (lv_at hl 0 rfl) ?_
    refine lv_bipush (v := 40) hx hb dX7_isTarget_5 (by decide) ?_
    refine lv_icmp_gt (tgt := 14) hx hb dX7_isTarget_7 (by decide) (fun c_7 => ?_) (fun c_7 => ?_)
    · refine lv_iconst (v := 0) hx hb dX7_isTarget_14 (by decide) ?_
      exact W.zret (v := 0) hx hb hr rfl (fun t ht hW => ⟨⟨0, w, rfl, ⟨(show (0 : Int32) = (b2i (isT k)) from (by simp only [isT, eq_false c_1, eq_true c_7, gi_sl, gi_sA, gi_sB, gi_si_s, gi_si_n, gl_si, gl_sA, gl_sB, gl_sl_s, gl_sl_n, gA_si, gA_sl, gA_sB, gA_sA_s, gA_sA_n, gB_si, gB_sl, gB_sA, gB_sB_s, gB_sB_n, Nat.reduceBEq, if_true, if_false, eq_self, Bool.false_eq_true, Bool.true_eq_false, not_true_eq_false, not_false_eq_true, decide_true, decide_false, cond_true, cond_false, Bool.true_and, Bool.false_and, Bool.and_true, Bool.and_false, Bool.true_or, Bool.false_or, Bool.or_true, Bool.or_false, b2i_tt, b2i_ff]; done)), rfl⟩, ⟨by rw [ht]; exact hP, va_K.moved hW.alike hK, hD⟩⟩, hS.F ht⟩) hS.2.2 dX7_isTarget_15
    · refine lv_iconst (v := 1) hx hb dX7_isTarget_10 (by decide) ?_
      refine lv_goto (tgt := 15) hx hb dX7_isTarget_11 (by decide) ?_
      exact W.zret (v := 1) hx hb hr rfl (fun t ht hW => ⟨⟨1, w, rfl, ⟨(show (1 : Int32) = (b2i (isT k)) from (by simp only [isT, eq_false c_1, eq_false c_7, gi_sl, gi_sA, gi_sB, gi_si_s, gi_si_n, gl_si, gl_sA, gl_sB, gl_sl_s, gl_sl_n, gA_si, gA_sl, gA_sB, gA_sA_s, gA_sA_n, gB_si, gB_sl, gB_sA, gB_sB_s, gB_sB_n, Nat.reduceBEq, if_true, if_false, eq_self, Bool.false_eq_true, Bool.true_eq_false, not_true_eq_false, not_false_eq_true, decide_true, decide_false, cond_true, cond_false, Bool.true_and, Bool.false_and, Bool.and_true, Bool.and_false, Bool.true_or, Bool.false_or, Bool.or_true, Bool.or_false, b2i_tt, b2i_ff]; done)), rfl⟩, ⟨by rw [ht]; exact hP, va_K.moved hW.alike hK, hD⟩⟩, hS.F ht⟩) hS.2.2 dX7_isTarget_15
set_option maxHeartbeats 4000000 in
set_option maxRecDepth 100000 in
theorem c_mix (l : Launch) (D : va_G) (cI cJ : ClassId) (w : va_W) (x : Int64) (v : Int32) : CT l D (TY cI cJ) yX7_mix (.code yX7_mix cX7_mix 3 (some Jvm.ClassFile.FieldType.long)) 0 0 0 w [.long x, .int v] (QL D (TY cI cJ) (fun r u => r = (mixI x v) ∧ u = w)) := by
  refine ent (by decide) (Nat.le_of_ble_eq_true rfl) ?_
  intro p e s m below meth c ls A hx hb hr hg hown hml hlocks hnm hP hK hD hS hA hN hl
  have hl : lv_has ls 3 [(0, .long x), (2, .int v)] := hl
  refine lv_lload_n hx hb dX7_mix_0 rfl (lv_at hl 0 rfl) ?_
  refine lv_ldc2 (v := 31) hx hb hown (hg _ mw_72) dX7_mix_1 ?_
  refine lv_lmul hx hb dX7_mix_4 ?_
  refine lv_iload_n hx hb dX7_mix_5 rfl (lv_at hl 1 rfl) ?_
  refine lv_i2l hx hb dX7_mix_6 rfl ?_
  refine lv_ladd hx hb dX7_mix_7 ?_
  exact W.lret (v := ((x * 31) + v.toInt64)) hx hb hr (fun t ht hW => ⟨⟨((x * 31) + v.toInt64), w, rfl, ⟨(show ((x * 31) + v.toInt64) = (mixI x v) from (by first | with_reducible rfl | (simp only [mixI, gi_sl, gi_sA, gi_sB, gi_si_s, gi_si_n, gl_si, gl_sA, gl_sB, gl_sl_s, gl_sl_n, gA_si, gA_sl, gA_sB, gA_sA_s, gA_sA_n, gB_si, gB_sl, gB_sA, gB_sB_s, gB_sB_n, Nat.reduceBEq, if_true, if_false, eq_self, Bool.false_eq_true, Bool.true_eq_false, not_true_eq_false, not_false_eq_true, decide_true, decide_false, cond_true, cond_false, Bool.true_and, Bool.false_and, Bool.and_true, Bool.and_false, Bool.true_or, Bool.false_or, Bool.or_true, Bool.or_false, b2i_tt, b2i_ff]; done))), rfl⟩, ⟨by rw [ht]; exact hP, va_K.moved hW.alike hK, hD⟩⟩, hS.F ht⟩) hS.2.2 dX7_mix_8
set_option maxHeartbeats 4000000 in
set_option maxRecDepth 100000 in
theorem c_mixZ (l : Launch) (D : va_G) (cI cJ : ClassId) (w : va_W) (x : Int64) (b : Bool) : CT l D (TY cI cJ) yX7_mix_ (.code yX7_mix_ cX7_mix_ 3 (some Jvm.ClassFile.FieldType.long)) 0 0 0 w [.long x, .int (b2i b)] (QL D (TY cI cJ) (fun r u => r = (mixZ x b) ∧ u = w)) := by
  refine ent (by decide) (Nat.le_of_ble_eq_true rfl) ?_
  intro p e s m below meth c ls A hx hb hr hg hown hml hlocks hnm hP hK hD hS hA hN hl
  have hl : lv_has ls 3 [(0, .long x), (2, .int (b2i b))] := hl
  refine lv_lload_n hx hb dX7_mix__0 rfl (lv_at hl 0 rfl) ?_
  refine lv_ldc2 (v := 31) hx hb hown (hg _ mw_72) dX7_mix__1 ?_
  refine lv_lmul hx hb dX7_mix__4 ?_
  refine lv_iload_n hx hb dX7_mix__5 rfl (lv_at hl 1 rfl) ?_
  refine lv_if_eq (tgt := 13) hx hb dX7_mix__6 (by decide) (fun c_6 => ?_) (fun c_6 => ?_)
  · have c_6 : ¬ b = true := b2i_0 c_6
    refine lv_lconst (v := 0) hx hb dX7_mix__13 (by decide) ?_
    refine lv_ladd hx hb dX7_mix__14 ?_
    exact W.lret (v := ((x * 31) + 0)) hx hb hr (fun t ht hW => ⟨⟨((x * 31) + 0), w, rfl, ⟨(show ((x * 31) + 0) = (mixZ x b) from (by simp only [mixZ, bf_of c_6, gi_sl, gi_sA, gi_sB, gi_si_s, gi_si_n, gl_si, gl_sA, gl_sB, gl_sl_s, gl_sl_n, gA_si, gA_sl, gA_sB, gA_sA_s, gA_sA_n, gB_si, gB_sl, gB_sA, gB_sB_s, gB_sB_n, Nat.reduceBEq, if_true, if_false, eq_self, Bool.false_eq_true, Bool.true_eq_false, not_true_eq_false, not_false_eq_true, decide_true, decide_false, cond_true, cond_false, Bool.true_and, Bool.false_and, Bool.and_true, Bool.and_false, Bool.true_or, Bool.false_or, Bool.or_true, Bool.or_false, b2i_tt, b2i_ff]; done)), rfl⟩, ⟨by rw [ht]; exact hP, va_K.moved hW.alike hK, hD⟩⟩, hS.F ht⟩) hS.2.2 dX7_mix__15
  · have c_6 : b = true := b2i_1 c_6
    refine lv_lconst (v := 1) hx hb dX7_mix__9 (by decide) ?_
    refine lv_goto (tgt := 14) hx hb dX7_mix__10 (by decide) ?_
    refine lv_ladd hx hb dX7_mix__14 ?_
    exact W.lret (v := ((x * 31) + 1)) hx hb hr (fun t ht hW => ⟨⟨((x * 31) + 1), w, rfl, ⟨(show ((x * 31) + 1) = (mixZ x b) from (by simp only [mixZ, c_6, gi_sl, gi_sA, gi_sB, gi_si_s, gi_si_n, gl_si, gl_sA, gl_sB, gl_sl_s, gl_sl_n, gA_si, gA_sl, gA_sB, gA_sA_s, gA_sA_n, gB_si, gB_sl, gB_sA, gB_sB_s, gB_sB_n, Nat.reduceBEq, if_true, if_false, eq_self, Bool.false_eq_true, Bool.true_eq_false, not_true_eq_false, not_false_eq_true, decide_true, decide_false, cond_true, cond_false, Bool.true_and, Bool.false_and, Bool.and_true, Bool.and_false, Bool.true_or, Bool.false_or, Bool.or_true, Bool.or_false, b2i_tt, b2i_ff]; done)), rfl⟩, ⟨by rw [ht]; exact hP, va_K.moved hW.alike hK, hD⟩⟩, hS.F ht⟩) hS.2.2 dX7_mix__15
