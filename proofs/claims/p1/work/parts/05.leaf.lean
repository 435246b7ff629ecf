theorem dX7_at_0 : decode cX7_at 0 = .ok (.aload_n 0, 1) := by decide +kernel
theorem dX7_at_1 : decode cX7_at 1 = .ok (.ifnull 19, 3) := by decide +kernel
theorem dX7_at_4 : decode cX7_at 4 = .ok (.iload_n 1, 1) := by decide +kernel
theorem dX7_at_5 : decode cX7_at 5 = .ok (.ifCond .lt 15, 3) := by decide +kernel
theorem dX7_at_8 : decode cX7_at 8 = .ok (.iload_n 1, 1) := by decide +kernel
theorem dX7_at_9 : decode cX7_at 9 = .ok (.aload_n 0, 1) := by decide +kernel
theorem dX7_at_10 : decode cX7_at 10 = .ok (.arraylength, 1) := by decide +kernel
theorem dX7_at_11 : decode cX7_at 11 = .ok (.if_icmp .ge 9, 3) := by decide +kernel
theorem dX7_at_14 : decode cX7_at 14 = .ok (.aload_n 0, 1) := by decide +kernel
theorem dX7_at_15 : decode cX7_at 15 = .ok (.iload_n 1, 1) := by decide +kernel
theorem dX7_at_16 : decode cX7_at 16 = .ok (.iaload, 1) := by decide +kernel
theorem dX7_at_17 : decode cX7_at 17 = .ok (.goto 4, 3) := by decide +kernel
theorem dX7_at_20 : decode cX7_at 20 = .ok (.iconst 0, 1) := by decide +kernel
theorem dX7_at_21 : decode cX7_at 21 = .ok (.ireturn, 1) := by decide +kernel
theorem dX7_at__0 : decode cX7_at_ 0 = .ok (.aload_n 0, 1) := by decide +kernel
theorem dX7_at__1 : decode cX7_at_ 1 = .ok (.ifnull 19, 3) := by decide +kernel
theorem dX7_at__4 : decode cX7_at_ 4 = .ok (.iload_n 1, 1) := by decide +kernel
theorem dX7_at__5 : decode cX7_at_ 5 = .ok (.ifCond .lt 15, 3) := by decide +kernel
theorem dX7_at__8 : decode cX7_at_ 8 = .ok (.iload_n 1, 1) := by decide +kernel
theorem dX7_at__9 : decode cX7_at_ 9 = .ok (.aload_n 0, 1) := by decide +kernel
theorem dX7_at__10 : decode cX7_at_ 10 = .ok (.arraylength, 1) := by decide +kernel
theorem dX7_at__11 : decode cX7_at_ 11 = .ok (.if_icmp .ge 9, 3) := by decide +kernel
theorem dX7_at__14 : decode cX7_at_ 14 = .ok (.aload_n 0, 1) := by decide +kernel
theorem dX7_at__15 : decode cX7_at_ 15 = .ok (.iload_n 1, 1) := by decide +kernel
theorem dX7_at__16 : decode cX7_at_ 16 = .ok (.laload, 1) := by decide +kernel
theorem dX7_at__17 : decode cX7_at_ 17 = .ok (.goto 4, 3) := by decide +kernel
theorem dX7_at__20 : decode cX7_at_ 20 = .ok (.lconst 0, 1) := by decide +kernel
theorem dX7_at__21 : decode cX7_at_ 21 = .ok (.lreturn, 1) := by decide +kernel
theorem dX7_put_0 : decode cX7_put 0 = .ok (.aload_n 0, 1) := by decide +kernel
theorem dX7_put_1 : decode cX7_put 1 = .ok (.ifnull 17, 3) := by decide +kernel
theorem dX7_put_4 : decode cX7_put 4 = .ok (.iload_n 1, 1) := by decide +kernel
theorem dX7_put_5 : decode cX7_put 5 = .ok (.ifCond .lt 13, 3) := by decide +kernel
theorem dX7_put_8 : decode cX7_put 8 = .ok (.iload_n 1, 1) := by decide +kernel
theorem dX7_put_9 : decode cX7_put 9 = .ok (.aload_n 0, 1) := by decide +kernel
theorem dX7_put_10 : decode cX7_put 10 = .ok (.arraylength, 1) := by decide +kernel
theorem dX7_put_11 : decode cX7_put 11 = .ok (.if_icmp .ge 7, 3) := by decide +kernel
theorem dX7_put_14 : decode cX7_put 14 = .ok (.aload_n 0, 1) := by decide +kernel
theorem dX7_put_15 : decode cX7_put 15 = .ok (.iload_n 1, 1) := by decide +kernel
theorem dX7_put_16 : decode cX7_put 16 = .ok (.iload_n 2, 1) := by decide +kernel
theorem dX7_put_17 : decode cX7_put 17 = .ok (.iastore, 1) := by decide +kernel
theorem dX7_put_18 : decode cX7_put 18 = .ok (.return_, 1) := by decide +kernel
theorem dX7_put__0 : decode cX7_put_ 0 = .ok (.aload_n 0, 1) := by decide +kernel
theorem dX7_put__1 : decode cX7_put_ 1 = .ok (.ifnull 17, 3) := by decide +kernel
theorem dX7_put__4 : decode cX7_put_ 4 = .ok (.iload_n 1, 1) := by decide +kernel
theorem dX7_put__5 : decode cX7_put_ 5 = .ok (.ifCond .lt 13, 3) := by decide +kernel
theorem dX7_put__8 : decode cX7_put_ 8 = .ok (.iload_n 1, 1) := by decide +kernel
theorem dX7_put__9 : decode cX7_put_ 9 = .ok (.aload_n 0, 1) := by decide +kernel
theorem dX7_put__10 : decode cX7_put_ 10 = .ok (.arraylength, 1) := by decide +kernel
theorem dX7_put__11 : decode cX7_put_ 11 = .ok (.if_icmp .ge 7, 3) := by decide +kernel
theorem dX7_put__14 : decode cX7_put_ 14 = .ok (.aload_n 0, 1) := by decide +kernel
theorem dX7_put__15 : decode cX7_put_ 15 = .ok (.iload_n 1, 1) := by decide +kernel
theorem dX7_put__16 : decode cX7_put_ 16 = .ok (.lload_n 2, 1) := by decide +kernel
theorem dX7_put__17 : decode cX7_put_ 17 = .ok (.lastore, 1) := by decide +kernel
theorem dX7_put__18 : decode cX7_put_ 18 = .ok (.return_, 1) := by decide +kernel
theorem dX7_has_0 : decode cX7_has 0 = .ok (.lload_n 0, 1) := by decide +kernel
theorem dX7_has_1 : decode cX7_has 1 = .ok (.iload_n 2, 1) := by decide +kernel
theorem dX7_has_2 : decode cX7_has 2 = .ok (.lushr, 1) := by decide +kernel
theorem dX7_has_3 : decode cX7_has 3 = .ok (.lconst 1, 1) := by decide +kernel
theorem dX7_has_4 : decode cX7_has 4 = .ok (.land, 1) := by decide +kernel
theorem dX7_has_5 : decode cX7_has 5 = .ok (.lconst 0, 1) := by decide +kernel
theorem dX7_has_6 : decode cX7_has 6 = .ok (.lcmp, 1) := by decide +kernel
theorem dX7_has_7 : decode cX7_has 7 = .ok (.ifCond .eq 7, 3) := by decide +kernel
theorem dX7_has_14 : decode cX7_has 14 = .ok (.iconst 0, 1) := by decide +kernel
theorem dX7_has_15 : decode cX7_has 15 = .ok (.ireturn, 1) := by decide +kernel
theorem dX7_bit_0 : decode cX7_bit 0 = .ok (.lconst 1, 1) := by decide +kernel
theorem dX7_bit_1 : decode cX7_bit 1 = .ok (.iload_n 0, 1) := by decide +kernel
theorem dX7_bit_2 : decode cX7_bit 2 = .ok (.lshl, 1) := by decide +kernel
theorem dX7_bit_3 : decode cX7_bit 3 = .ok (.lreturn, 1) := by decide +kernel
theorem dX7_jumps_0 : decode cX7_jumps 0 = .ok (.iload_n 0, 1) := by decide +kernel
theorem dX7_jumps_1 : decode cX7_jumps 1 = .ok (.iconst 1, 1) := by decide +kernel
theorem dX7_jumps_2 : decode cX7_jumps 2 = .ok (.if_icmp .eq 8, 3) := by decide +kernel
theorem dX7_jumps_5 : decode cX7_jumps 5 = .ok (.iload_n 0, 1) := by decide +kernel
theorem dX7_jumps_6 : decode cX7_jumps 6 = .ok (.iconst 2, 1) := by decide +kernel
theorem dX7_jumps_7 : decode cX7_jumps 7 = .ok (.if_icmp .ne 7, 3) := by decide +kernel
theorem dX7_jumps_10 : decode cX7_jumps 10 = .ok (.iconst 1, 1) := by decide +kernel
theorem dX7_jumps_11 : decode cX7_jumps 11 = .ok (.goto 4, 3) := by decide +kernel
theorem dX7_jumps_14 : decode cX7_jumps 14 = .ok (.iconst 0, 1) := by decide +kernel
theorem dX7_jumps_15 : decode cX7_jumps 15 = .ok (.ireturn, 1) := by decide +kernel
theorem dX7_isTarget_0 : decode cX7_isTarget 0 = .ok (.iload_n 0, 1) := by decide +kernel
theorem dX7_isTarget_1 : decode cX7_isTarget 1 = .ok (.ifCond .lt 13, 3) := by decide +kernel
theorem dX7_isTarget_4 : decode cX7_isTarget 4 = .ok (.iload_n 0, 1) := by decide +kernel
theorem dX7_isTarget_5 : decode cX7_isTarget 5 = .ok (.bipush 40, 2) := by decide +kernel
theorem dX7_isTarget_7 : decode cX7_isTarget 7 = .ok (.if_icmp .gt 7, 3) := by decide +kernel
theorem dX7_isTarget_10 : decode cX7_isTarget 10 = .ok (.iconst 1, 1) := by decide +kernel
theorem dX7_isTarget_11 : decode cX7_isTarget 11 = .ok (.goto 4, 3) := by decide +kernel
theorem dX7_isTarget_14 : decode cX7_isTarget 14 = .ok (.iconst 0, 1) := by decide +kernel
theorem dX7_isTarget_15 : decode cX7_isTarget 15 = .ok (.ireturn, 1) := by decide +kernel
theorem mw_0 : Cond.laysFinal "OrielChart$Code" "OrielChart$Code" "kind" "[I" ∈ GW := gw_mem (inT1 _ (List.mem_of_getElem? (i := 51) rfl)) rfl
theorem mw_1 : Cond.laysFinal "OrielChart$Code" "OrielChart$Code" "target" "[I" ∈ GW := gw_mem (inT1 _ (List.mem_of_getElem? (i := 53) rfl)) rfl
theorem mw_2 : Cond.laysFinal "OrielChart$Code" "OrielChart$Code" "sets" "[I" ∈ GW := gw_mem (inT1 _ (List.mem_of_getElem? (i := 55) rfl)) rfl
theorem mw_3 : Cond.laysFinal "OrielChart$Code" "OrielChart$Code" "uses" "[I" ∈ GW := gw_mem (inT1 _ (List.mem_of_getElem? (i := 57) rfl)) rfl
theorem mw_4 : Cond.lays "OrielChart$Code" "OrielChart$Code" "count" "I" ∈ GW := gw_mem (inT1 _ (List.mem_of_getElem? (i := 59) rfl)) rfl
theorem mw_5 : Cond.laysFinal "OrielChart$Flow" "OrielChart$Flow" "home" "[I" ∈ GW := gw_mem (inT1 _ (List.mem_of_getElem? (i := 104) rfl)) rfl
theorem mw_6 : Cond.laysFinal "OrielChart$Flow" "OrielChart$Flow" "first" "[I" ∈ GW := gw_mem (inT1 _ (List.mem_of_getElem? (i := 106) rfl)) rfl
theorem mw_7 : Cond.laysFinal "OrielChart$Flow" "OrielChart$Flow" "last" "[I" ∈ GW := gw_mem (inT1 _ (List.mem_of_getElem? (i := 108) rfl)) rfl
theorem mw_8 : Cond.laysFinal "OrielChart$Flow" "OrielChart$Flow" "from" "[I" ∈ GW := gw_mem (inT1 _ (List.mem_of_getElem? (i := 110) rfl)) rfl
theorem mw_9 : Cond.laysFinal "OrielChart$Flow" "OrielChart$Flow" "to" "[I" ∈ GW := gw_mem (inT1 _ (List.mem_of_getElem? (i := 112) rfl)) rfl
theorem mw_10 : Cond.laysFinal "OrielChart$Flow" "OrielChart$Flow" "firstEdge" "[I" ∈ GW := gw_mem (inT1 _ (List.mem_of_getElem? (i := 114) rfl)) rfl
theorem mw_11 : Cond.laysFinal "OrielChart$Flow" "OrielChart$Flow" "next" "[J" ∈ GW := gw_mem (inT1 _ (List.mem_of_getElem? (i := 116) rfl)) rfl
theorem mw_12 : Cond.lays "OrielChart$Flow" "OrielChart$Flow" "blockCount" "I" ∈ GW := gw_mem (inT1 _ (List.mem_of_getElem? (i := 118) rfl)) rfl
theorem mw_13 : Cond.lays "OrielChart$Flow" "OrielChart$Flow" "edgeCount" "I" ∈ GW := gw_mem (inT1 _ (List.mem_of_getElem? (i := 120) rfl)) rfl
theorem mw_14 : Cond.lays "OrielChart$Flow" "OrielChart$Flow" "reached" "J" ∈ GW := gw_mem (inT1 _ (List.mem_of_getElem? (i := 122) rfl)) rfl
theorem mw_15 : Cond.lays "OrielChart$Flow" "OrielChart$Flow" "fresh" "Z" ∈ GW := gw_mem (inT1 _ (List.mem_of_getElem? (i := 124) rfl)) rfl
theorem mw_16 : Cond.laysFinal "OrielChart$Lives" "OrielChart$Lives" "live" "[I" ∈ GW := gw_mem (inT1 _ (List.mem_of_getElem? (i := 170) rfl)) rfl
theorem mw_17 : Cond.lays "OrielChart$Lives" "OrielChart$Lives" "vainCount" "I" ∈ GW := gw_mem (inT1 _ (List.mem_of_getElem? (i := 172) rfl)) rfl
theorem mw_18 : Cond.lays "OrielChart$Lives" "OrielChart$Lives" "fresh" "Z" ∈ GW := gw_mem (inT1 _ (List.mem_of_getElem? (i := 174) rfl)) rfl
theorem mw_19 : Cond.laysFinal "OrielChart$Picture" "OrielChart$Picture" "walk" "LOrielChart$Walk;" ∈ GW := gw_mem (inT2 _ (List.mem_of_getElem? (i := 38) rfl)) rfl
theorem mw_20 : Cond.laysFinal "OrielChart$Picture" "OrielChart$Picture" "layer" "[I" ∈ GW := gw_mem (inT2 _ (List.mem_of_getElem? (i := 40) rfl)) rfl
theorem mw_21 : Cond.laysFinal "OrielChart$Picture" "OrielChart$Picture" "start" "[I" ∈ GW := gw_mem (inT2 _ (List.mem_of_getElem? (i := 42) rfl)) rfl
theorem mw_22 : Cond.laysFinal "OrielChart$Picture" "OrielChart$Picture" "firstBend" "[I" ∈ GW := gw_mem (inT2 _ (List.mem_of_getElem? (i := 44) rfl)) rfl
theorem mw_23 : Cond.laysFinal "OrielChart$Picture" "OrielChart$Picture" "edgeOf" "[I" ∈ GW := gw_mem (inT2 _ (List.mem_of_getElem? (i := 46) rfl)) rfl
theorem mw_24 : Cond.laysFinal "OrielChart$Picture" "OrielChart$Picture" "order" "[I" ∈ GW := gw_mem (inT2 _ (List.mem_of_getElem? (i := 48) rfl)) rfl
theorem mw_25 : Cond.laysFinal "OrielChart$Picture" "OrielChart$Picture" "place" "[I" ∈ GW := gw_mem (inT2 _ (List.mem_of_getElem? (i := 50) rfl)) rfl
theorem mw_26 : Cond.laysFinal "OrielChart$Picture" "OrielChart$Picture" "kept" "[I" ∈ GW := gw_mem (inT2 _ (List.mem_of_getElem? (i := 52) rfl)) rfl
theorem mw_27 : Cond.laysFinal "OrielChart$Picture" "OrielChart$Picture" "sum" "[I" ∈ GW := gw_mem (inT2 _ (List.mem_of_getElem? (i := 54) rfl)) rfl
theorem mw_28 : Cond.laysFinal "OrielChart$Picture" "OrielChart$Picture" "lines" "[I" ∈ GW := gw_mem (inT2 _ (List.mem_of_getElem? (i := 56) rfl)) rfl
theorem mw_29 : Cond.laysFinal "OrielChart$Picture" "OrielChart$Picture" "above" "[I" ∈ GW := gw_mem (inT2 _ (List.mem_of_getElem? (i := 58) rfl)) rfl
theorem mw_30 : Cond.laysFinal "OrielChart$Picture" "OrielChart$Picture" "below" "[I" ∈ GW := gw_mem (inT2 _ (List.mem_of_getElem? (i := 60) rfl)) rfl
theorem mw_31 : Cond.lays "OrielChart$Picture" "OrielChart$Picture" "edgeCount" "I" ∈ GW := gw_mem (inT2 _ (List.mem_of_getElem? (i := 62) rfl)) rfl
theorem mw_32 : Cond.lays "OrielChart$Picture" "OrielChart$Picture" "layerCount" "I" ∈ GW := gw_mem (inT2 _ (List.mem_of_getElem? (i := 64) rfl)) rfl
theorem mw_33 : Cond.lays "OrielChart$Picture" "OrielChart$Picture" "sweeps" "I" ∈ GW := gw_mem (inT2 _ (List.mem_of_getElem? (i := 66) rfl)) rfl
theorem mw_34 : Cond.lays "OrielChart$Picture" "OrielChart$Picture" "fresh" "Z" ∈ GW := gw_mem (inT2 _ (List.mem_of_getElem? (i := 68) rfl)) rfl
theorem mw_35 : Cond.laysFinal "OrielChart$Ranks" "OrielChart$Ranks" "ruled" "[J" ∈ GW := gw_mem (inT1 _ (List.mem_of_getElem? (i := 144) rfl)) rfl
theorem mw_36 : Cond.laysFinal "OrielChart$Ranks" "OrielChart$Ranks" "loop" "[J" ∈ GW := gw_mem (inT1 _ (List.mem_of_getElem? (i := 146) rfl)) rfl
theorem mw_37 : Cond.laysFinal "OrielChart$Ranks" "OrielChart$Ranks" "previous" "[J" ∈ GW := gw_mem (inT1 _ (List.mem_of_getElem? (i := 148) rfl)) rfl
theorem mw_38 : Cond.laysFinal "OrielChart$Ranks" "OrielChart$Ranks" "onward" "[J" ∈ GW := gw_mem (inT1 _ (List.mem_of_getElem? (i := 150) rfl)) rfl
theorem mw_39 : Cond.lays "OrielChart$Ranks" "OrielChart$Ranks" "loopCount" "I" ∈ GW := gw_mem (inT1 _ (List.mem_of_getElem? (i := 152) rfl)) rfl
theorem mw_40 : Cond.lays "OrielChart$Ranks" "OrielChart$Ranks" "tame" "Z" ∈ GW := gw_mem (inT1 _ (List.mem_of_getElem? (i := 154) rfl)) rfl
theorem mw_41 : Cond.lays "OrielChart$Ranks" "OrielChart$Ranks" "fresh" "Z" ∈ GW := gw_mem (inT1 _ (List.mem_of_getElem? (i := 156) rfl)) rfl
theorem mw_42 : Cond.laysFinal "OrielChart$Reduction" "OrielChart$Reduction" "next" "[J" ∈ GW := gw_mem (inT1 _ (List.mem_of_getElem? (i := 196) rfl)) rfl
theorem mw_43 : Cond.laysFinal "OrielChart$Reduction" "OrielChart$Reduction" "home" "[I" ∈ GW := gw_mem (inT1 _ (List.mem_of_getElem? (i := 198) rfl)) rfl
theorem mw_44 : Cond.laysFinal "OrielChart$Reduction" "OrielChart$Reduction" "rule" "[I" ∈ GW := gw_mem (inT1 _ (List.mem_of_getElem? (i := 200) rfl)) rfl
theorem mw_45 : Cond.laysFinal "OrielChart$Reduction" "OrielChart$Reduction" "node" "[I" ∈ GW := gw_mem (inT1 _ (List.mem_of_getElem? (i := 202) rfl)) rfl
theorem mw_46 : Cond.laysFinal "OrielChart$Reduction" "OrielChart$Reduction" "entry" "[I" ∈ GW := gw_mem (inT1 _ (List.mem_of_getElem? (i := 204) rfl)) rfl
theorem mw_47 : Cond.lays "OrielChart$Reduction" "OrielChart$Reduction" "nodes" "J" ∈ GW := gw_mem (inT1 _ (List.mem_of_getElem? (i := 206) rfl)) rfl
theorem mw_48 : Cond.lays "OrielChart$Reduction" "OrielChart$Reduction" "stepCount" "I" ∈ GW := gw_mem (inT1 _ (List.mem_of_getElem? (i := 208) rfl)) rfl
theorem mw_49 : Cond.lays "OrielChart$Reduction" "OrielChart$Reduction" "fresh" "Z" ∈ GW := gw_mem (inT1 _ (List.mem_of_getElem? (i := 210) rfl)) rfl
theorem mw_50 : Cond.laysFinal "OrielChart$Walk" "OrielChart$Walk" "came" "[I" ∈ GW := gw_mem (inT1 _ (List.mem_of_getElem? (i := 239) rfl)) rfl
theorem mw_51 : Cond.laysFinal "OrielChart$Walk" "OrielChart$Walk" "upper" "[I" ∈ GW := gw_mem (inT2 _ (List.mem_of_getElem? (i := 1) rfl)) rfl
theorem mw_52 : Cond.laysFinal "OrielChart$Walk" "OrielChart$Walk" "lower" "[I" ∈ GW := gw_mem (inT2 _ (List.mem_of_getElem? (i := 3) rfl)) rfl
theorem mw_53 : Cond.laysFinal "OrielChart$Walk" "OrielChart$Walk" "open" "[I" ∈ GW := gw_mem (inT2 _ (List.mem_of_getElem? (i := 5) rfl)) rfl
theorem mw_54 : Cond.laysFinal "OrielChart$Walk" "OrielChart$Walk" "edge" "[I" ∈ GW := gw_mem (inT2 _ (List.mem_of_getElem? (i := 7) rfl)) rfl
theorem mw_55 : Cond.lays "OrielChart$Walk" "OrielChart$Walk" "cameCount" "I" ∈ GW := gw_mem (inT2 _ (List.mem_of_getElem? (i := 9) rfl)) rfl
theorem mw_56 : Cond.lays "OrielChart$Walk" "OrielChart$Walk" "openCount" "I" ∈ GW := gw_mem (inT2 _ (List.mem_of_getElem? (i := 11) rfl)) rfl
theorem mw_57 : Cond.lays "OrielChart$Walk" "OrielChart$Walk" "seen" "J" ∈ GW := gw_mem (inT2 _ (List.mem_of_getElem? (i := 13) rfl)) rfl
theorem mw_58 : Cond.lays "OrielChart$Walk" "OrielChart$Walk" "stillGoing" "J" ∈ GW := gw_mem (inT2 _ (List.mem_of_getElem? (i := 15) rfl)) rfl
theorem mw_59 : Cond.laysFinal "OrielChart" "OrielChart" "code" "LOrielChart$Code;" ∈ GW := gw_mem (inT2 _ (List.mem_of_getElem? (i := 77) rfl)) rfl
theorem mw_60 : Cond.laysFinal "OrielChart" "OrielChart" "flow" "LOrielChart$Flow;" ∈ GW := gw_mem (inT2 _ (List.mem_of_getElem? (i := 79) rfl)) rfl
theorem mw_61 : Cond.laysFinal "OrielChart" "OrielChart" "ranks" "LOrielChart$Ranks;" ∈ GW := gw_mem (inT2 _ (List.mem_of_getElem? (i := 81) rfl)) rfl
theorem mw_62 : Cond.laysFinal "OrielChart" "OrielChart" "lives" "LOrielChart$Lives;" ∈ GW := gw_mem (inT2 _ (List.mem_of_getElem? (i := 83) rfl)) rfl
theorem mw_63 : Cond.laysFinal "OrielChart" "OrielChart" "reduction" "LOrielChart$Reduction;" ∈ GW := gw_mem (inT2 _ (List.mem_of_getElem? (i := 85) rfl)) rfl
theorem mw_64 : Cond.laysFinal "OrielChart" "OrielChart" "picture" "LOrielChart$Picture;" ∈ GW := gw_mem (inT2 _ (List.mem_of_getElem? (i := 87) rfl)) rfl
theorem mw_65 : Cond.lays "OrielChartModel" "OrielChartModel" "thrown" "I" ∈ GW := gw_mem (inT5 _ (List.mem_of_getElem? (i := 194) rfl)) rfl
theorem mw_66 : Cond.lays "OrielChartModel" "OrielChartModel" "many" "I" ∈ GW := gw_mem (inT5 _ (List.mem_of_getElem? (i := 196) rfl)) rfl
theorem mw_67 : Cond.laysFinal "OrielChartModel" "OrielChartModel" "kind" "[I" ∈ GW := gw_mem (inT5 _ (List.mem_of_getElem? (i := 198) rfl)) rfl
theorem mw_68 : Cond.laysFinal "OrielChartModel" "OrielChartModel" "target" "[I" ∈ GW := gw_mem (inT5 _ (List.mem_of_getElem? (i := 200) rfl)) rfl
theorem mw_69 : Cond.laysFinal "OrielChartModel" "OrielChartModel" "sets" "[I" ∈ GW := gw_mem (inT5 _ (List.mem_of_getElem? (i := 202) rfl)) rfl
theorem mw_70 : Cond.laysFinal "OrielChartModel" "OrielChartModel" "uses" "[I" ∈ GW := gw_mem (inT5 _ (List.mem_of_getElem? (i := 204) rfl)) rfl
theorem mw_71 : Cond.lays "OrielChartModel" "OrielChartModel" "isLaid" "Z" ∈ GW := gw_mem (inT5 _ (List.mem_of_getElem? (i := 206) rfl)) rfl
theorem mw_72 : Cond.lays "OrielChartModel" "OrielChartModel" "blocks" "I" ∈ GW := gw_mem (inT5 _ (List.mem_of_getElem? (i := 208) rfl)) rfl
theorem mw_73 : Cond.lays "OrielChartModel" "OrielChartModel" "edges" "I" ∈ GW := gw_mem (inT5 _ (List.mem_of_getElem? (i := 210) rfl)) rfl
theorem mw_74 : Cond.laysFinal "OrielChartModel" "OrielChartModel" "blockOf" "[I" ∈ GW := gw_mem (inT5 _ (List.mem_of_getElem? (i := 212) rfl)) rfl
theorem mw_75 : Cond.laysFinal "OrielChartModel" "OrielChartModel" "first" "[I" ∈ GW := gw_mem (inT5 _ (List.mem_of_getElem? (i := 214) rfl)) rfl
theorem mw_76 : Cond.laysFinal "OrielChartModel" "OrielChartModel" "from" "[I" ∈ GW := gw_mem (inT5 _ (List.mem_of_getElem? (i := 216) rfl)) rfl
theorem mw_77 : Cond.laysFinal "OrielChartModel" "OrielChartModel" "to" "[I" ∈ GW := gw_mem (inT5 _ (List.mem_of_getElem? (i := 218) rfl)) rfl
theorem mw_78 : Cond.lays "OrielChartModel" "OrielChartModel" "reached" "J" ∈ GW := gw_mem (inT5 _ (List.mem_of_getElem? (i := 220) rfl)) rfl
theorem mw_79 : Cond.laysFinal "OrielChartModel" "OrielChartModel" "spared" "[J" ∈ GW := gw_mem (inT5 _ (List.mem_of_getElem? (i := 222) rfl)) rfl
theorem mw_80 : Cond.laysFinal "OrielChartModel" "OrielChartModel" "loop" "[J" ∈ GW := gw_mem (inT5 _ (List.mem_of_getElem? (i := 224) rfl)) rfl
theorem mw_81 : Cond.laysFinal "OrielChartModel" "OrielChartModel" "live" "[I" ∈ GW := gw_mem (inT5 _ (List.mem_of_getElem? (i := 226) rfl)) rfl
theorem mw_82 : Cond.laysFinal "OrielChartModel" "OrielChartModel" "goes" "[J" ∈ GW := gw_mem (inT5 _ (List.mem_of_getElem? (i := 228) rfl)) rfl
theorem mw_83 : Cond.laysFinal "OrielChartModel" "OrielChartModel" "endsIn" "[I" ∈ GW := gw_mem (inT5 _ (List.mem_of_getElem? (i := 230) rfl)) rfl
theorem mw_84 : Cond.laysFinal "OrielChartModel" "OrielChartModel" "rule" "[I" ∈ GW := gw_mem (inT5 _ (List.mem_of_getElem? (i := 232) rfl)) rfl
theorem mw_85 : Cond.laysFinal "OrielChartModel" "OrielChartModel" "ruled" "[I" ∈ GW := gw_mem (inT5 _ (List.mem_of_getElem? (i := 234) rfl)) rfl
theorem mw_86 : Cond.lays "OrielChartModel" "OrielChartModel" "steps" "I" ∈ GW := gw_mem (inT5 _ (List.mem_of_getElem? (i := 236) rfl)) rfl
theorem mw_87 : Cond.lays "OrielChartModel" "OrielChartModel" "nodes" "J" ∈ GW := gw_mem (inT5 _ (List.mem_of_getElem? (i := 238) rfl)) rfl
theorem mw_88 : Cond.laysFinal "OrielChartModel" "OrielChartModel" "state" "[I" ∈ GW := gw_mem (inT6 _ (List.mem_of_getElem? (i := 0) rfl)) rfl
theorem mw_89 : Cond.laysFinal "OrielChartModel" "OrielChartModel" "came" "[I" ∈ GW := gw_mem (inT6 _ (List.mem_of_getElem? (i := 2) rfl)) rfl
theorem mw_90 : Cond.lays "OrielChartModel" "OrielChartModel" "met" "I" ∈ GW := gw_mem (inT6 _ (List.mem_of_getElem? (i := 4) rfl)) rfl
theorem mw_91 : Cond.laysFinal "OrielChartModel" "OrielChartModel" "isTurned" "[Z" ∈ GW := gw_mem (inT6 _ (List.mem_of_getElem? (i := 6) rfl)) rfl
theorem mw_92 : Cond.laysFinal "OrielChartModel" "OrielChartModel" "layer" "[I" ∈ GW := gw_mem (inT6 _ (List.mem_of_getElem? (i := 8) rfl)) rfl
theorem mw_93 : Cond.lays "OrielChartModel" "OrielChartModel" "layers" "I" ∈ GW := gw_mem (inT6 _ (List.mem_of_getElem? (i := 10) rfl)) rfl
theorem mw_94 : Cond.lays "OrielChartModel" "OrielChartModel" "order" "[[I" ∈ GW := gw_mem (inT6 _ (List.mem_of_getElem? (i := 12) rfl)) rfl
theorem mw_95 : Cond.lays "OrielChartModel" "OrielChartModel" "swept" "I" ∈ GW := gw_mem (inT6 _ (List.mem_of_getElem? (i := 14) rfl)) rfl
theorem mw_96 : Cond.lays "OrielChartModel" "OrielChartModel" "sum" "J" ∈ GW := gw_mem (inT6 _ (List.mem_of_getElem? (i := 16) rfl)) rfl
set_option maxRecDepth 20000 in
theorem inGX0 : ∀ w ∈ u_ws RX0 TX0 5, w ∈ GW := List.forall_mem_cons.mpr ⟨mw_0, List.forall_mem_cons.mpr ⟨mw_1, List.forall_mem_cons.mpr ⟨mw_2, List.forall_mem_cons.mpr ⟨mw_3, List.forall_mem_cons.mpr ⟨mw_4, fun _ h => absurd h List.not_mem_nil⟩⟩⟩⟩⟩
set_option maxRecDepth 20000 in
theorem inGX1 : ∀ w ∈ u_ws RX1 TX1 11, w ∈ GW := List.forall_mem_cons.mpr ⟨mw_5, List.forall_mem_cons.mpr ⟨mw_6, List.forall_mem_cons.mpr ⟨mw_7, List.forall_mem_cons.mpr ⟨mw_8, List.forall_mem_cons.mpr ⟨mw_9, List.forall_mem_cons.mpr ⟨mw_10, List.forall_mem_cons.mpr ⟨mw_11, List.forall_mem_cons.mpr ⟨mw_12, List.forall_mem_cons.mpr ⟨mw_13, List.forall_mem_cons.mpr ⟨mw_14, List.forall_mem_cons.mpr ⟨mw_15, fun _ h => absurd h List.not_mem_nil⟩⟩⟩⟩⟩⟩⟩⟩⟩⟩⟩
set_option maxRecDepth 20000 in
theorem inGX2 : ∀ w ∈ u_ws RX2 TX2 3, w ∈ GW := List.forall_mem_cons.mpr ⟨mw_16, List.forall_mem_cons.mpr ⟨mw_17, List.forall_mem_cons.mpr ⟨mw_18, fun _ h => absurd h List.not_mem_nil⟩⟩⟩
set_option maxRecDepth 20000 in
theorem inGX3 : ∀ w ∈ u_ws RX3 TX3 16, w ∈ GW := List.forall_mem_cons.mpr ⟨mw_19, List.forall_mem_cons.mpr ⟨mw_20, List.forall_mem_cons.mpr ⟨mw_21, List.forall_mem_cons.mpr ⟨mw_22, List.forall_mem_cons.mpr ⟨mw_23, List.forall_mem_cons.mpr ⟨mw_24, List.forall_mem_cons.mpr ⟨mw_25, List.forall_mem_cons.mpr ⟨mw_26, List.forall_mem_cons.mpr ⟨mw_27, List.forall_mem_cons.mpr ⟨mw_28, List.forall_mem_cons.mpr ⟨mw_29, List.forall_mem_cons.mpr ⟨mw_30, List.forall_mem_cons.mpr ⟨mw_31, List.forall_mem_cons.mpr ⟨mw_32, List.forall_mem_cons.mpr ⟨mw_33, List.forall_mem_cons.mpr ⟨mw_34, fun _ h => absurd h List.not_mem_nil⟩⟩⟩⟩⟩⟩⟩⟩⟩⟩⟩⟩⟩⟩⟩⟩
set_option maxRecDepth 20000 in
theorem inGX4 : ∀ w ∈ u_ws RX4 TX4 7, w ∈ GW := List.forall_mem_cons.mpr ⟨mw_35, List.forall_mem_cons.mpr ⟨mw_36, List.forall_mem_cons.mpr ⟨mw_37, List.forall_mem_cons.mpr ⟨mw_38, List.forall_mem_cons.mpr ⟨mw_39, List.forall_mem_cons.mpr ⟨mw_40, List.forall_mem_cons.mpr ⟨mw_41, fun _ h => absurd h List.not_mem_nil⟩⟩⟩⟩⟩⟩⟩
set_option maxRecDepth 20000 in
theorem inGX5 : ∀ w ∈ u_ws RX5 TX5 8, w ∈ GW := List.forall_mem_cons.mpr ⟨mw_42, List.forall_mem_cons.mpr ⟨mw_43, List.forall_mem_cons.mpr ⟨mw_44, List.forall_mem_cons.mpr ⟨mw_45, List.forall_mem_cons.mpr ⟨mw_46, List.forall_mem_cons.mpr ⟨mw_47, List.forall_mem_cons.mpr ⟨mw_48, List.forall_mem_cons.mpr ⟨mw_49, fun _ h => absurd h List.not_mem_nil⟩⟩⟩⟩⟩⟩⟩⟩
set_option maxRecDepth 20000 in
theorem inGX6 : ∀ w ∈ u_ws RX6 TX6 9, w ∈ GW := List.forall_mem_cons.mpr ⟨mw_50, List.forall_mem_cons.mpr ⟨mw_51, List.forall_mem_cons.mpr ⟨mw_52, List.forall_mem_cons.mpr ⟨mw_53, List.forall_mem_cons.mpr ⟨mw_54, List.forall_mem_cons.mpr ⟨mw_55, List.forall_mem_cons.mpr ⟨mw_56, List.forall_mem_cons.mpr ⟨mw_57, List.forall_mem_cons.mpr ⟨mw_58, fun _ h => absurd h List.not_mem_nil⟩⟩⟩⟩⟩⟩⟩⟩⟩
set_option maxRecDepth 20000 in
theorem inGX7 : ∀ w ∈ u_ws RX7 TX7 6, w ∈ GW := List.forall_mem_cons.mpr ⟨mw_59, List.forall_mem_cons.mpr ⟨mw_60, List.forall_mem_cons.mpr ⟨mw_61, List.forall_mem_cons.mpr ⟨mw_62, List.forall_mem_cons.mpr ⟨mw_63, List.forall_mem_cons.mpr ⟨mw_64, fun _ h => absurd h List.not_mem_nil⟩⟩⟩⟩⟩⟩
set_option maxRecDepth 20000 in
theorem inGX8 : ∀ w ∈ u_ws RX8 TX8 32, w ∈ GW := List.forall_mem_cons.mpr ⟨mw_65, List.forall_mem_cons.mpr ⟨mw_66, List.forall_mem_cons.mpr ⟨mw_67, List.forall_mem_cons.mpr ⟨mw_68, List.forall_mem_cons.mpr ⟨mw_69, List.forall_mem_cons.mpr ⟨mw_70, List.forall_mem_cons.mpr ⟨mw_71, List.forall_mem_cons.mpr ⟨mw_72, List.forall_mem_cons.mpr ⟨mw_73, List.forall_mem_cons.mpr ⟨mw_74, List.forall_mem_cons.mpr ⟨mw_75, List.forall_mem_cons.mpr ⟨mw_76, List.forall_mem_cons.mpr ⟨mw_77, List.forall_mem_cons.mpr ⟨mw_78, List.forall_mem_cons.mpr ⟨mw_79, List.forall_mem_cons.mpr ⟨mw_80, List.forall_mem_cons.mpr ⟨mw_81, List.forall_mem_cons.mpr ⟨mw_82, List.forall_mem_cons.mpr ⟨mw_83, List.forall_mem_cons.mpr ⟨mw_84, List.forall_mem_cons.mpr ⟨mw_85, List.forall_mem_cons.mpr ⟨mw_86, List.forall_mem_cons.mpr ⟨mw_87, List.forall_mem_cons.mpr ⟨mw_88, List.forall_mem_cons.mpr ⟨mw_89, List.forall_mem_cons.mpr ⟨mw_90, List.forall_mem_cons.mpr ⟨mw_91, List.forall_mem_cons.mpr ⟨mw_92, List.forall_mem_cons.mpr ⟨mw_93, List.forall_mem_cons.mpr ⟨mw_94, List.forall_mem_cons.mpr ⟨mw_95, List.forall_mem_cons.mpr ⟨mw_96, fun _ h => absurd h List.not_mem_nil⟩⟩⟩⟩⟩⟩⟩⟩⟩⟩⟩⟩⟩⟩⟩⟩⟩⟩⟩⟩⟩⟩⟩⟩⟩⟩⟩⟩⟩⟩⟩⟩
abbrev TY (cI cJ cZ : ClassId) : List (ClassId × FieldType) := [(cI, .int), (cJ, .long), (cZ, .boolean)]
theorem vp_no0 {i : Int32} {n : Nat} (h : i < 0) : ¬ vp_in i n := fun z => z (Or.inl h)
theorem vp_no1 {i : Int32} {n : Nat} (hn : n < 2 ^ 31) (h0 : ¬ i < 0) (h : nI n ≤ i) : ¬ vp_in i n := fun z => by
  rw [vp_in_iff] at z
  rw [Int32.le_iff_toInt_le, nI_toInt hn] at h
  omega
theorem vp_yes {i : Int32} {n : Nat} (hn : n < 2 ^ 31) (h0 : ¬ i < 0) (h : ¬ nI n ≤ i) : vp_in i n := by
  rw [vp_in_iff]
  rw [Int32.lt_iff_toInt_lt, Int32.toInt_zero] at h0
  rw [Int32.le_iff_toInt_le, nI_toInt hn] at h
  omega
theorem lushr0 (y : Int32) : ((0 : Int64).toUInt64 >>> (y.toInt64.toUInt64 &&& Int64.toUInt64 63)).toInt64 = 0 := by
  have h : ∀ z : UInt64, ((0 : Int64).toUInt64 >>> z) = 0 := fun z => by
    apply UInt64.toNat_inj.mp
    rw [UInt64.toNat_shiftRight]
    show (0 : Nat) >>> _ = 0
    exact Nat.zero_shiftRight _
  rw [h]
  rfl
theorem lshr0 (y : Int32) : (0 : Int64) >>> (y.toInt64 &&& 63) = 0 := by
  apply Int64.toBitVec_inj.mp
  simp [Int64.toBitVec_shiftRight]
theorem zand (y : Int64) : 0 &&& y = 0 := by
  apply Int64.toBitVec_inj.mp
  simp
theorem putcI {f9 f : Nat → Int32} {n : Nat} {i v : Int32} (hf : f = fun _ => v) (h1 : vp_in i n → f9 = upd f i.toNatClampNeg v) (h2 : ¬ vp_in i n → f9 = f) : f9 = fun _ => v := by
  by_cases h : vp_in i n
  · rw [h1 h, hf]; funext j; simp [upd]
  · rw [h2 h, hf]
theorem putcL {f9 f : Nat → Int64} {n : Nat} {i : Int32} {v : Int64} (hf : f = fun _ => v) (h1 : vp_in i n → f9 = vp_updL f i.toNatClampNeg v) (h2 : ¬ vp_in i n → f9 = f) : f9 = fun _ => v := by
  by_cases h : vp_in i n
  · rw [h1 h, hf]; funext j; simp [vp_updL]
  · rw [h2 h, hf]
theorem set_same {w : va_W} {q0 : Nat} {e : Nat × va_E} (hq : w[q0]? = some e) : w.set q0 e = w := by
  obtain ⟨h, e9⟩ := List.getElem?_eq_some_iff.mp hq
  apply List.ext_getElem?
  intro j
  by_cases hj : j = q0
  · subst hj
    rw [List.getElem?_set_self h, hq]
  · rw [List.getElem?_set_ne (Ne.symm hj)]
set_option maxHeartbeats 4000000 in
set_option maxRecDepth 100000 in
theorem c_at (l : Launch) (D : va_G) (cI cJ cZ : ClassId) (w : va_W) (q0 a n : Nat) (f : Nat → Int32) (i : Int32) (hq : w[q0]? = some (a, .inl (cI, n, .inl f))) (hn : n < 2 ^ 31) : CT l D (TY cI cJ cZ) yX7_at (.code yX7_at cX7_at 2 (some Jvm.ClassFile.FieldType.int)) 0 0 0 w [.ref a, .int i] (QI D (TY cI cJ cZ) (fun r u => (vp_in i n → r = f i.toNatClampNeg) ∧ (¬ vp_in i n → r = 0) ∧ u = w)) := by
  refine ent (by decide) (Nat.le_of_ble_eq_true rfl) ?_
  intro p e s m below meth c ls A hx hb hr hg hown hml hlocks hnm hP hK hD hS hA hN hl
  have hl : lv_has ls 2 [(0, .ref a), (1, .int i)] := hl
  refine lv_aload_n hx hb dX7_at_0 rfl (lv_at hl 0 rfl) ?_
  refine lv_ifnull hx hb dX7_at_1 ?_
  refine lv_iload_n hx hb dX7_at_4 rfl (lv_at hl 1 rfl) ?_
  refine lv_if_lt (tgt := 20) hx hb dX7_at_5 (by decide) (fun c_5 => ?_) (fun c_5 => ?_)
  · refine lv_iconst (v := 0) hx hb dX7_at_20 (by decide) ?_
    exact W.iret (v := 0) hx hb hr (fun t ht hW => ⟨⟨0, w, rfl, ⟨fun h => absurd h (vp_no0 c_5), fun _ => rfl, rfl⟩, ⟨by rw [ht]; exact hP, va_K.moved hW.alike hK, hD⟩⟩, hS.F ht⟩) hS.2.2 dX7_at_21
  · refine lv_iload_n hx hb dX7_at_8 rfl (lv_at hl 1 rfl) ?_
    refine lv_aload_n hx hb dX7_at_9 rfl (lv_at hl 0 rfl) ?_
    refine va_alen (v := (nI n)) hx hb hK hP q0 0 hq rfl rfl dX7_at_10 ?_
    refine lv_icmp_ge (tgt := 20) hx hb dX7_at_11 (by decide) (fun c_11 => ?_) (fun c_11 => ?_)
    · refine lv_iconst (v := 0) hx hb dX7_at_20 (by decide) ?_
      exact W.iret (v := 0) hx hb hr (fun t ht hW => ⟨⟨0, w, rfl, ⟨fun h => absurd h (vp_no1 hn c_5 c_11), fun _ => rfl, rfl⟩, ⟨by rw [ht]; exact hP, va_K.moved hW.alike hK, hD⟩⟩, hS.F ht⟩) hS.2.2 dX7_at_21
    · refine lv_aload_n hx hb dX7_at_14 rfl (lv_at hl 0 rfl) ?_
      refine lv_iload_n hx hb dX7_at_15 rfl (lv_at hl 1 rfl) ?_
      refine va_iald hx hb hK hP q0 0 hq rfl (vp_yes hn c_5 c_11) dX7_at_16 ?_
      refine lv_goto (tgt := 21) hx hb dX7_at_17 (by decide) ?_
      exact W.iret (v := (f (i : Int32).toNatClampNeg)) hx hb hr (fun t ht hW => ⟨⟨(f (i : Int32).toNatClampNeg), w, rfl, ⟨fun _ => rfl, fun h => absurd (vp_yes hn c_5 c_11) h, rfl⟩, ⟨by rw [ht]; exact hP, va_K.moved hW.alike hK, hD⟩⟩, hS.F ht⟩) hS.2.2 dX7_at_21
set_option maxHeartbeats 4000000 in
set_option maxRecDepth 100000 in
theorem c_atL (l : Launch) (D : va_G) (cI cJ cZ : ClassId) (w : va_W) (q0 a n : Nat) (f : Nat → Int64) (i : Int32) (hq : w[q0]? = some (a, .inl (cJ, n, .inr (.inl f)))) (hn : n < 2 ^ 31) : CT l D (TY cI cJ cZ) yX7_at_ (.code yX7_at_ cX7_at_ 2 (some Jvm.ClassFile.FieldType.long)) 0 0 0 w [.ref a, .int i] (QL D (TY cI cJ cZ) (fun r u => (vp_in i n → r = f i.toNatClampNeg) ∧ (¬ vp_in i n → r = 0) ∧ u = w)) := by
  refine ent (by decide) (Nat.le_of_ble_eq_true rfl) ?_
  intro p e s m below meth c ls A hx hb hr hg hown hml hlocks hnm hP hK hD hS hA hN hl
  have hl : lv_has ls 2 [(0, .ref a), (1, .int i)] := hl
  refine lv_aload_n hx hb dX7_at__0 rfl (lv_at hl 0 rfl) ?_
  refine lv_ifnull hx hb dX7_at__1 ?_
  refine lv_iload_n hx hb dX7_at__4 rfl (lv_at hl 1 rfl) ?_
  refine lv_if_lt (tgt := 20) hx hb dX7_at__5 (by decide) (fun c_5 => ?_) (fun c_5 => ?_)
  · refine lv_lconst (v := 0) hx hb dX7_at__20 (by decide) ?_
    exact W.lret (v := 0) hx hb hr (fun t ht hW => ⟨⟨0, w, rfl, ⟨fun h => absurd h (vp_no0 c_5), fun _ => rfl, rfl⟩, ⟨by rw [ht]; exact hP, va_K.moved hW.alike hK, hD⟩⟩, hS.F ht⟩) hS.2.2 dX7_at__21
  · refine lv_iload_n hx hb dX7_at__8 rfl (lv_at hl 1 rfl) ?_
    refine lv_aload_n hx hb dX7_at__9 rfl (lv_at hl 0 rfl) ?_
    refine va_alen (v := (nI n)) hx hb hK hP q0 1 hq rfl rfl dX7_at__10 ?_
    refine lv_icmp_ge (tgt := 20) hx hb dX7_at__11 (by decide) (fun c_11 => ?_) (fun c_11 => ?_)
    · refine lv_lconst (v := 0) hx hb dX7_at__20 (by decide) ?_
      exact W.lret (v := 0) hx hb hr (fun t ht hW => ⟨⟨0, w, rfl, ⟨fun h => absurd h (vp_no1 hn c_5 c_11), fun _ => rfl, rfl⟩, ⟨by rw [ht]; exact hP, va_K.moved hW.alike hK, hD⟩⟩, hS.F ht⟩) hS.2.2 dX7_at__21
    · refine lv_aload_n hx hb dX7_at__14 rfl (lv_at hl 0 rfl) ?_
      refine lv_iload_n hx hb dX7_at__15 rfl (lv_at hl 1 rfl) ?_
      refine va_lald hx hb hK hP q0 1 hq rfl (vp_yes hn c_5 c_11) dX7_at__16 ?_
      refine lv_goto (tgt := 21) hx hb dX7_at__17 (by decide) ?_
      exact W.lret (v := (f (i : Int32).toNatClampNeg)) hx hb hr (fun t ht hW => ⟨⟨(f (i : Int32).toNatClampNeg), w, rfl, ⟨fun _ => rfl, fun h => absurd (vp_yes hn c_5 c_11) h, rfl⟩, ⟨by rw [ht]; exact hP, va_K.moved hW.alike hK, hD⟩⟩, hS.F ht⟩) hS.2.2 dX7_at__21
set_option maxHeartbeats 4000000 in
set_option maxRecDepth 100000 in
theorem c_put (l : Launch) (D : va_G) (cI cJ cZ : ClassId) (w : va_W) (q0 a n : Nat) (f : Nat → Int32) (i : Int32) (v : Int32) (hq : w[q0]? = some (a, .inl (cI, n, .inl f))) (hn : n < 2 ^ 31) : CT l D (TY cI cJ cZ) yX7_put (.code yX7_put cX7_put 3 (none : Option FieldType)) 0 0 0 w [.ref a, .int i, .int v] (QV D (TY cI cJ cZ) (fun z => ∃ f9, z = w.set q0 (a, .inl (cI, n, .inl f9)) ∧ (vp_in i n → f9 = upd f i.toNatClampNeg v) ∧ (¬ vp_in i n → f9 = f))) := by
  refine ent (by decide) (Nat.le_of_ble_eq_true rfl) ?_
  intro p e s m below meth c ls A hx hb hr hg hown hml hlocks hnm hP hK hD hS hA hN hl
  have hl : lv_has ls 3 [(0, .ref a), (1, .int i), (2, .int v)] := hl
  refine lv_aload_n hx hb dX7_put_0 rfl (lv_at hl 0 rfl) ?_
  refine lv_ifnull hx hb dX7_put_1 ?_
  refine lv_iload_n hx hb dX7_put_4 rfl (lv_at hl 1 rfl) ?_
  refine lv_if_lt (tgt := 18) hx hb dX7_put_5 (by decide) (fun c_5 => ?_) (fun c_5 => ?_)
  · exact W.vret hx hb hr (fun t ht hW => ⟨⟨w, rfl, ⟨f, (set_same hq).symm, fun h => absurd h (vp_no0 c_5), fun _ => rfl⟩, ⟨by rw [ht]; exact hP, va_K.moved hW.alike hK, hD⟩⟩, hS.F ht⟩) hS.2.2 dX7_put_18
  · refine lv_iload_n hx hb dX7_put_8 rfl (lv_at hl 1 rfl) ?_
    refine lv_aload_n hx hb dX7_put_9 rfl (lv_at hl 0 rfl) ?_
    refine va_alen (v := (nI n)) hx hb hK hP q0 0 hq rfl rfl dX7_put_10 ?_
    refine lv_icmp_ge (tgt := 18) hx hb dX7_put_11 (by decide) (fun c_11 => ?_) (fun c_11 => ?_)
    · exact W.vret hx hb hr (fun t ht hW => ⟨⟨w, rfl, ⟨f, (set_same hq).symm, fun h => absurd h (vp_no1 hn c_5 c_11), fun _ => rfl⟩, ⟨by rw [ht]; exact hP, va_K.moved hW.alike hK, hD⟩⟩, hS.F ht⟩) hS.2.2 dX7_put_18
    · refine lv_aload_n hx hb dX7_put_14 rfl (lv_at hl 0 rfl) ?_
      refine lv_iload_n hx hb dX7_put_15 rfl (lv_at hl 1 rfl) ?_
      refine lv_iload_n hx hb dX7_put_16 rfl (lv_at hl 2 rfl) ?_
      refine va_iast hx hb hK hP hD hS q0 0 hq rfl (vp_yes hn c_5 c_11) dX7_put_17 (fun H locs hP hD hS => ?_)
      have hP : va_P D vwCl (w.set q0 (a, .inl (cI, n, .inl (upd f (i : Int32).toNatClampNeg v)))) H := hP
      have hD : va_D A (w.set q0 (a, .inl (cI, n, .inl (upd f (i : Int32).toNatClampNeg v)))) := hD
      exact W.vret hx hb hr (fun t ht hW => ⟨⟨(w.set q0 (a, .inl (cI, n, .inl (upd f (i : Int32).toNatClampNeg v)))), rfl, ⟨_, rfl, fun _ => rfl, fun h => absurd (vp_yes hn c_5 c_11) h⟩, ⟨by rw [ht]; exact hP, va_K.moved hW.alike hK, hD⟩⟩, hS.F ht⟩) hS.2.2 dX7_put_18
set_option maxHeartbeats 4000000 in
set_option maxRecDepth 100000 in
theorem c_putL (l : Launch) (D : va_G) (cI cJ cZ : ClassId) (w : va_W) (q0 a n : Nat) (f : Nat → Int64) (i : Int32) (v : Int64) (hq : w[q0]? = some (a, .inl (cJ, n, .inr (.inl f)))) (hn : n < 2 ^ 31) : CT l D (TY cI cJ cZ) yX7_put_ (.code yX7_put_ cX7_put_ 4 (none : Option FieldType)) 0 0 0 w [.ref a, .int i, .long v] (QV D (TY cI cJ cZ) (fun z => ∃ f9, z = w.set q0 (a, .inl (cJ, n, .inr (.inl f9))) ∧ (vp_in i n → f9 = vp_updL f i.toNatClampNeg v) ∧ (¬ vp_in i n → f9 = f))) := by
  refine ent (by decide) (Nat.le_of_ble_eq_true rfl) ?_
  intro p e s m below meth c ls A hx hb hr hg hown hml hlocks hnm hP hK hD hS hA hN hl
  have hl : lv_has ls 4 [(0, .ref a), (1, .int i), (2, .long v)] := hl
  refine lv_aload_n hx hb dX7_put__0 rfl (lv_at hl 0 rfl) ?_
  refine lv_ifnull hx hb dX7_put__1 ?_
  refine lv_iload_n hx hb dX7_put__4 rfl (lv_at hl 1 rfl) ?_
  refine lv_if_lt (tgt := 18) hx hb dX7_put__5 (by decide) (fun c_5 => ?_) (fun c_5 => ?_)
  · exact W.vret hx hb hr (fun t ht hW => ⟨⟨w, rfl, ⟨f, (set_same hq).symm, fun h => absurd h (vp_no0 c_5), fun _ => rfl⟩, ⟨by rw [ht]; exact hP, va_K.moved hW.alike hK, hD⟩⟩, hS.F ht⟩) hS.2.2 dX7_put__18
  · refine lv_iload_n hx hb dX7_put__8 rfl (lv_at hl 1 rfl) ?_
    refine lv_aload_n hx hb dX7_put__9 rfl (lv_at hl 0 rfl) ?_
    refine va_alen (v := (nI n)) hx hb hK hP q0 1 hq rfl rfl dX7_put__10 ?_
    refine lv_icmp_ge (tgt := 18) hx hb dX7_put__11 (by decide) (fun c_11 => ?_) (fun c_11 => ?_)
    · exact W.vret hx hb hr (fun t ht hW => ⟨⟨w, rfl, ⟨f, (set_same hq).symm, fun h => absurd h (vp_no1 hn c_5 c_11), fun _ => rfl⟩, ⟨by rw [ht]; exact hP, va_K.moved hW.alike hK, hD⟩⟩, hS.F ht⟩) hS.2.2 dX7_put__18
    · refine lv_aload_n hx hb dX7_put__14 rfl (lv_at hl 0 rfl) ?_
      refine lv_iload_n hx hb dX7_put__15 rfl (lv_at hl 1 rfl) ?_
      refine lv_lload_n hx hb dX7_put__16 rfl (lv_at hl 2 rfl) ?_
      refine va_last hx hb hK hP hD hS q0 1 hq rfl (vp_yes hn c_5 c_11) dX7_put__17 (fun H locs hP hD hS => ?_)
      have hP : va_P D vwCl (w.set q0 (a, .inl (cJ, n, .inr (.inl (vp_updL f (i : Int32).toNatClampNeg v))))) H := hP
      have hD : va_D A (w.set q0 (a, .inl (cJ, n, .inr (.inl (vp_updL f (i : Int32).toNatClampNeg v))))) := hD
      exact W.vret hx hb hr (fun t ht hW => ⟨⟨(w.set q0 (a, .inl (cJ, n, .inr (.inl (vp_updL f (i : Int32).toNatClampNeg v))))), rfl, ⟨_, rfl, fun _ => rfl, fun h => absurd (vp_yes hn c_5 c_11) h⟩, ⟨by rw [ht]; exact hP, va_K.moved hW.alike hK, hD⟩⟩, hS.F ht⟩) hS.2.2 dX7_put__18
set_option maxHeartbeats 4000000 in
set_option maxRecDepth 100000 in
theorem c_has0 (l : Launch) (D : va_G) (cI cJ cZ : ClassId) (w : va_W) (i : Int32) : CT l D (TY cI cJ cZ) yX7_has (.code yX7_has cX7_has 3 (some Jvm.ClassFile.FieldType.boolean)) 0 0 0 w [.long 0, .int i] (QI D (TY cI cJ cZ) (fun r u => r = 0 ∧ u = w)) := by
  refine ent (by decide) (Nat.le_of_ble_eq_true rfl) ?_
  intro p e s m below meth c ls A hx hb hr hg hown hml hlocks hnm hP hK hD hS hA hN hl
  have hl : lv_has ls 3 [(0, .long 0), (2, .int i)] := hl
  refine lv_lload_n hx hb dX7_has_0 rfl (lv_at hl 0 rfl) ?_
  refine lv_iload_n hx hb dX7_has_1 rfl (lv_at hl 1 rfl) ?_
  refine lv_lushr (v := 0) hx hb dX7_has_2 (lushr0 _) ?_
  refine lv_lconst (v := 1) hx hb dX7_has_3 (by decide) ?_
  refine lv_land hx hb dX7_has_4 ?_
  refine lv_topl (fun v_1 ev_1 => ?_)
  obtain rfl : v_1 = (0 : Int64) := ev_1.trans (by decide)
  refine lv_lconst (v := 0) hx hb dX7_has_5 (by decide) ?_
  refine W.lcmp hx hb dX7_has_6 ?_
  refine lv_topi (fun v_2 ev_2 => ?_)
  obtain rfl : v_2 = (0 : Int32) := ev_2.trans (by decide)
  refine lv_if_eq (tgt := 14) hx hb dX7_has_7 (by decide) (fun c_7 => ?_) (fun c_7 => absurd (by decide) c_7)
  refine lv_iconst (v := 0) hx hb dX7_has_14 (by decide) ?_
  exact W.zret (v := 0) hx hb hr rfl (fun t ht hW => ⟨⟨0, w, rfl, ⟨rfl, rfl⟩, ⟨by rw [ht]; exact hP, va_K.moved hW.alike hK, hD⟩⟩, hS.F ht⟩) hS.2.2 dX7_has_15
set_option maxHeartbeats 4000000 in
set_option maxRecDepth 100000 in
theorem c_bit (l : Launch) (D : va_G) (cI cJ cZ : ClassId) (w : va_W) (i : Int32) : CT l D (TY cI cJ cZ) yX7_bit (.code yX7_bit cX7_bit 1 (some Jvm.ClassFile.FieldType.long)) 0 0 0 w [.int i] (QL D (TY cI cJ cZ) (fun r u => u = w)) := by
  refine ent (by decide) (Nat.le_of_ble_eq_true rfl) ?_
  intro p e s m below meth c ls A hx hb hr hg hown hml hlocks hnm hP hK hD hS hA hN hl
  have hl : lv_has ls 1 [(0, .int i)] := hl
  refine lv_lconst (v := 1) hx hb dX7_bit_0 (by decide) ?_
  refine lv_iload_n hx hb dX7_bit_1 rfl (lv_at hl 0 rfl) ?_
  refine lv_lshl hx hb dX7_bit_2 rfl ?_
  refine lv_topl (fun v_1 ev_1 => ?_)
  exact W.lret (v := v_1) hx hb hr (fun t ht hW => ⟨⟨v_1, w, rfl, rfl, ⟨by rw [ht]; exact hP, va_K.moved hW.alike hK, hD⟩⟩, hS.F ht⟩) hS.2.2 dX7_bit_3
set_option maxHeartbeats 4000000 in
set_option maxRecDepth 100000 in
theorem c_jumps (l : Launch) (D : va_G) (cI cJ cZ : ClassId) (w : va_W) (k : Int32) : CT l D (TY cI cJ cZ) yX7_jumps (.code yX7_jumps cX7_jumps 1 (some Jvm.ClassFile.FieldType.boolean)) 0 0 0 w [.int k] (QI D (TY cI cJ cZ) (fun r u => (r = 1 ∧ (k = 1 ∨ k = 2) ∨ r = 0 ∧ ¬ k = 1 ∧ ¬ k = 2) ∧ u = w)) := by
  refine ent (by decide) (Nat.le_of_ble_eq_true rfl) ?_
  intro p e s m below meth c ls A hx hb hr hg hown hml hlocks hnm hP hK hD hS hA hN hl
  have hl : lv_has ls 1 [(0, .int k)] := hl
  refine lv_iload_n hx hb dX7_jumps_0 rfl (lv_at hl 0 rfl) ?_
  refine lv_iconst (v := 1) hx hb dX7_jumps_1 (by decide) ?_
  refine lv_icmp_eq (tgt := 10) hx hb dX7_jumps_2 (by decide) (fun c_2 => ?_) (fun c_2 => ?_)
  · refine lv_iconst (v := 1) hx hb dX7_jumps_10 (by decide) ?_
    refine lv_goto (tgt := 15) hx hb dX7_jumps_11 (by decide) ?_
    exact W.zret (v := 1) hx hb hr rfl (fun t ht hW => ⟨⟨1, w, rfl, ⟨by first | exact Or.inl ⟨rfl, Or.inl c_2⟩ | exact Or.inl ⟨rfl, Or.inl (Classical.not_not.mp c_2)⟩ | exact Or.inl ⟨rfl, Or.inr (Classical.not_not.mp c_7)⟩ | exact Or.inl ⟨rfl, Or.inr c_7⟩ | exact Or.inr ⟨rfl, c_2, c_7⟩, rfl⟩, ⟨by rw [ht]; exact hP, va_K.moved hW.alike hK, hD⟩⟩, hS.F ht⟩) hS.2.2 dX7_jumps_15
  · refine lv_iload_n hx hb dX7_jumps_5 rfl (lv_at hl 0 rfl) ?_
    refine lv_iconst (v := 2) hx hb dX7_jumps_6 (by decide) ?_
    refine lv_icmp_ne (tgt := 14) hx hb dX7_jumps_7 (by decide) (fun c_7 => ?_) (fun c_7 => ?_)
    · refine lv_iconst (v := 0) hx hb dX7_jumps_14 (by decide) ?_
      exact W.zret (v := 0) hx hb hr rfl (fun t ht hW => ⟨⟨0, w, rfl, ⟨by first | exact Or.inl ⟨rfl, Or.inl c_2⟩ | exact Or.inl ⟨rfl, Or.inl (Classical.not_not.mp c_2)⟩ | exact Or.inl ⟨rfl, Or.inr (Classical.not_not.mp c_7)⟩ | exact Or.inl ⟨rfl, Or.inr c_7⟩ | exact Or.inr ⟨rfl, c_2, c_7⟩, rfl⟩, ⟨by rw [ht]; exact hP, va_K.moved hW.alike hK, hD⟩⟩, hS.F ht⟩) hS.2.2 dX7_jumps_15
    · refine lv_iconst (v := 1) hx hb dX7_jumps_10 (by decide) ?_
      refine lv_goto (tgt := 15) hx hb dX7_jumps_11 (by decide) ?_
      exact W.zret (v := 1) hx hb hr rfl (fun t ht hW => ⟨⟨1, w, rfl, ⟨by first | exact Or.inl ⟨rfl, Or.inl c_2⟩ | exact Or.inl ⟨rfl, Or.inl (Classical.not_not.mp c_2)⟩ | exact Or.inl ⟨rfl, Or.inr (Classical.not_not.mp c_7)⟩ | exact Or.inl ⟨rfl, Or.inr c_7⟩ | exact Or.inr ⟨rfl, c_2, c_7⟩, rfl⟩, ⟨by rw [ht]; exact hP, va_K.moved hW.alike hK, hD⟩⟩, hS.F ht⟩) hS.2.2 dX7_jumps_15
set_option maxHeartbeats 4000000 in
set_option maxRecDepth 100000 in
theorem c_isTarget (l : Launch) (D : va_G) (cI cJ cZ : ClassId) (w : va_W) (k : Int32) : CT l D (TY cI cJ cZ) yX7_isTarget (.code yX7_isTarget cX7_isTarget 1 (some Jvm.ClassFile.FieldType.boolean)) 0 0 0 w [.int k] (QI D (TY cI cJ cZ) (fun r u => (r = 1 ∧ ¬ k < 0 ∧ ¬ 40 < k ∨ r = 0 ∧ (k < 0 ∨ 40 < k)) ∧ u = w)) := by
  refine ent (by decide) (Nat.le_of_ble_eq_true rfl) ?_
  intro p e s m below meth c ls A hx hb hr hg hown hml hlocks hnm hP hK hD hS hA hN hl
  have hl : lv_has ls 1 [(0, .int k)] := hl
  refine lv_iload_n hx hb dX7_isTarget_0 rfl (lv_at hl 0 rfl) ?_
  refine lv_if_lt (tgt := 14) hx hb dX7_isTarget_1 (by decide) (fun c_1 => ?_) (fun c_1 => ?_)
  · refine lv_iconst (v := 0) hx hb dX7_isTarget_14 (by decide) ?_
    exact W.zret (v := 0) hx hb hr rfl (fun t ht hW => ⟨⟨0, w, rfl, ⟨by first | exact Or.inr ⟨rfl, Or.inl c_1⟩ | exact Or.inr ⟨rfl, Or.inr c_7⟩ | exact Or.inl ⟨rfl, c_1, c_7⟩, rfl⟩, ⟨by rw [ht]; exact hP, va_K.moved hW.alike hK, hD⟩⟩, hS.F ht⟩) hS.2.2 dX7_isTarget_15
  · refine lv_iload_n hx hb dX7_isTarget_4 rfl (lv_at hl 0 rfl) ?_
    refine lv_bipush (v := 40) hx hb dX7_isTarget_5 (by decide) ?_
    refine lv_icmp_gt (tgt := 14) hx hb dX7_isTarget_7 (by decide) (fun c_7 => ?_) (fun c_7 => ?_)
    · refine lv_iconst (v := 0) hx hb dX7_isTarget_14 (by decide) ?_
      exact W.zret (v := 0) hx hb hr rfl (fun t ht hW => ⟨⟨0, w, rfl, ⟨by first | exact Or.inr ⟨rfl, Or.inl c_1⟩ | exact Or.inr ⟨rfl, Or.inr c_7⟩ | exact Or.inl ⟨rfl, c_1, c_7⟩, rfl⟩, ⟨by rw [ht]; exact hP, va_K.moved hW.alike hK, hD⟩⟩, hS.F ht⟩) hS.2.2 dX7_isTarget_15
    · refine lv_iconst (v := 1) hx hb dX7_isTarget_10 (by decide) ?_
      refine lv_goto (tgt := 15) hx hb dX7_isTarget_11 (by decide) ?_
      exact W.zret (v := 1) hx hb hr rfl (fun t ht hW => ⟨⟨1, w, rfl, ⟨by first | exact Or.inr ⟨rfl, Or.inl c_1⟩ | exact Or.inr ⟨rfl, Or.inr c_7⟩ | exact Or.inl ⟨rfl, c_1, c_7⟩, rfl⟩, ⟨by rw [ht]; exact hP, va_K.moved hW.alike hK, hD⟩⟩, hS.F ht⟩) hS.2.2 dX7_isTarget_15
