theorem dX4_ruledBy_0 : decode cX4_ruledBy 0 = .ok (.aload_n 0, 1) := by decide +kernel
theorem dX4_ruledBy_1 : decode cX4_ruledBy 1 = .ok (.getfield 24, 3) := by decide +kernel
theorem dX4_ruledBy_4 : decode cX4_ruledBy 4 = .ok (.aload_n 0, 1) := by decide +kernel
theorem dX4_ruledBy_5 : decode cX4_ruledBy 5 = .ok (.getfield 69, 3) := by decide +kernel
theorem dX4_ruledBy_8 : decode cX4_ruledBy 8 = .ok (.lconst 1, 1) := by decide +kernel
theorem dX4_ruledBy_9 : decode cX4_ruledBy 9 = .ok (.iload_n 1, 1) := by decide +kernel
theorem dX4_ruledBy_10 : decode cX4_ruledBy 10 = .ok (.invokestatic 72, 3) := by decide +kernel
theorem dX4_ruledBy_13 : decode cX4_ruledBy 13 = .ok (.invokestatic 65, 3) := by decide +kernel
theorem dX4_ruledBy_16 : decode cX4_ruledBy 16 = .ok (.ldc2_w 76, 3) := by decide +kernel
theorem dX4_ruledBy_19 : decode cX4_ruledBy 19 = .ok (.lxor, 1) := by decide +kernel
theorem dX4_ruledBy_20 : decode cX4_ruledBy 20 = .ok (.land, 1) := by decide +kernel
theorem dX4_ruledBy_21 : decode cX4_ruledBy 21 = .ok (.lreturn, 1) := by decide +kernel
theorem dX4_rules_0 : decode cX4_rules 0 = .ok (.aload_n 0, 1) := by decide +kernel
theorem dX4_rules_1 : decode cX4_rules 1 = .ok (.getfield 9, 3) := by decide +kernel
theorem dX4_rules_4 : decode cX4_rules 4 = .ok (.iload_n 1, 1) := by decide +kernel
theorem dX4_rules_5 : decode cX4_rules 5 = .ok (.invokestatic 61, 3) := by decide +kernel
theorem dX4_rules_8 : decode cX4_rules 8 = .ok (.iload_n 2, 1) := by decide +kernel
theorem dX4_rules_9 : decode cX4_rules 9 = .ok (.invokestatic 30, 3) := by decide +kernel
theorem dX4_rules_12 : decode cX4_rules 12 = .ok (.ireturn, 1) := by decide +kernel
theorem dX4_sortEdges_0 : decode cX4_sortEdges 0 = .ok (.iconst 0, 1) := by decide +kernel
theorem dX4_sortEdges_1 : decode cX4_sortEdges 1 = .ok (.istore_n 2, 1) := by decide +kernel
theorem dX4_sortEdges_2 : decode cX4_sortEdges 2 = .ok (.iload_n 2, 1) := by decide +kernel
theorem dX4_sortEdges_3 : decode cX4_sortEdges 3 = .ok (.bipush 40, 2) := by decide +kernel
theorem dX4_sortEdges_5 : decode cX4_sortEdges 5 = .ok (.if_icmp .ge 18, 3) := by decide +kernel
theorem dX4_sortEdges_8 : decode cX4_sortEdges 8 = .ok (.aload_n 0, 1) := by decide +kernel
theorem dX4_sortEdges_9 : decode cX4_sortEdges 9 = .ok (.getfield 21, 3) := by decide +kernel
theorem dX4_sortEdges_12 : decode cX4_sortEdges 12 = .ok (.iload_n 2, 1) := by decide +kernel
theorem dX4_sortEdges_13 : decode cX4_sortEdges 13 = .ok (.lconst 0, 1) := by decide +kernel
theorem dX4_sortEdges_14 : decode cX4_sortEdges 14 = .ok (.invokestatic 38, 3) := by decide +kernel
theorem dX4_sortEdges_17 : decode cX4_sortEdges 17 = .ok (.iinc 2 1, 3) := by decide +kernel
theorem dX4_sortEdges_20 : decode cX4_sortEdges 20 = .ok (.goto (-18), 3) := by decide +kernel
theorem dX4_sortEdges_23 : decode cX4_sortEdges 23 = .ok (.iconst 0, 1) := by decide +kernel
theorem dX4_sortEdges_24 : decode cX4_sortEdges 24 = .ok (.istore_n 2, 1) := by decide +kernel
theorem dX4_sortEdges_25 : decode cX4_sortEdges 25 = .ok (.iload_n 2, 1) := by decide +kernel
theorem dX4_sortEdges_26 : decode cX4_sortEdges 26 = .ok (.aload_n 1, 1) := by decide +kernel
theorem dX4_sortEdges_27 : decode cX4_sortEdges 27 = .ok (.getfield 78, 3) := by decide +kernel
theorem dX4_sortEdges_30 : decode cX4_sortEdges 30 = .ok (.if_icmp .ge 99, 3) := by decide +kernel
theorem dX4_sortEdges_33 : decode cX4_sortEdges 33 = .ok (.aload_n 1, 1) := by decide +kernel
theorem dX4_sortEdges_34 : decode cX4_sortEdges 34 = .ok (.getfield 81, 3) := by decide +kernel
theorem dX4_sortEdges_37 : decode cX4_sortEdges 37 = .ok (.iload_n 2, 1) := by decide +kernel
theorem dX4_sortEdges_38 : decode cX4_sortEdges 38 = .ok (.invokestatic 85, 3) := by decide +kernel
theorem dX4_sortEdges_41 : decode cX4_sortEdges 41 = .ok (.istore_n 3, 1) := by decide +kernel
theorem dX4_sortEdges_42 : decode cX4_sortEdges 42 = .ok (.aload_n 1, 1) := by decide +kernel
theorem dX4_sortEdges_43 : decode cX4_sortEdges 43 = .ok (.getfield 88, 3) := by decide +kernel
theorem dX4_sortEdges_46 : decode cX4_sortEdges 46 = .ok (.iload_n 2, 1) := by decide +kernel
theorem dX4_sortEdges_47 : decode cX4_sortEdges 47 = .ok (.invokestatic 85, 3) := by decide +kernel
theorem dX4_sortEdges_50 : decode cX4_sortEdges 50 = .ok (.istore 4, 2) := by decide +kernel
theorem dX4_sortEdges_52 : decode cX4_sortEdges 52 = .ok (.iload 4, 2) := by decide +kernel
theorem dX4_sortEdges_54 : decode cX4_sortEdges 54 = .ok (.ifCond .lt 69, 3) := by decide +kernel
theorem dX4_sortEdges_57 : decode cX4_sortEdges 57 = .ok (.aload_n 1, 1) := by decide +kernel
theorem dX4_sortEdges_58 : decode cX4_sortEdges 58 = .ok (.getfield 24, 3) := by decide +kernel
theorem dX4_sortEdges_61 : decode cX4_sortEdges 61 = .ok (.iload_n 3, 1) := by decide +kernel
theorem dX4_sortEdges_62 : decode cX4_sortEdges 62 = .ok (.invokestatic 30, 3) := by decide +kernel
theorem dX4_sortEdges_65 : decode cX4_sortEdges 65 = .ok (.ifCond .eq 58, 3) := by decide +kernel
theorem dX4_sortEdges_68 : decode cX4_sortEdges 68 = .ok (.aload_n 0, 1) := by decide +kernel
theorem dX4_sortEdges_69 : decode cX4_sortEdges 69 = .ok (.getfield 18, 3) := by decide +kernel
theorem dX4_sortEdges_72 : decode cX4_sortEdges 72 = .ok (.iload 4, 2) := by decide +kernel
theorem dX4_sortEdges_74 : decode cX4_sortEdges 74 = .ok (.aload_n 0, 1) := by decide +kernel
theorem dX4_sortEdges_75 : decode cX4_sortEdges 75 = .ok (.getfield 18, 3) := by decide +kernel
theorem dX4_sortEdges_78 : decode cX4_sortEdges 78 = .ok (.iload 4, 2) := by decide +kernel
theorem dX4_sortEdges_80 : decode cX4_sortEdges 80 = .ok (.invokestatic 61, 3) := by decide +kernel
theorem dX4_sortEdges_83 : decode cX4_sortEdges 83 = .ok (.iload_n 3, 1) := by decide +kernel
theorem dX4_sortEdges_84 : decode cX4_sortEdges 84 = .ok (.invokestatic 72, 3) := by decide +kernel
theorem dX4_sortEdges_87 : decode cX4_sortEdges 87 = .ok (.lor, 1) := by decide +kernel
theorem dX4_sortEdges_88 : decode cX4_sortEdges 88 = .ok (.invokestatic 38, 3) := by decide +kernel
theorem dX4_sortEdges_91 : decode cX4_sortEdges 91 = .ok (.aload_n 0, 1) := by decide +kernel
theorem dX4_sortEdges_92 : decode cX4_sortEdges 92 = .ok (.iload 4, 2) := by decide +kernel
theorem dX4_sortEdges_94 : decode cX4_sortEdges 94 = .ok (.iload_n 3, 1) := by decide +kernel
theorem dX4_sortEdges_95 : decode cX4_sortEdges 95 = .ok (.invokevirtual 91, 3) := by decide +kernel
theorem dX4_sortEdges_98 : decode cX4_sortEdges 98 = .ok (.ifCond .ne 25, 3) := by decide +kernel
theorem dX4_sortEdges_101 : decode cX4_sortEdges 101 = .ok (.aload_n 0, 1) := by decide +kernel
theorem dX4_sortEdges_102 : decode cX4_sortEdges 102 = .ok (.getfield 21, 3) := by decide +kernel
theorem dX4_sortEdges_105 : decode cX4_sortEdges 105 = .ok (.iload_n 3, 1) := by decide +kernel
theorem dX4_sortEdges_106 : decode cX4_sortEdges 106 = .ok (.aload_n 0, 1) := by decide +kernel
theorem dX4_sortEdges_107 : decode cX4_sortEdges 107 = .ok (.getfield 21, 3) := by decide +kernel
theorem dX4_sortEdges_110 : decode cX4_sortEdges 110 = .ok (.iload_n 3, 1) := by decide +kernel
theorem dX4_sortEdges_111 : decode cX4_sortEdges 111 = .ok (.invokestatic 61, 3) := by decide +kernel
theorem dX4_sortEdges_114 : decode cX4_sortEdges 114 = .ok (.iload 4, 2) := by decide +kernel
theorem dX4_sortEdges_116 : decode cX4_sortEdges 116 = .ok (.invokestatic 72, 3) := by decide +kernel
theorem dX4_sortEdges_119 : decode cX4_sortEdges 119 = .ok (.lor, 1) := by decide +kernel
theorem dX4_sortEdges_120 : decode cX4_sortEdges 120 = .ok (.invokestatic 38, 3) := by decide +kernel
theorem dX4_sortEdges_123 : decode cX4_sortEdges 123 = .ok (.iinc 2 1, 3) := by decide +kernel
theorem dX4_sortEdges_126 : decode cX4_sortEdges 126 = .ok (.goto (-101), 3) := by decide +kernel
theorem dX4_sortEdges_129 : decode cX4_sortEdges 129 = .ok (.return_, 1) := by decide +kernel
theorem dX4_closeLoop_0 : decode cX4_closeLoop 0 = .ok (.aload_n 0, 1) := by decide +kernel
theorem dX4_closeLoop_1 : decode cX4_closeLoop 1 = .ok (.getfield 18, 3) := by decide +kernel
theorem dX4_closeLoop_4 : decode cX4_closeLoop 4 = .ok (.iload_n 1, 1) := by decide +kernel
theorem dX4_closeLoop_5 : decode cX4_closeLoop 5 = .ok (.invokestatic 61, 3) := by decide +kernel
theorem dX4_closeLoop_8 : decode cX4_closeLoop 8 = .ok (.aload_n 0, 1) := by decide +kernel
theorem dX4_closeLoop_9 : decode cX4_closeLoop 9 = .ok (.getfield 9, 3) := by decide +kernel
theorem dX4_closeLoop_12 : decode cX4_closeLoop 12 = .ok (.iload_n 1, 1) := by decide +kernel
theorem dX4_closeLoop_13 : decode cX4_closeLoop 13 = .ok (.invokestatic 61, 3) := by decide +kernel
theorem dX4_closeLoop_16 : decode cX4_closeLoop 16 = .ok (.land, 1) := by decide +kernel
theorem dX4_closeLoop_17 : decode cX4_closeLoop 17 = .ok (.lstore_n 2, 1) := by decide +kernel
theorem dX4_closeLoop_18 : decode cX4_closeLoop 18 = .ok (.lload_n 2, 1) := by decide +kernel
theorem dX4_closeLoop_19 : decode cX4_closeLoop 19 = .ok (.lconst 0, 1) := by decide +kernel
theorem dX4_closeLoop_20 : decode cX4_closeLoop 20 = .ok (.lcmp, 1) := by decide +kernel
theorem dX4_closeLoop_21 : decode cX4_closeLoop 21 = .ok (.ifCond .eq 38, 3) := by decide +kernel
theorem dX4_closeLoop_24 : decode cX4_closeLoop 24 = .ok (.aload_n 0, 1) := by decide +kernel
theorem dX4_closeLoop_25 : decode cX4_closeLoop 25 = .ok (.getfield 15, 3) := by decide +kernel
theorem dX4_closeLoop_28 : decode cX4_closeLoop 28 = .ok (.iload_n 1, 1) := by decide +kernel
theorem dX4_closeLoop_29 : decode cX4_closeLoop 29 = .ok (.iload_n 1, 1) := by decide +kernel
theorem dX4_closeLoop_30 : decode cX4_closeLoop 30 = .ok (.invokestatic 72, 3) := by decide +kernel
theorem dX4_closeLoop_33 : decode cX4_closeLoop 33 = .ok (.aload_n 0, 1) := by decide +kernel
theorem dX4_closeLoop_34 : decode cX4_closeLoop 34 = .ok (.getfield 18, 3) := by decide +kernel
theorem dX4_closeLoop_37 : decode cX4_closeLoop 37 = .ok (.lload_n 2, 1) := by decide +kernel
theorem dX4_closeLoop_38 : decode cX4_closeLoop 38 = .ok (.iload_n 1, 1) := by decide +kernel
theorem dX4_closeLoop_39 : decode cX4_closeLoop 39 = .ok (.invokestatic 72, 3) := by decide +kernel
theorem dX4_closeLoop_42 : decode cX4_closeLoop 42 = .ok (.invokestatic 65, 3) := by decide +kernel
theorem dX4_closeLoop_45 : decode cX4_closeLoop 45 = .ok (.lor, 1) := by decide +kernel
theorem dX4_closeLoop_46 : decode cX4_closeLoop 46 = .ok (.invokestatic 38, 3) := by decide +kernel
theorem dX4_closeLoop_49 : decode cX4_closeLoop 49 = .ok (.aload_n 0, 1) := by decide +kernel
theorem dX4_closeLoop_50 : decode cX4_closeLoop 50 = .ok (.dup, 1) := by decide +kernel
theorem dX4_closeLoop_51 : decode cX4_closeLoop 51 = .ok (.getfield 46, 3) := by decide +kernel
theorem dX4_closeLoop_54 : decode cX4_closeLoop 54 = .ok (.iconst 1, 1) := by decide +kernel
theorem dX4_closeLoop_55 : decode cX4_closeLoop 55 = .ok (.iadd, 1) := by decide +kernel
theorem dX4_closeLoop_56 : decode cX4_closeLoop 56 = .ok (.putfield 46, 3) := by decide +kernel
theorem dX4_closeLoop_59 : decode cX4_closeLoop 59 = .ok (.return_, 1) := by decide +kernel
theorem dX4_rank_0 : decode cX4_rank 0 = .ok (.iconst 0, 1) := by decide +kernel
theorem dX4_rank_1 : decode cX4_rank 1 = .ok (.istore_n 2, 1) := by decide +kernel
theorem dX4_rank_2 : decode cX4_rank 2 = .ok (.iload_n 2, 1) := by decide +kernel
theorem dX4_rank_3 : decode cX4_rank 3 = .ok (.bipush 40, 2) := by decide +kernel
theorem dX4_rank_5 : decode cX4_rank 5 = .ok (.if_icmp .ge 55, 3) := by decide +kernel
theorem dX4_rank_8 : decode cX4_rank 8 = .ok (.aload_n 0, 1) := by decide +kernel
theorem dX4_rank_9 : decode cX4_rank 9 = .ok (.getfield 9, 3) := by decide +kernel
theorem dX4_rank_12 : decode cX4_rank 12 = .ok (.iload_n 2, 1) := by decide +kernel
theorem dX4_rank_13 : decode cX4_rank 13 = .ok (.aload_n 1, 1) := by decide +kernel
theorem dX4_rank_14 : decode cX4_rank 14 = .ok (.getfield 24, 3) := by decide +kernel
theorem dX4_rank_17 : decode cX4_rank 17 = .ok (.iload_n 2, 1) := by decide +kernel
theorem dX4_rank_18 : decode cX4_rank 18 = .ok (.invokestatic 30, 3) := by decide +kernel
theorem dX4_rank_21 : decode cX4_rank 21 = .ok (.ifCond .eq 11, 3) := by decide +kernel
theorem dX4_rank_24 : decode cX4_rank 24 = .ok (.aload_n 1, 1) := by decide +kernel
theorem dX4_rank_25 : decode cX4_rank 25 = .ok (.iload_n 2, 1) := by decide +kernel
theorem dX4_rank_26 : decode cX4_rank 26 = .ok (.invokestatic 34, 3) := by decide +kernel
theorem dX4_rank_29 : decode cX4_rank 29 = .ok (.goto 4, 3) := by decide +kernel
theorem dX4_rank_32 : decode cX4_rank 32 = .ok (.lconst 0, 1) := by decide +kernel
theorem dX4_rank_33 : decode cX4_rank 33 = .ok (.invokestatic 38, 3) := by decide +kernel
theorem dX4_rank_36 : decode cX4_rank 36 = .ok (.aload_n 0, 1) := by decide +kernel
theorem dX4_rank_37 : decode cX4_rank 37 = .ok (.getfield 18, 3) := by decide +kernel
theorem dX4_rank_40 : decode cX4_rank 40 = .ok (.iload_n 2, 1) := by decide +kernel
theorem dX4_rank_41 : decode cX4_rank 41 = .ok (.lconst 0, 1) := by decide +kernel
theorem dX4_rank_42 : decode cX4_rank 42 = .ok (.invokestatic 38, 3) := by decide +kernel
theorem dX4_rank_45 : decode cX4_rank 45 = .ok (.aload_n 0, 1) := by decide +kernel
theorem dX4_rank_46 : decode cX4_rank 46 = .ok (.getfield 15, 3) := by decide +kernel
theorem dX4_rank_49 : decode cX4_rank 49 = .ok (.iload_n 2, 1) := by decide +kernel
theorem dX4_rank_50 : decode cX4_rank 50 = .ok (.lconst 0, 1) := by decide +kernel
theorem dX4_rank_51 : decode cX4_rank 51 = .ok (.invokestatic 38, 3) := by decide +kernel
theorem dX4_rank_54 : decode cX4_rank 54 = .ok (.iinc 2 1, 3) := by decide +kernel
theorem dX4_rank_57 : decode cX4_rank 57 = .ok (.goto (-55), 3) := by decide +kernel
theorem dX4_rank_60 : decode cX4_rank 60 = .ok (.aload_n 0, 1) := by decide +kernel
theorem dX4_rank_61 : decode cX4_rank 61 = .ok (.aload_n 1, 1) := by decide +kernel
theorem dX4_rank_62 : decode cX4_rank 62 = .ok (.invokevirtual 42, 3) := by decide +kernel
theorem dX4_rank_65 : decode cX4_rank 65 = .ok (.aload_n 0, 1) := by decide +kernel
theorem dX4_rank_66 : decode cX4_rank 66 = .ok (.iconst 0, 1) := by decide +kernel
theorem dX4_rank_67 : decode cX4_rank 67 = .ok (.putfield 46, 3) := by decide +kernel
theorem dX4_rank_70 : decode cX4_rank 70 = .ok (.aload_n 0, 1) := by decide +kernel
theorem dX4_rank_71 : decode cX4_rank 71 = .ok (.iconst 1, 1) := by decide +kernel
theorem dX4_rank_72 : decode cX4_rank 72 = .ok (.putfield 50, 3) := by decide +kernel
theorem dX4_rank_75 : decode cX4_rank 75 = .ok (.iconst 0, 1) := by decide +kernel
theorem dX4_rank_76 : decode cX4_rank 76 = .ok (.istore_n 2, 1) := by decide +kernel
theorem dX4_rank_77 : decode cX4_rank 77 = .ok (.iload_n 2, 1) := by decide +kernel
theorem dX4_rank_78 : decode cX4_rank 78 = .ok (.aload_n 1, 1) := by decide +kernel
theorem dX4_rank_79 : decode cX4_rank 79 = .ok (.getfield 54, 3) := by decide +kernel
theorem dX4_rank_82 : decode cX4_rank 82 = .ok (.if_icmp .ge 42, 3) := by decide +kernel
theorem dX4_rank_85 : decode cX4_rank 85 = .ok (.aload_n 0, 1) := by decide +kernel
theorem dX4_rank_86 : decode cX4_rank 86 = .ok (.iload_n 2, 1) := by decide +kernel
theorem dX4_rank_87 : decode cX4_rank 87 = .ok (.invokevirtual 57, 3) := by decide +kernel
theorem dX4_rank_90 : decode cX4_rank 90 = .ok (.aload_n 0, 1) := by decide +kernel
theorem dX4_rank_91 : decode cX4_rank 91 = .ok (.getfield 21, 3) := by decide +kernel
theorem dX4_rank_94 : decode cX4_rank 94 = .ok (.aload_n 0, 1) := by decide +kernel
theorem dX4_rank_95 : decode cX4_rank 95 = .ok (.getfield 21, 3) := by decide +kernel
theorem dX4_rank_98 : decode cX4_rank 98 = .ok (.iload_n 2, 1) := by decide +kernel
theorem dX4_rank_99 : decode cX4_rank 99 = .ok (.invokestatic 61, 3) := by decide +kernel
theorem dX4_rank_102 : decode cX4_rank 102 = .ok (.lconst 0, 1) := by decide +kernel
theorem dX4_rank_103 : decode cX4_rank 103 = .ok (.invokestatic 65, 3) := by decide +kernel
theorem dX4_rank_106 : decode cX4_rank 106 = .ok (.iload_n 2, 1) := by decide +kernel
theorem dX4_rank_107 : decode cX4_rank 107 = .ok (.invokestatic 30, 3) := by decide +kernel
theorem dX4_rank_110 : decode cX4_rank 110 = .ok (.ifCond .eq 8, 3) := by decide +kernel
theorem dX4_rank_113 : decode cX4_rank 113 = .ok (.aload_n 0, 1) := by decide +kernel
theorem dX4_rank_114 : decode cX4_rank 114 = .ok (.iconst 0, 1) := by decide +kernel
theorem dX4_rank_115 : decode cX4_rank 115 = .ok (.putfield 50, 3) := by decide +kernel
theorem dX4_rank_118 : decode cX4_rank 118 = .ok (.iinc 2 1, 3) := by decide +kernel
theorem dX4_rank_121 : decode cX4_rank 121 = .ok (.goto (-44), 3) := by decide +kernel
theorem dX4_rank_124 : decode cX4_rank 124 = .ok (.return_, 1) := by decide +kernel
theorem dX4_nearestAbove_0 : decode cX4_nearestAbove 0 = .ok (.iconst (-1), 1) := by decide +kernel
theorem dX4_nearestAbove_1 : decode cX4_nearestAbove 1 = .ok (.istore_n 2, 1) := by decide +kernel
theorem dX4_nearestAbove_2 : decode cX4_nearestAbove 2 = .ok (.bipush 41, 2) := by decide +kernel
theorem dX4_nearestAbove_4 : decode cX4_nearestAbove 4 = .ok (.istore_n 3, 1) := by decide +kernel
theorem dX4_nearestAbove_5 : decode cX4_nearestAbove 5 = .ok (.iconst 0, 1) := by decide +kernel
theorem dX4_nearestAbove_6 : decode cX4_nearestAbove 6 = .ok (.istore 4, 2) := by decide +kernel
theorem dX4_nearestAbove_8 : decode cX4_nearestAbove 8 = .ok (.iload 4, 2) := by decide +kernel
theorem dX4_nearestAbove_10 : decode cX4_nearestAbove 10 = .ok (.bipush 40, 2) := by decide +kernel
theorem dX4_nearestAbove_12 : decode cX4_nearestAbove 12 = .ok (.if_icmp .ge 51, 3) := by decide +kernel
theorem dX4_nearestAbove_15 : decode cX4_nearestAbove 15 = .ok (.aload_n 0, 1) := by decide +kernel
theorem dX4_nearestAbove_16 : decode cX4_nearestAbove 16 = .ok (.getfield 9, 3) := by decide +kernel
theorem dX4_nearestAbove_19 : decode cX4_nearestAbove 19 = .ok (.iload 4, 2) := by decide +kernel
theorem dX4_nearestAbove_21 : decode cX4_nearestAbove 21 = .ok (.invokestatic 61, 3) := by decide +kernel
theorem dX4_nearestAbove_24 : decode cX4_nearestAbove 24 = .ok (.invokestatic 95, 3) := by decide +kernel
theorem dX4_nearestAbove_27 : decode cX4_nearestAbove 27 = .ok (.istore 5, 2) := by decide +kernel
theorem dX4_nearestAbove_29 : decode cX4_nearestAbove 29 = .ok (.iload 4, 2) := by decide +kernel
theorem dX4_nearestAbove_31 : decode cX4_nearestAbove 31 = .ok (.iload_n 1, 1) := by decide +kernel
theorem dX4_nearestAbove_32 : decode cX4_nearestAbove 32 = .ok (.if_icmp .eq 25, 3) := by decide +kernel
theorem dX4_nearestAbove_35 : decode cX4_nearestAbove 35 = .ok (.aload_n 0, 1) := by decide +kernel
theorem dX4_nearestAbove_36 : decode cX4_nearestAbove 36 = .ok (.iload 4, 2) := by decide +kernel
theorem dX4_nearestAbove_38 : decode cX4_nearestAbove 38 = .ok (.iload_n 1, 1) := by decide +kernel
theorem dX4_nearestAbove_39 : decode cX4_nearestAbove 39 = .ok (.invokevirtual 91, 3) := by decide +kernel
theorem dX4_nearestAbove_42 : decode cX4_nearestAbove 42 = .ok (.ifCond .eq 15, 3) := by decide +kernel
theorem dX4_nearestAbove_45 : decode cX4_nearestAbove 45 = .ok (.iload 5, 2) := by decide +kernel
theorem dX4_nearestAbove_47 : decode cX4_nearestAbove 47 = .ok (.iload_n 3, 1) := by decide +kernel
theorem dX4_nearestAbove_48 : decode cX4_nearestAbove 48 = .ok (.if_icmp .ge 9, 3) := by decide +kernel
theorem dX4_nearestAbove_51 : decode cX4_nearestAbove 51 = .ok (.iload 4, 2) := by decide +kernel
theorem dX4_nearestAbove_53 : decode cX4_nearestAbove 53 = .ok (.istore_n 2, 1) := by decide +kernel
theorem dX4_nearestAbove_54 : decode cX4_nearestAbove 54 = .ok (.iload 5, 2) := by decide +kernel
theorem dX4_nearestAbove_56 : decode cX4_nearestAbove 56 = .ok (.istore_n 3, 1) := by decide +kernel
theorem dX4_nearestAbove_57 : decode cX4_nearestAbove 57 = .ok (.iinc 4 1, 3) := by decide +kernel
theorem dX4_nearestAbove_60 : decode cX4_nearestAbove 60 = .ok (.goto (-52), 3) := by decide +kernel
theorem dX4_nearestAbove_63 : decode cX4_nearestAbove 63 = .ok (.iload_n 2, 1) := by decide +kernel
theorem dX4_nearestAbove_64 : decode cX4_nearestAbove 64 = .ok (.ireturn, 1) := by decide +kernel
theorem dX4_goesBack_0 : decode cX4_goesBack 0 = .ok (.aload_n 1, 1) := by decide +kernel
theorem dX4_goesBack_1 : decode cX4_goesBack 1 = .ok (.getfield 88, 3) := by decide +kernel
theorem dX4_goesBack_4 : decode cX4_goesBack 4 = .ok (.iload_n 2, 1) := by decide +kernel
theorem dX4_goesBack_5 : decode cX4_goesBack 5 = .ok (.invokestatic 85, 3) := by decide +kernel
theorem dX4_goesBack_8 : decode cX4_goesBack 8 = .ok (.istore_n 3, 1) := by decide +kernel
theorem dX4_goesBack_9 : decode cX4_goesBack 9 = .ok (.iload_n 3, 1) := by decide +kernel
theorem dX4_goesBack_10 : decode cX4_goesBack 10 = .ok (.ifCond .lt 23, 3) := by decide +kernel
theorem dX4_goesBack_13 : decode cX4_goesBack 13 = .ok (.aload_n 0, 1) := by decide +kernel
theorem dX4_goesBack_14 : decode cX4_goesBack 14 = .ok (.iload_n 3, 1) := by decide +kernel
theorem dX4_goesBack_15 : decode cX4_goesBack 15 = .ok (.aload_n 1, 1) := by decide +kernel
theorem dX4_goesBack_16 : decode cX4_goesBack 16 = .ok (.getfield 81, 3) := by decide +kernel
theorem dX4_goesBack_19 : decode cX4_goesBack 19 = .ok (.iload_n 2, 1) := by decide +kernel
theorem dX4_goesBack_20 : decode cX4_goesBack 20 = .ok (.invokestatic 85, 3) := by decide +kernel
theorem dX4_goesBack_23 : decode cX4_goesBack 23 = .ok (.invokevirtual 91, 3) := by decide +kernel
theorem dX4_goesBack_26 : decode cX4_goesBack 26 = .ok (.ifCond .eq 7, 3) := by decide +kernel
theorem dX4_goesBack_29 : decode cX4_goesBack 29 = .ok (.iconst 1, 1) := by decide +kernel
theorem dX4_goesBack_30 : decode cX4_goesBack 30 = .ok (.goto 4, 3) := by decide +kernel
theorem dX4_goesBack_33 : decode cX4_goesBack 33 = .ok (.iconst 0, 1) := by decide +kernel
theorem dX4_goesBack_34 : decode cX4_goesBack 34 = .ok (.ireturn, 1) := by decide +kernel
theorem dX4_loopsAround_0 : decode cX4_loopsAround 0 = .ok (.iconst 0, 1) := by decide +kernel
theorem dX4_loopsAround_1 : decode cX4_loopsAround 1 = .ok (.istore_n 2, 1) := by decide +kernel
theorem dX4_loopsAround_2 : decode cX4_loopsAround 2 = .ok (.iconst 0, 1) := by decide +kernel
theorem dX4_loopsAround_3 : decode cX4_loopsAround 3 = .ok (.istore_n 3, 1) := by decide +kernel
theorem dX4_loopsAround_4 : decode cX4_loopsAround 4 = .ok (.iload_n 3, 1) := by decide +kernel
theorem dX4_loopsAround_5 : decode cX4_loopsAround 5 = .ok (.bipush 40, 2) := by decide +kernel
theorem dX4_loopsAround_7 : decode cX4_loopsAround 7 = .ok (.if_icmp .ge 27, 3) := by decide +kernel
theorem dX4_loopsAround_10 : decode cX4_loopsAround 10 = .ok (.aload_n 0, 1) := by decide +kernel
theorem dX4_loopsAround_11 : decode cX4_loopsAround 11 = .ok (.getfield 15, 3) := by decide +kernel
theorem dX4_loopsAround_14 : decode cX4_loopsAround 14 = .ok (.iload_n 3, 1) := by decide +kernel
theorem dX4_loopsAround_15 : decode cX4_loopsAround 15 = .ok (.invokestatic 61, 3) := by decide +kernel
theorem dX4_loopsAround_18 : decode cX4_loopsAround 18 = .ok (.iload_n 1, 1) := by decide +kernel
theorem dX4_loopsAround_19 : decode cX4_loopsAround 19 = .ok (.invokestatic 30, 3) := by decide +kernel
theorem dX4_loopsAround_22 : decode cX4_loopsAround 22 = .ok (.ifCond .eq 6, 3) := by decide +kernel
theorem dX4_loopsAround_25 : decode cX4_loopsAround 25 = .ok (.iinc 2 1, 3) := by decide +kernel
theorem dX4_loopsAround_28 : decode cX4_loopsAround 28 = .ok (.iinc 3 1, 3) := by decide +kernel
theorem dX4_loopsAround_31 : decode cX4_loopsAround 31 = .ok (.goto (-27), 3) := by decide +kernel
theorem dX4_loopsAround_34 : decode cX4_loopsAround 34 = .ok (.iload_n 2, 1) := by decide +kernel
theorem dX4_loopsAround_35 : decode cX4_loopsAround 35 = .ok (.ireturn, 1) := by decide +kernel
theorem mw_123 : Cond.constantLong RX4 76 (-1) ∈ GW := gw_mem (inT2 _ (List.mem_of_getElem? (i := 162) rfl)) rfl
theorem mw_124 : Cond.fieldLink RX4 9 "OrielChart$Ranks" "ruled" "[J" ∈ GW := gw_mem (inT1 _ (List.mem_of_getElem? (i := 129) rfl)) rfl
theorem mw_125 : Cond.fieldLink RX4 18 "OrielChart$Ranks" "previous" "[J" ∈ GW := gw_mem (inT1 _ (List.mem_of_getElem? (i := 132) rfl)) rfl
theorem mw_126 : Cond.code yX4_rules cX4_rules 3 (some Jvm.ClassFile.FieldType.boolean) ∈ GW := gw_mem (inT2 _ (List.mem_of_getElem? (i := 173) rfl)) rfl
theorem mw_127 : Cond.methodLink RX4 91 yX4_rules ∈ GW := gw_mem (inT2 _ (List.mem_of_getElem? (i := 170) rfl)) rfl
theorem mw_128 : Cond.instanceMethod yX4_rules ∈ GW := gw_mem (inT2 _ (List.mem_of_getElem? (i := 171) rfl)) rfl
theorem mw_129 : Cond.selects RX4 yX4_rules yX4_rules ∈ GW := gw_mem (inT2 _ (List.mem_of_getElem? (i := 172) rfl)) rfl
theorem mw_130 : Cond.initialized RX4 ∈ GW := gw_mem (inT1 _ (List.mem_of_getElem? (i := 4) rfl)) rfl
theorem mw_131 : Cond.fieldLink RX4 21 "OrielChart$Ranks" "onward" "[J" ∈ GW := gw_mem (inT1 _ (List.mem_of_getElem? (i := 133) rfl)) rfl
theorem mw_132 : Cond.fieldLink RX4 15 "OrielChart$Ranks" "loop" "[J" ∈ GW := gw_mem (inT1 _ (List.mem_of_getElem? (i := 130) rfl)) rfl
theorem mw_133 : Cond.fieldLink RX4 46 "OrielChart$Ranks" "loopCount" "I" ∈ GW := gw_mem (inT1 _ (List.mem_of_getElem? (i := 134) rfl)) rfl
theorem mw_134 : Cond.code yX4_sortEdges cX4_sortEdges 5 (none : Option FieldType) ∈ GW := gw_mem (inT2 _ (List.mem_of_getElem? (i := 167) rfl)) rfl
theorem mw_135 : Cond.methodLink RX4 42 yX4_sortEdges ∈ GW := gw_mem (inT2 _ (List.mem_of_getElem? (i := 164) rfl)) rfl
theorem mw_136 : Cond.instanceMethod yX4_sortEdges ∈ GW := gw_mem (inT2 _ (List.mem_of_getElem? (i := 166) rfl)) rfl
theorem mw_137 : Cond.selects RX4 yX4_sortEdges yX4_sortEdges ∈ GW := gw_mem (inTp (q := (yX4_sortEdges, 7)) (List.mem_of_getElem? (i := 5) rfl)) rfl
theorem mw_138 : Cond.fieldLink RX4 50 "OrielChart$Ranks" "tame" "Z" ∈ GW := gw_mem (inT1 _ (List.mem_of_getElem? (i := 136) rfl)) rfl
theorem mw_139 : Cond.code yX4_closeLoop cX4_closeLoop 4 (none : Option FieldType) ∈ GW := gw_mem (inT2 _ (List.mem_of_getElem? (i := 177) rfl)) rfl
theorem mw_140 : Cond.methodLink RX4 57 yX4_closeLoop ∈ GW := gw_mem (inT2 _ (List.mem_of_getElem? (i := 174) rfl)) rfl
theorem mw_141 : Cond.instanceMethod yX4_closeLoop ∈ GW := gw_mem (inT2 _ (List.mem_of_getElem? (i := 176) rfl)) rfl
theorem mw_142 : Cond.selects RX4 yX4_closeLoop yX4_closeLoop ∈ GW := gw_mem (inTp (q := (yX4_closeLoop, 7)) (List.mem_of_getElem? (i := 6) rfl)) rfl
theorem mw_143 : Cond.code yX4_ruledBy cX4_ruledBy 2 (some Jvm.ClassFile.FieldType.long) ∈ GW := gw_mem (inT2 _ (List.mem_of_getElem? (i := 159) rfl)) rfl
theorem mw_144 : Cond.methodLink RX4 34 yX4_ruledBy ∈ GW := gw_mem (inT2 _ (List.mem_of_getElem? (i := 157) rfl)) rfl
theorem mw_145 : Cond.static yX4_ruledBy ∈ GW := gw_mem (inT2 _ (List.mem_of_getElem? (i := 158) rfl)) rfl
theorem mw_146 : Cond.methodLink RX4 95 yJ13_bitCount_95d88 ∈ GW := gw_mem (inT3 _ (List.mem_of_getElem? (i := 103) rfl)) rfl
theorem pdv_X4_rules : yX4_rules.cls = RX4 ∧ yX4_rules.cls ≠ "java/lang/invoke/MethodHandle" ∧ yX4_rules.cls ≠ "java/lang/invoke/VarHandle" ∧ (parseMethodDescriptor yX4_rules.desc).map (fun d => d.parameters.length) = some 2 := by decide +kernel
theorem pdv_X4_sortEdges : yX4_sortEdges.cls = RX4 ∧ yX4_sortEdges.cls ≠ "java/lang/invoke/MethodHandle" ∧ yX4_sortEdges.cls ≠ "java/lang/invoke/VarHandle" ∧ (parseMethodDescriptor yX4_sortEdges.desc).map (fun d => d.parameters.length) = some 1 := by decide +kernel
theorem pdv_X4_closeLoop : yX4_closeLoop.cls = RX4 ∧ yX4_closeLoop.cls ≠ "java/lang/invoke/MethodHandle" ∧ yX4_closeLoop.cls ≠ "java/lang/invoke/VarHandle" ∧ (parseMethodDescriptor yX4_closeLoop.desc).map (fun d => d.parameters.length) = some 1 := by decide +kernel
theorem pd_X4_ruledBy : yX4_ruledBy.cls ≠ "java/lang/invoke/MethodHandle" ∧ yX4_ruledBy.cls ≠ "java/lang/invoke/VarHandle" ∧ (parseMethodDescriptor yX4_ruledBy.desc).map (fun d => d.parameters.length) = some 2 := by decide +kernel
set_option maxHeartbeats 4000000 in
set_option maxRecDepth 100000 in
theorem c_ruledBy (l : Launch) (D : va_G) (cI cJ : ClassId) (ad : Nat → Nat) (co fl ra li re wa pi : Ob) (k1 : Int32) : CT l D (TY cI cJ) yX4_ruledBy (.code yX4_ruledBy cX4_ruledBy 2 (some Jvm.ClassFile.FieldType.long)) 3 0 0 (XW ad cI cJ co fl ra li re wa pi) [.ref (ad 2), .int k1] (QL D (TY cI cJ) (fun r u => r = (ruledBy fl k1) ∧ u = (XW ad cI cJ co fl ra li re wa pi))) := by
  refine ent (by decide) (Nat.le_of_ble_eq_true rfl) ?_
  intro p e s m below meth c ls A hx hb hr hg hown hml hlocks hnm hP hK hD hS hA hN hl
  have hl : lv_has ls 2 [(0, .ref (ad 2)), (1, .int k1)] := hl
  refine lv_aload_n hx hb dX4_ruledBy_0 rfl (lv_at hl 0 rfl) ?_
  refine va_getN (D := D) (ci := 1) (v := .long (gl fl 0)) (C := RX1) (T := TX1) (N := 11) hx hb hg inGX1 hown hK hP 2 rfl rfl 9 (by decide) (hN.use nw_33) (fun _ h9 => h9) rfl dX4_ruledBy_1 ?_
  refine lv_aload_n hx hb dX4_ruledBy_4 rfl (lv_at hl 0 rfl) ?_
  refine va_getN (D := D) (ci := 1) (v := .ref (ad 18)) (C := RX1) (T := TX1) (N := 11) hx hb hg inGX1 hown hK hP 2 rfl rfl 6 (by decide) (hN.use nw_23) (fun _ h9 => h9) rfl dX4_ruledBy_5 ?_
  refine lv_lconst (v := 1) hx hb dX4_ruledBy_8 (by decide) ?_
  refine lv_iload_n hx hb dX4_ruledBy_9 rfl (lv_at hl 1 rfl) ?_
  refine kL (rSN hx hb hml hown hg hN hK hP hD (c_bit l D cI cJ (XW ad cI cJ co fl ra li re wa pi) k1) mw_78 nw_74 mw_80 mw_77 pd_X7_bit ⟨Nat.le_of_ble_eq_true rfl, Nat.le_of_ble_eq_true rfl⟩ rfl hl.1 rfl (Nat.le_of_ble_eq_true rfl) dX4_ruledBy_10 ⟨Nat.le_of_ble_eq_true rfl, Nat.le_of_ble_eq_true rfl⟩) hD hS hA (fun r_1 u_1 H locs hp hP hD hS => ?_)
  obtain ⟨er, eu⟩ := hp
  obtain rfl := er.symm
  obtain rfl := eu.symm
  refine kL (rSN hx hb hml hown hg hN hK hP hD (c_spread l D cI cJ (XW ad cI cJ co fl ra li re wa pi) 18 (ad 18) (gB fl 0) 1 (bitL k1) rfl) mw_116 nw_75 mw_117 mw_77 pd_X7_spread ⟨Nat.le_of_ble_eq_true rfl, Nat.le_of_ble_eq_true rfl⟩ rfl hl.1 rfl (Nat.le_of_ble_eq_true rfl) dX4_ruledBy_13 ⟨Nat.le_of_ble_eq_true rfl, Nat.le_of_ble_eq_true rfl⟩) hD hS hA (fun r_2 u_2 H locs hp hP hD hS => ?_)
  obtain ⟨er, eu⟩ := hp
  obtain rfl := er.symm
  obtain rfl := eu.symm
  refine lv_ldc2 (v := (-1)) hx hb hown (hg _ mw_123) dX4_ruledBy_16 ?_
  refine lv_lxor hx hb dX4_ruledBy_19 ?_
  refine lv_land hx hb dX4_ruledBy_20 ?_
  exact W.lret (v := ((gl fl 0) &&& ((spread (gB fl 0) 1 (bitL k1)) ^^^ (-1)))) hx hb hr (fun t ht hW => ⟨⟨((gl fl 0) &&& ((spread (gB fl 0) 1 (bitL k1)) ^^^ (-1))), (XW ad cI cJ co fl ra li re wa pi), rfl, ⟨(show (((gl fl 0) &&& ((spread (gB fl 0) 1 (bitL k1)) ^^^ (-1))) : Int64) = (ruledBy fl k1) from (by first | with_reducible rfl | (simp only [ruledBy, gi_sl, gi_sA, gi_sB, gi_si_s, gi_si_n, gl_si, gl_sA, gl_sB, gl_sl_s, gl_sl_n, gA_si, gA_sl, gA_sB, gA_sA_s, gA_sA_n, gB_si, gB_sl, gB_sA, gB_sB_s, gB_sB_n, Nat.reduceBEq, if_true, if_false, eq_self, Bool.false_eq_true, reduceCtorEq, not_true_eq_false, not_false_eq_true, decide_true, decide_false, cond_true, cond_false, Bool.true_and, Bool.false_and, Bool.and_true, Bool.and_false, Bool.true_or, Bool.false_or, Bool.or_true, Bool.or_false, b2i_tt, b2i_ff]; done) | rfl)), xw_eq rfl rfl rfl rfl rfl rfl rfl⟩, ⟨by rw [ht]; exact hP, va_K.moved hW.alike hK, hD⟩⟩, hS.F ht⟩) hS.2.2 dX4_ruledBy_21
set_option maxHeartbeats 4000000 in
set_option maxRecDepth 100000 in
theorem c_rules (l : Launch) (D : va_G) (cI cJ : ClassId) (ad : Nat → Nat) (co fl ra li re wa pi : Ob) (k1 : Int32) (k2 : Int32) : CT l D (TY cI cJ) yX4_rules (.code yX4_rules cX4_rules 3 (some Jvm.ClassFile.FieldType.boolean)) 1 0 0 (XW ad cI cJ co fl ra li re wa pi) [.ref (ad 3), .int k1, .int k2] (QI D (TY cI cJ) (fun r u => r = (b2i (hs (rdL (gB ra 0) 40 k1) k2)) ∧ u = (XW ad cI cJ co fl ra li re wa pi))) := by
  refine ent (by decide) (Nat.le_of_ble_eq_true rfl) ?_
  intro p e s m below meth c ls A hx hb hr hg hown hml hlocks hnm hP hK hD hS hA hN hl
  have hl : lv_has ls 3 [(0, .ref (ad 3)), (1, .int k1), (2, .int k2)] := hl
  refine lv_aload_n hx hb dX4_rules_0 rfl (lv_at hl 0 rfl) ?_
  refine va_get (D := D) (ci := 4) (v := .ref (ad 19)) (C := RX4) (T := TX4) (N := 7) hx hb hg inGX4 hown hK hP 3 rfl rfl 0 (by decide) (hg _ mw_124) (fun _ h9 => h9) rfl dX4_rules_1 ?_
  refine lv_iload_n hx hb dX4_rules_4 rfl (lv_at hl 1 rfl) ?_
  refine kL (rSN hx hb hml hown hg hN hK hP hD (c_atL l D cI cJ (XW ad cI cJ co fl ra li re wa pi) 19 (ad 19) 40 (gB ra 0) k1 rfl (by decide)) mw_81 nw_78 mw_83 mw_77 pd_X7_at_ ⟨Nat.le_of_ble_eq_true rfl, Nat.le_of_ble_eq_true rfl⟩ rfl hl.1 rfl (Nat.le_of_ble_eq_true rfl) dX4_rules_5 ⟨Nat.le_of_ble_eq_true rfl, Nat.le_of_ble_eq_true rfl⟩) hD hS hA (fun r_1 u_1 H locs hp hP hD hS => ?_)
  obtain ⟨er, eu⟩ := hp
  obtain rfl := er.symm
  obtain rfl := eu.symm
  refine lv_iload_n hx hb dX4_rules_8 rfl (lv_at hl 2 rfl) ?_
  refine kI (rSN hx hb hml hown hg hN hK hP hD (c_has l D cI cJ (XW ad cI cJ co fl ra li re wa pi) (rdL (gB ra 0) 40 k1) k2) mw_89 nw_73 mw_90 mw_77 pd_X7_has ⟨Nat.le_of_ble_eq_true rfl, Nat.le_of_ble_eq_true rfl⟩ rfl hl.1 rfl (Nat.le_of_ble_eq_true rfl) dX4_rules_9 ⟨Nat.le_of_ble_eq_true rfl, Nat.le_of_ble_eq_true rfl⟩) hD hS hA (fun r_2 u_2 H locs hp hP hD hS => ?_)
  obtain ⟨er, eu⟩ := hp
  obtain rfl := er.symm
  obtain rfl := eu.symm
  exact W.zret (v := (b2i (hs (rdL (gB ra 0) 40 k1) k2))) hx hb hr nar_b2i (fun t ht hW => ⟨⟨(b2i (hs (rdL (gB ra 0) 40 k1) k2)), (XW ad cI cJ co fl ra li re wa pi), rfl, ⟨rfl, xw_eq rfl rfl rfl rfl rfl rfl rfl⟩, ⟨by rw [ht]; exact hP, va_K.moved hW.alike hK, hD⟩⟩, hS.F ht⟩) hS.2.2 dX4_rules_12
set_option maxHeartbeats 4000000 in
set_option maxRecDepth 100000 in
theorem c_sortEdges (l : Launch) (D : va_G) (cI cJ : ClassId) (ad : Nat → Nat) (co fl ra li re wa pi : Ob) : CT l D (TY cI cJ) yX4_sortEdges (.code yX4_sortEdges cX4_sortEdges 5 (none : Option FieldType)) 2 0 0 (XW ad cI cJ co fl ra li re wa pi) [.ref (ad 3), .ref (ad 2)] (QV D (TY cI cJ) (fun u => u = (XW ad cI cJ co fl (sortEdges fl ra) li re wa pi))) := by
  refine ent (by decide) (Nat.le_of_ble_eq_true rfl) ?_
  intro p e s m below meth c ls A hx hb hr hg hown hml hlocks hnm hP hK hD hS hA hN hl
  have hl : lv_has ls 5 [(0, .ref (ad 3)), (1, .ref (ad 2))] := hl
  refine lv_iconst (v := 0) hx hb dX4_sortEdges_0 (by decide) ?_
  refine lv_istore_n (lv' := [(2, .int 0), (0, .ref (ad 3)), (1, .ref (ad 2))]) hx hb dX4_sortEdges_1 rfl hl (by decide) rfl (fun ls hl => ?_)
  refine w_loop (σ := Ob) (fun (i_1 : Nat) (p_1 : Ob) (H : Heap) (locs : List Loc) (ls : Array Slot) => p_1 = (lp sortA i_1 ra) ∧ va_P D vwCl (XW ad cI cJ co fl p_1 li re wa pi) H ∧ va_D A (XW ad cI cJ co fl p_1 li re wa pi) ∧ va_S A s.heap H locs ∧ lv_has ls 5 [(0, .ref (ad 3)), (1, .ref (ad 2)), (2, .int (nI i_1))]) (40) (fun p_1 H locs ls hI => ?_) (fun i_1 p_1 H locs ls hi_1 hI ih_1 => ?_) 0 ra (Nat.zero_le _) ⟨rfl, hP, hD, hS, (by rw [nI_0]; exact lv_sub hl [1, 2, 0] rfl)⟩
  · obtain ⟨h_1, hP, hD, hS, hl⟩ := hI
    have h_1 := h_1.symm
    subst h_1
    have hP : va_P D vwCl (XW ad cI cJ co fl ((lp sortA (40) ra)) li re wa pi) H := hP
    have hD : va_D A (XW ad cI cJ co fl ((lp sortA (40) ra)) li re wa pi) := hD
    have hl : lv_has ls 5 [(0, .ref (ad 3)), (1, .ref (ad 2)), (2, .int (nI 40))] := hl
    refine lv_iload_n hx hb dX4_sortEdges_2 rfl (lv_at hl 2 rfl) ?_
    refine lv_bipush (v := 40) hx hb dX4_sortEdges_3 (by decide) ?_
    refine lv_icmp_ge (tgt := 23) hx hb dX4_sortEdges_5 (by decide) (fun _ => ?_) (fun c_5 => absurd (by decide) c_5)
    refine lv_iconst (v := 0) hx hb dX4_sortEdges_23 (by decide) ?_
    refine lv_istore_n (lv' := [(2, .int 0), (0, .ref (ad 3)), (1, .ref (ad 2))]) hx hb dX4_sortEdges_24 rfl hl (by decide) rfl (fun ls hl => ?_)
    refine w_loop (σ := Ob) (fun (i_2 : Nat) (p_2 : Ob) (H : Heap) (locs : List Loc) (ls : Array Slot) => p_2 = (lp (sortB fl) i_2 ((lp sortA (40) ra))) ∧ va_P D vwCl (XW ad cI cJ co fl p_2 li re wa pi) H ∧ va_D A (XW ad cI cJ co fl p_2 li re wa pi) ∧ va_S A s.heap H locs ∧ lv_has ls 5 [(0, .ref (ad 3)), (1, .ref (ad 2)), (2, .int (nI i_2))]) (nN (gi fl 1)) (fun p_2 H locs ls hI => ?_) (fun i_2 p_2 H locs ls hi_2 hI ih_2 => ?_) 0 ((lp sortA (40) ra)) (Nat.zero_le _) ⟨rfl, hP, hD, hS, (by rw [nI_0]; exact lv_sub hl [1, 2, 0] rfl)⟩
    · obtain ⟨h_2, hP, hD, hS, hl⟩ := hI
      have h_2 := h_2.symm
      subst h_2
      have hP : va_P D vwCl (XW ad cI cJ co fl ((lp (sortB fl) (nN (gi fl 1)) ((lp sortA (40) ra)))) li re wa pi) H := hP
      have hD : va_D A (XW ad cI cJ co fl ((lp (sortB fl) (nN (gi fl 1)) ((lp sortA (40) ra)))) li re wa pi) := hD
      have hl : lv_has ls 5 [(0, .ref (ad 3)), (1, .ref (ad 2)), (2, .int (nI ((nN (gi fl 1)))))] := hl
      refine lv_iload_n hx hb dX4_sortEdges_25 rfl (lv_at hl 2 rfl) ?_
      refine lv_aload_n hx hb dX4_sortEdges_26 rfl (lv_at hl 1 rfl) ?_
      refine va_getN (D := D) (ci := 1) (v := .int (gi fl 1)) (C := RX1) (T := TX1) (N := 11) hx hb hg inGX1 hown hK hP 2 rfl rfl 8 (by decide) (hN.use nw_30) (fun _ h9 => h9) rfl dX4_sortEdges_27 ?_
      refine lv_icmp_ge (tgt := 129) hx hb dX4_sortEdges_30 (by decide) (fun _ => ?_) (fun c_30 => absurd (lp_out _) c_30)
      exact W.vret hx hb hr (fun t ht hW => ⟨⟨(XW ad cI cJ co fl ((lp (sortB fl) (nN (gi fl 1)) ((lp sortA (40) ra)))) li re wa pi), rfl, xw_eq rfl rfl (show ((lp (sortB fl) (nN (gi fl 1)) ((lp sortA (40) ra)))) = (sortEdges fl ra) from (by first | with_reducible rfl | (simp only [sortEdges, gi_sl, gi_sA, gi_sB, gi_si_s, gi_si_n, gl_si, gl_sA, gl_sB, gl_sl_s, gl_sl_n, gA_si, gA_sl, gA_sB, gA_sA_s, gA_sA_n, gB_si, gB_sl, gB_sA, gB_sB_s, gB_sB_n, Nat.reduceBEq, if_true, if_false, eq_self, Bool.false_eq_true, reduceCtorEq, not_true_eq_false, not_false_eq_true, decide_true, decide_false, cond_true, cond_false, Bool.true_and, Bool.false_and, Bool.and_true, Bool.and_false, Bool.true_or, Bool.false_or, Bool.or_true, Bool.or_false, b2i_tt, b2i_ff]; done) | rfl)) rfl rfl rfl rfl, ⟨by rw [ht]; exact hP, va_K.moved hW.alike hK, hD⟩⟩, hS.F ht⟩) hS.2.2 dX4_sortEdges_129
    · obtain ⟨h_2, hP, hD, hS, hl⟩ := hI
      have hP : va_P D vwCl (XW ad cI cJ co fl p_2 li re wa pi) H := hP
      have hD : va_D A (XW ad cI cJ co fl p_2 li re wa pi) := hD
      have hl : lv_has ls 5 [(0, .ref (ad 3)), (1, .ref (ad 2)), (2, .int (nI i_2))] := hl
      refine lv_iload_n hx hb dX4_sortEdges_25 rfl (lv_at hl 2 rfl) ?_
      refine lv_aload_n hx hb dX4_sortEdges_26 rfl (lv_at hl 1 rfl) ?_
      refine va_getN (D := D) (ci := 1) (v := .int (gi fl 1)) (C := RX1) (T := TX1) (N := 11) hx hb hg inGX1 hown hK hP 2 rfl rfl 8 (by decide) (hN.use nw_30) (fun _ h9 => h9) rfl dX4_sortEdges_27 ?_
      refine lv_icmp_ge (tgt := 129) hx hb dX4_sortEdges_30 (by decide) (fun c_30 => absurd c_30 (lp_in hi_2)) (fun _ => ?_)
      refine lv_aload_n hx hb dX4_sortEdges_33 rfl (lv_at hl 1 rfl) ?_
      refine va_getN (D := D) (ci := 1) (v := .ref (ad 15)) (C := RX1) (T := TX1) (N := 11) hx hb hg inGX1 hown hK hP 2 rfl rfl 3 (by decide) (hN.use nw_16) (fun _ h9 => h9) rfl dX4_sortEdges_34 ?_
      refine lv_iload_n hx hb dX4_sortEdges_37 rfl (lv_at hl 2 rfl) ?_
      refine kI (rSN hx hb hml hown hg hN hK hP hD (c_at l D cI cJ (XW ad cI cJ co fl p_2 li re wa pi) 15 (ad 15) 80 (gA fl 3) (nI i_2) rfl (by decide)) mw_84 nw_77 mw_85 mw_77 pd_X7_at ⟨Nat.le_of_ble_eq_true rfl, Nat.le_of_ble_eq_true rfl⟩ rfl hl.1 rfl (Nat.le_of_ble_eq_true rfl) dX4_sortEdges_38 ⟨Nat.le_of_ble_eq_true rfl, Nat.le_of_ble_eq_true rfl⟩) hD hS hA (fun r_3 u_3 H locs hp hP hD hS => ?_)
      obtain ⟨er, eu⟩ := hp
      obtain rfl := er.symm
      obtain rfl := eu.symm
      refine lv_istore_n (lv' := [(3, .int (rd (gA fl 3) 80 (nI i_2))), (0, .ref (ad 3)), (1, .ref (ad 2)), (2, .int (nI i_2))]) hx hb dX4_sortEdges_41 rfl hl (by decide) rfl (fun ls hl => ?_)
      refine lv_aload_n hx hb dX4_sortEdges_42 rfl (lv_at hl 2 rfl) ?_
      refine va_getN (D := D) (ci := 1) (v := .ref (ad 16)) (C := RX1) (T := TX1) (N := 11) hx hb hg inGX1 hown hK hP 2 rfl rfl 4 (by decide) (hN.use nw_18) (fun _ h9 => h9) rfl dX4_sortEdges_43 ?_
      refine lv_iload_n hx hb dX4_sortEdges_46 rfl (lv_at hl 3 rfl) ?_
      refine kI (rSN hx hb hml hown hg hN hK hP hD (c_at l D cI cJ (XW ad cI cJ co fl p_2 li re wa pi) 16 (ad 16) 80 (gA fl 4) (nI i_2) rfl (by decide)) mw_84 nw_77 mw_85 mw_77 pd_X7_at ⟨Nat.le_of_ble_eq_true rfl, Nat.le_of_ble_eq_true rfl⟩ rfl hl.1 rfl (Nat.le_of_ble_eq_true rfl) dX4_sortEdges_47 ⟨Nat.le_of_ble_eq_true rfl, Nat.le_of_ble_eq_true rfl⟩) hD hS hA (fun r_4 u_4 H locs hp hP hD hS => ?_)
      obtain ⟨er, eu⟩ := hp
      obtain rfl := er.symm
      obtain rfl := eu.symm
      refine lv_istore (lv' := [(4, .int (rd (gA fl 4) 80 (nI i_2))), (3, .int (rd (gA fl 3) 80 (nI i_2))), (0, .ref (ad 3)), (1, .ref (ad 2)), (2, .int (nI i_2))]) hx hb dX4_sortEdges_50 hl (by decide) rfl (fun ls hl => ?_)
      refine lv_iload hx hb dX4_sortEdges_52 (lv_at hl 0 rfl) ?_
      refine lv_if_lt (tgt := 123) hx hb dX4_sortEdges_54 (by decide) (fun c_54 => ?_) (fun c_54 => ?_)
      · refine lv_iinc (v := (nI (i_2 + 1))) (lv' := [(2, .int (nI (i_2 + 1))), (4, .int (rd (gA fl 4) 80 (nI i_2))), (3, .int (rd (gA fl 3) 80 (nI i_2))), (0, .ref (ad 3)), (1, .ref (ad 2))]) hx hb dX4_sortEdges_123 hl (k := 4) rfl (nI_1 i_2) (by decide) rfl (fun ls hl => ?_)
        refine lv_goto (tgt := 25) hx hb dX4_sortEdges_126 (by decide) ?_
        exact ih_2 p_2 H locs ls ⟨((show p_2 = (sortB fl) i_2 p_2 from (by first | (simp only [sortB, sortD, sortC, rules, if_pos c_54, decide_eq_true c_54, decide_eq_false (not_not_intro c_54), gi_sl, gi_sA, gi_sB, gi_si_s, gi_si_n, gl_si, gl_sA, gl_sB, gl_sl_s, gl_sl_n, gA_si, gA_sl, gA_sB, gA_sA_s, gA_sA_n, gB_si, gB_sl, gB_sA, gB_sB_s, gB_sB_n, Nat.reduceBEq, if_true, if_false, eq_self, Bool.false_eq_true, reduceCtorEq, not_true_eq_false, not_false_eq_true, decide_true, decide_false, cond_true, cond_false, Bool.true_and, Bool.false_and, Bool.and_true, Bool.and_false, Bool.true_or, Bool.false_or, Bool.or_true, Bool.or_false, b2i_tt, b2i_ff]; done) | (simp only [sortB, sortD, sortC, rules, if_pos c_54, decide_eq_true c_54, decide_eq_false (not_not_intro c_54), gi_sl, gi_sA, gi_sB, gi_si_s, gi_si_n, gl_si, gl_sA, gl_sB, gl_sl_s, gl_sl_n, gA_si, gA_sl, gA_sB, gA_sA_s, gA_sA_n, gB_si, gB_sl, gB_sA, gB_sB_s, gB_sB_n, Nat.reduceBEq, if_true, if_false, eq_self, Bool.false_eq_true, reduceCtorEq, not_true_eq_false, not_false_eq_true, decide_true, decide_false, cond_true, cond_false, Bool.true_and, Bool.false_and, Bool.and_true, Bool.and_false, Bool.true_or, Bool.false_or, Bool.or_true, Bool.or_false, b2i_tt, b2i_ff]; rfl) | (simp [sortB, sortD, sortC, rules, c_54, gi_sl, gi_sA, gi_sB, gi_si_s, gi_si_n, gl_si, gl_sA, gl_sB, gl_sl_s, gl_sl_n, gA_si, gA_sl, gA_sB, gA_sA_s, gA_sA_n, gB_si, gB_sl, gB_sA, gB_sB_s, gB_sB_n, Nat.reduceBEq]; done))).trans (lp_go h_2)), hP, hD, hS, lv_sub hl [3, 4, 0] rfl⟩
      · refine lv_aload_n hx hb dX4_sortEdges_57 rfl (lv_at hl 3 rfl) ?_
        refine va_getN (D := D) (ci := 1) (v := .long (gl fl 0)) (C := RX1) (T := TX1) (N := 11) hx hb hg inGX1 hown hK hP 2 rfl rfl 9 (by decide) (hN.use nw_33) (fun _ h9 => h9) rfl dX4_sortEdges_58 ?_
        refine lv_iload_n hx hb dX4_sortEdges_61 rfl (lv_at hl 1 rfl) ?_
        refine kI (rSN hx hb hml hown hg hN hK hP hD (c_has l D cI cJ (XW ad cI cJ co fl p_2 li re wa pi) (gl fl 0) (rd (gA fl 3) 80 (nI i_2))) mw_89 nw_73 mw_90 mw_77 pd_X7_has ⟨Nat.le_of_ble_eq_true rfl, Nat.le_of_ble_eq_true rfl⟩ rfl hl.1 rfl (Nat.le_of_ble_eq_true rfl) dX4_sortEdges_62 ⟨Nat.le_of_ble_eq_true rfl, Nat.le_of_ble_eq_true rfl⟩) hD hS hA (fun r_5 u_5 H locs hp hP hD hS => ?_)
        obtain ⟨er, eu⟩ := hp
        obtain rfl := er.symm
        obtain rfl := eu.symm
        refine lv_if_eq (tgt := 123) hx hb dX4_sortEdges_65 (by decide) (fun c_65 => ?_) (fun c_65 => ?_)
        · have c_65 : ¬ (hs (gl fl 0) (rd (gA fl 3) 80 (nI i_2))) = true := b2i_0 c_65
          refine lv_iinc (v := (nI (i_2 + 1))) (lv' := [(2, .int (nI (i_2 + 1))), (4, .int (rd (gA fl 4) 80 (nI i_2))), (3, .int (rd (gA fl 3) 80 (nI i_2))), (0, .ref (ad 3)), (1, .ref (ad 2))]) hx hb dX4_sortEdges_123 hl (k := 4) rfl (nI_1 i_2) (by decide) rfl (fun ls hl => ?_)
          refine lv_goto (tgt := 25) hx hb dX4_sortEdges_126 (by decide) ?_
          exact ih_2 p_2 H locs ls ⟨((show p_2 = (sortB fl) i_2 p_2 from (by first | (simp only [sortB, sortD, sortC, rules, if_neg c_54, decide_eq_false c_54, decide_eq_true c_54, if_pos c_54, if_neg c_65, bf_of c_65, gi_sl, gi_sA, gi_sB, gi_si_s, gi_si_n, gl_si, gl_sA, gl_sB, gl_sl_s, gl_sl_n, gA_si, gA_sl, gA_sB, gA_sA_s, gA_sA_n, gB_si, gB_sl, gB_sA, gB_sB_s, gB_sB_n, Nat.reduceBEq, if_true, if_false, eq_self, Bool.false_eq_true, reduceCtorEq, not_true_eq_false, not_false_eq_true, decide_true, decide_false, cond_true, cond_false, Bool.true_and, Bool.false_and, Bool.and_true, Bool.and_false, Bool.true_or, Bool.false_or, Bool.or_true, Bool.or_false, b2i_tt, b2i_ff]; done) | (simp only [sortB, sortD, sortC, rules, if_neg c_54, decide_eq_false c_54, decide_eq_true c_54, if_pos c_54, if_neg c_65, bf_of c_65, gi_sl, gi_sA, gi_sB, gi_si_s, gi_si_n, gl_si, gl_sA, gl_sB, gl_sl_s, gl_sl_n, gA_si, gA_sl, gA_sB, gA_sA_s, gA_sA_n, gB_si, gB_sl, gB_sA, gB_sB_s, gB_sB_n, Nat.reduceBEq, if_true, if_false, eq_self, Bool.false_eq_true, reduceCtorEq, not_true_eq_false, not_false_eq_true, decide_true, decide_false, cond_true, cond_false, Bool.true_and, Bool.false_and, Bool.and_true, Bool.and_false, Bool.true_or, Bool.false_or, Bool.or_true, Bool.or_false, b2i_tt, b2i_ff]; rfl) | (simp [sortB, sortD, sortC, rules, c_54, c_65, gi_sl, gi_sA, gi_sB, gi_si_s, gi_si_n, gl_si, gl_sA, gl_sB, gl_sl_s, gl_sl_n, gA_si, gA_sl, gA_sB, gA_sA_s, gA_sA_n, gB_si, gB_sl, gB_sA, gB_sB_s, gB_sB_n, Nat.reduceBEq]; done))).trans (lp_go h_2)), hP, hD, hS, lv_sub hl [3, 4, 0] rfl⟩
        · have c_65 : (hs (gl fl 0) (rd (gA fl 3) 80 (nI i_2))) = true := b2i_1 c_65
          refine lv_aload_n hx hb dX4_sortEdges_68 rfl (lv_at hl 2 rfl) ?_
          refine va_get (D := D) (ci := 4) (v := .ref (ad 21)) (C := RX4) (T := TX4) (N := 7) hx hb hg inGX4 hown hK hP 3 rfl rfl 2 (by decide) (hg _ mw_125) (fun _ h9 => h9) rfl dX4_sortEdges_69 ?_
          refine lv_iload hx hb dX4_sortEdges_72 (lv_at hl 0 rfl) ?_
          refine lv_aload_n hx hb dX4_sortEdges_74 rfl (lv_at hl 2 rfl) ?_
          refine va_get (D := D) (ci := 4) (v := .ref (ad 21)) (C := RX4) (T := TX4) (N := 7) hx hb hg inGX4 hown hK hP 3 rfl rfl 2 (by decide) (hg _ mw_125) (fun _ h9 => h9) rfl dX4_sortEdges_75 ?_
          refine lv_iload hx hb dX4_sortEdges_78 (lv_at hl 0 rfl) ?_
          refine kL (rSN hx hb hml hown hg hN hK hP hD (c_atL l D cI cJ (XW ad cI cJ co fl p_2 li re wa pi) 21 (ad 21) 40 (gB p_2 2) (rd (gA fl 4) 80 (nI i_2)) rfl (by decide)) mw_81 nw_78 mw_83 mw_77 pd_X7_at_ ⟨Nat.le_of_ble_eq_true rfl, Nat.le_of_ble_eq_true rfl⟩ rfl hl.1 rfl (Nat.le_of_ble_eq_true rfl) dX4_sortEdges_80 ⟨Nat.le_of_ble_eq_true rfl, Nat.le_of_ble_eq_true rfl⟩) hD hS hA (fun r_6 u_6 H locs hp hP hD hS => ?_)
          obtain ⟨er, eu⟩ := hp
          obtain rfl := er.symm
          obtain rfl := eu.symm
          refine lv_iload_n hx hb dX4_sortEdges_83 rfl (lv_at hl 1 rfl) ?_
          refine kL (rSN hx hb hml hown hg hN hK hP hD (c_bit l D cI cJ (XW ad cI cJ co fl p_2 li re wa pi) (rd (gA fl 3) 80 (nI i_2))) mw_78 nw_74 mw_80 mw_77 pd_X7_bit ⟨Nat.le_of_ble_eq_true rfl, Nat.le_of_ble_eq_true rfl⟩ rfl hl.1 rfl (Nat.le_of_ble_eq_true rfl) dX4_sortEdges_84 ⟨Nat.le_of_ble_eq_true rfl, Nat.le_of_ble_eq_true rfl⟩) hD hS hA (fun r_7 u_7 H locs hp hP hD hS => ?_)
          obtain ⟨er, eu⟩ := hp
          obtain rfl := er.symm
          obtain rfl := eu.symm
          refine lv_lor hx hb dX4_sortEdges_87 ?_
          refine kV (rSN hx hb hml hown hg hN hK hP hD (c_putL l D cI cJ (XW ad cI cJ co fl p_2 li re wa pi) 21 (ad 21) 40 (gB p_2 2) (rd (gA fl 4) 80 (nI i_2)) ((rdL (gB p_2 2) 40 (rd (gA fl 4) 80 (nI i_2))) ||| (bitL (rd (gA fl 3) 80 (nI i_2)))) rfl (by decide)) mw_97 nw_76 mw_98 mw_77 pd_X7_put_ ⟨Nat.le_of_ble_eq_true rfl, Nat.le_of_ble_eq_true rfl⟩ rfl hl.1 rfl (Nat.le_of_ble_eq_true rfl) dX4_sortEdges_88 ⟨Nat.le_of_ble_eq_true rfl, Nat.le_of_ble_eq_true rfl⟩) hD hS hA (fun u_8 H locs hp hP hD hS => ?_)
          obtain rfl := hp.symm
          have hP : va_P D vwCl (XW ad cI cJ co fl (sB p_2 2 (wrL (gB p_2 2) 40 (rd (gA fl 4) 80 (nI i_2)) ((rdL (gB p_2 2) 40 (rd (gA fl 4) 80 (nI i_2))) ||| (bitL (rd (gA fl 3) 80 (nI i_2)))))) li re wa pi) H := hP
          have hD : va_D A (XW ad cI cJ co fl (sB p_2 2 (wrL (gB p_2 2) 40 (rd (gA fl 4) 80 (nI i_2)) ((rdL (gB p_2 2) 40 (rd (gA fl 4) 80 (nI i_2))) ||| (bitL (rd (gA fl 3) 80 (nI i_2)))))) li re wa pi) := hD
          refine lv_aload_n hx hb dX4_sortEdges_91 rfl (lv_at hl 2 rfl) ?_
          refine lv_iload hx hb dX4_sortEdges_92 (lv_at hl 0 rfl) ?_
          refine lv_iload_n hx hb dX4_sortEdges_94 rfl (lv_at hl 1 rfl) ?_
          refine kI (rV (q0 := 3) (ci := 4) hx hb hml hown hg hN hK hP hD (c_rules l D cI cJ ad co fl (sB p_2 2 (wrL (gB p_2 2) 40 (rd (gA fl 4) 80 (nI i_2)) ((rdL (gB p_2 2) 40 (rd (gA fl 4) 80 (nI i_2))) ||| (bitL (rd (gA fl 3) 80 (nI i_2)))))) li re wa pi (rd (gA fl 4) 80 (nI i_2)) (rd (gA fl 3) 80 (nI i_2))) mw_126 mw_127 mw_128 mw_129 mw_130 pdv_X4_rules ⟨Nat.le_of_ble_eq_true rfl, Nat.le_of_ble_eq_true rfl⟩ rfl rfl rfl hl.1 rfl (Nat.le_of_ble_eq_true rfl) dX4_sortEdges_95 ⟨Nat.le_of_ble_eq_true rfl, Nat.le_of_ble_eq_true rfl⟩) hD hS hA (fun r_9 u_9 H locs hp hP hD hS => ?_)
          obtain ⟨er, eu⟩ := hp
          obtain rfl := er.symm
          obtain rfl := eu.symm
          refine lv_if_ne (tgt := 123) hx hb dX4_sortEdges_98 (by decide) (fun c_98 => ?_) (fun c_98 => ?_)
          · have c_98 : (hs (rdL (gB p_2 0) 40 (rd (gA fl 4) 80 (nI i_2))) (rd (gA fl 3) 80 (nI i_2))) = true := b2i_1 c_98
            refine lv_iinc (v := (nI (i_2 + 1))) (lv' := [(2, .int (nI (i_2 + 1))), (4, .int (rd (gA fl 4) 80 (nI i_2))), (3, .int (rd (gA fl 3) 80 (nI i_2))), (0, .ref (ad 3)), (1, .ref (ad 2))]) hx hb dX4_sortEdges_123 hl (k := 4) rfl (nI_1 i_2) (by decide) rfl (fun ls hl => ?_)
            refine lv_goto (tgt := 25) hx hb dX4_sortEdges_126 (by decide) ?_
            exact ih_2 (sB p_2 2 (wrL (gB p_2 2) 40 (rd (gA fl 4) 80 (nI i_2)) ((rdL (gB p_2 2) 40 (rd (gA fl 4) 80 (nI i_2))) ||| (bitL (rd (gA fl 3) 80 (nI i_2)))))) H locs ls ⟨((show (sB p_2 2 (wrL (gB p_2 2) 40 (rd (gA fl 4) 80 (nI i_2)) ((rdL (gB p_2 2) 40 (rd (gA fl 4) 80 (nI i_2))) ||| (bitL (rd (gA fl 3) 80 (nI i_2)))))) = (sortB fl) i_2 p_2 from (by first | (simp only [sortB, sortD, sortC, rules, if_neg c_54, decide_eq_false c_54, decide_eq_true c_54, if_pos c_54, if_pos c_65, c_65, if_pos c_98, c_98, gi_sl, gi_sA, gi_sB, gi_si_s, gi_si_n, gl_si, gl_sA, gl_sB, gl_sl_s, gl_sl_n, gA_si, gA_sl, gA_sB, gA_sA_s, gA_sA_n, gB_si, gB_sl, gB_sA, gB_sB_s, gB_sB_n, Nat.reduceBEq, if_true, if_false, eq_self, Bool.false_eq_true, reduceCtorEq, not_true_eq_false, not_false_eq_true, decide_true, decide_false, cond_true, cond_false, Bool.true_and, Bool.false_and, Bool.and_true, Bool.and_false, Bool.true_or, Bool.false_or, Bool.or_true, Bool.or_false, b2i_tt, b2i_ff]; done) | (simp only [sortB, sortD, sortC, rules, if_neg c_54, decide_eq_false c_54, decide_eq_true c_54, if_pos c_54, if_pos c_65, c_65, if_pos c_98, c_98, gi_sl, gi_sA, gi_sB, gi_si_s, gi_si_n, gl_si, gl_sA, gl_sB, gl_sl_s, gl_sl_n, gA_si, gA_sl, gA_sB, gA_sA_s, gA_sA_n, gB_si, gB_sl, gB_sA, gB_sB_s, gB_sB_n, Nat.reduceBEq, if_true, if_false, eq_self, Bool.false_eq_true, reduceCtorEq, not_true_eq_false, not_false_eq_true, decide_true, decide_false, cond_true, cond_false, Bool.true_and, Bool.false_and, Bool.and_true, Bool.and_false, Bool.true_or, Bool.false_or, Bool.or_true, Bool.or_false, b2i_tt, b2i_ff]; rfl) | (simp [sortB, sortD, sortC, rules, c_54, c_65, c_98, gi_sl, gi_sA, gi_sB, gi_si_s, gi_si_n, gl_si, gl_sA, gl_sB, gl_sl_s, gl_sl_n, gA_si, gA_sl, gA_sB, gA_sA_s, gA_sA_n, gB_si, gB_sl, gB_sA, gB_sB_s, gB_sB_n, Nat.reduceBEq]; done))).trans (lp_go h_2)), hP, hD, hS, lv_sub hl [3, 4, 0] rfl⟩
          · have c_98 : ¬ (hs (rdL (gB p_2 0) 40 (rd (gA fl 4) 80 (nI i_2))) (rd (gA fl 3) 80 (nI i_2))) = true := b2i_0 c_98
            refine lv_aload_n hx hb dX4_sortEdges_101 rfl (lv_at hl 2 rfl) ?_
            refine va_get (D := D) (ci := 4) (v := .ref (ad 22)) (C := RX4) (T := TX4) (N := 7) hx hb hg inGX4 hown hK hP 3 rfl rfl 3 (by decide) (hg _ mw_131) (fun _ h9 => h9) rfl dX4_sortEdges_102 ?_
            refine lv_iload_n hx hb dX4_sortEdges_105 rfl (lv_at hl 1 rfl) ?_
            refine lv_aload_n hx hb dX4_sortEdges_106 rfl (lv_at hl 2 rfl) ?_
            refine va_get (D := D) (ci := 4) (v := .ref (ad 22)) (C := RX4) (T := TX4) (N := 7) hx hb hg inGX4 hown hK hP 3 rfl rfl 3 (by decide) (hg _ mw_131) (fun _ h9 => h9) rfl dX4_sortEdges_107 ?_
            refine lv_iload_n hx hb dX4_sortEdges_110 rfl (lv_at hl 1 rfl) ?_
            refine kL (rSN hx hb hml hown hg hN hK hP hD (c_atL l D cI cJ (XW ad cI cJ co fl (sB p_2 2 (wrL (gB p_2 2) 40 (rd (gA fl 4) 80 (nI i_2)) ((rdL (gB p_2 2) 40 (rd (gA fl 4) 80 (nI i_2))) ||| (bitL (rd (gA fl 3) 80 (nI i_2)))))) li re wa pi) 22 (ad 22) 40 (gB p_2 3) (rd (gA fl 3) 80 (nI i_2)) rfl (by decide)) mw_81 nw_78 mw_83 mw_77 pd_X7_at_ ⟨Nat.le_of_ble_eq_true rfl, Nat.le_of_ble_eq_true rfl⟩ rfl hl.1 rfl (Nat.le_of_ble_eq_true rfl) dX4_sortEdges_111 ⟨Nat.le_of_ble_eq_true rfl, Nat.le_of_ble_eq_true rfl⟩) hD hS hA (fun r_10 u_10 H locs hp hP hD hS => ?_)
            obtain ⟨er, eu⟩ := hp
            obtain rfl := er.symm
            obtain rfl := eu.symm
            refine lv_iload hx hb dX4_sortEdges_114 (lv_at hl 0 rfl) ?_
            refine kL (rSN hx hb hml hown hg hN hK hP hD (c_bit l D cI cJ (XW ad cI cJ co fl (sB p_2 2 (wrL (gB p_2 2) 40 (rd (gA fl 4) 80 (nI i_2)) ((rdL (gB p_2 2) 40 (rd (gA fl 4) 80 (nI i_2))) ||| (bitL (rd (gA fl 3) 80 (nI i_2)))))) li re wa pi) (rd (gA fl 4) 80 (nI i_2))) mw_78 nw_74 mw_80 mw_77 pd_X7_bit ⟨Nat.le_of_ble_eq_true rfl, Nat.le_of_ble_eq_true rfl⟩ rfl hl.1 rfl (Nat.le_of_ble_eq_true rfl) dX4_sortEdges_116 ⟨Nat.le_of_ble_eq_true rfl, Nat.le_of_ble_eq_true rfl⟩) hD hS hA (fun r_11 u_11 H locs hp hP hD hS => ?_)
            obtain ⟨er, eu⟩ := hp
            obtain rfl := er.symm
            obtain rfl := eu.symm
            refine lv_lor hx hb dX4_sortEdges_119 ?_
            refine kV (rSN hx hb hml hown hg hN hK hP hD (c_putL l D cI cJ (XW ad cI cJ co fl (sB p_2 2 (wrL (gB p_2 2) 40 (rd (gA fl 4) 80 (nI i_2)) ((rdL (gB p_2 2) 40 (rd (gA fl 4) 80 (nI i_2))) ||| (bitL (rd (gA fl 3) 80 (nI i_2)))))) li re wa pi) 22 (ad 22) 40 (gB p_2 3) (rd (gA fl 3) 80 (nI i_2)) ((rdL (gB p_2 3) 40 (rd (gA fl 3) 80 (nI i_2))) ||| (bitL (rd (gA fl 4) 80 (nI i_2)))) rfl (by decide)) mw_97 nw_76 mw_98 mw_77 pd_X7_put_ ⟨Nat.le_of_ble_eq_true rfl, Nat.le_of_ble_eq_true rfl⟩ rfl hl.1 rfl (Nat.le_of_ble_eq_true rfl) dX4_sortEdges_120 ⟨Nat.le_of_ble_eq_true rfl, Nat.le_of_ble_eq_true rfl⟩) hD hS hA (fun u_12 H locs hp hP hD hS => ?_)
            obtain rfl := hp.symm
            have hP : va_P D vwCl (XW ad cI cJ co fl (sB (sB p_2 2 (wrL (gB p_2 2) 40 (rd (gA fl 4) 80 (nI i_2)) ((rdL (gB p_2 2) 40 (rd (gA fl 4) 80 (nI i_2))) ||| (bitL (rd (gA fl 3) 80 (nI i_2)))))) 3 (wrL (gB p_2 3) 40 (rd (gA fl 3) 80 (nI i_2)) ((rdL (gB p_2 3) 40 (rd (gA fl 3) 80 (nI i_2))) ||| (bitL (rd (gA fl 4) 80 (nI i_2)))))) li re wa pi) H := hP
            have hD : va_D A (XW ad cI cJ co fl (sB (sB p_2 2 (wrL (gB p_2 2) 40 (rd (gA fl 4) 80 (nI i_2)) ((rdL (gB p_2 2) 40 (rd (gA fl 4) 80 (nI i_2))) ||| (bitL (rd (gA fl 3) 80 (nI i_2)))))) 3 (wrL (gB p_2 3) 40 (rd (gA fl 3) 80 (nI i_2)) ((rdL (gB p_2 3) 40 (rd (gA fl 3) 80 (nI i_2))) ||| (bitL (rd (gA fl 4) 80 (nI i_2)))))) li re wa pi) := hD
            refine lv_iinc (v := (nI (i_2 + 1))) (lv' := [(2, .int (nI (i_2 + 1))), (4, .int (rd (gA fl 4) 80 (nI i_2))), (3, .int (rd (gA fl 3) 80 (nI i_2))), (0, .ref (ad 3)), (1, .ref (ad 2))]) hx hb dX4_sortEdges_123 hl (k := 4) rfl (nI_1 i_2) (by decide) rfl (fun ls hl => ?_)
            refine lv_goto (tgt := 25) hx hb dX4_sortEdges_126 (by decide) ?_
            exact ih_2 (sB (sB p_2 2 (wrL (gB p_2 2) 40 (rd (gA fl 4) 80 (nI i_2)) ((rdL (gB p_2 2) 40 (rd (gA fl 4) 80 (nI i_2))) ||| (bitL (rd (gA fl 3) 80 (nI i_2)))))) 3 (wrL (gB p_2 3) 40 (rd (gA fl 3) 80 (nI i_2)) ((rdL (gB p_2 3) 40 (rd (gA fl 3) 80 (nI i_2))) ||| (bitL (rd (gA fl 4) 80 (nI i_2)))))) H locs ls ⟨((show (sB (sB p_2 2 (wrL (gB p_2 2) 40 (rd (gA fl 4) 80 (nI i_2)) ((rdL (gB p_2 2) 40 (rd (gA fl 4) 80 (nI i_2))) ||| (bitL (rd (gA fl 3) 80 (nI i_2)))))) 3 (wrL (gB p_2 3) 40 (rd (gA fl 3) 80 (nI i_2)) ((rdL (gB p_2 3) 40 (rd (gA fl 3) 80 (nI i_2))) ||| (bitL (rd (gA fl 4) 80 (nI i_2)))))) = (sortB fl) i_2 p_2 from (by first | (simp only [sortB, sortD, sortC, rules, if_neg c_54, decide_eq_false c_54, decide_eq_true c_54, if_pos c_54, if_pos c_65, c_65, if_neg c_98, bf_of c_98, gi_sl, gi_sA, gi_sB, gi_si_s, gi_si_n, gl_si, gl_sA, gl_sB, gl_sl_s, gl_sl_n, gA_si, gA_sl, gA_sB, gA_sA_s, gA_sA_n, gB_si, gB_sl, gB_sA, gB_sB_s, gB_sB_n, Nat.reduceBEq, if_true, if_false, eq_self, Bool.false_eq_true, reduceCtorEq, not_true_eq_false, not_false_eq_true, decide_true, decide_false, cond_true, cond_false, Bool.true_and, Bool.false_and, Bool.and_true, Bool.and_false, Bool.true_or, Bool.false_or, Bool.or_true, Bool.or_false, b2i_tt, b2i_ff]; done) | (simp only [sortB, sortD, sortC, rules, if_neg c_54, decide_eq_false c_54, decide_eq_true c_54, if_pos c_54, if_pos c_65, c_65, if_neg c_98, bf_of c_98, gi_sl, gi_sA, gi_sB, gi_si_s, gi_si_n, gl_si, gl_sA, gl_sB, gl_sl_s, gl_sl_n, gA_si, gA_sl, gA_sB, gA_sA_s, gA_sA_n, gB_si, gB_sl, gB_sA, gB_sB_s, gB_sB_n, Nat.reduceBEq, if_true, if_false, eq_self, Bool.false_eq_true, reduceCtorEq, not_true_eq_false, not_false_eq_true, decide_true, decide_false, cond_true, cond_false, Bool.true_and, Bool.false_and, Bool.and_true, Bool.and_false, Bool.true_or, Bool.false_or, Bool.or_true, Bool.or_false, b2i_tt, b2i_ff]; rfl) | (simp [sortB, sortD, sortC, rules, c_54, c_65, c_98, gi_sl, gi_sA, gi_sB, gi_si_s, gi_si_n, gl_si, gl_sA, gl_sB, gl_sl_s, gl_sl_n, gA_si, gA_sl, gA_sB, gA_sA_s, gA_sA_n, gB_si, gB_sl, gB_sA, gB_sB_s, gB_sB_n, Nat.reduceBEq]; done))).trans (lp_go h_2)), hP, hD, hS, lv_sub hl [3, 4, 0] rfl⟩
  · obtain ⟨h_1, hP, hD, hS, hl⟩ := hI
    have hP : va_P D vwCl (XW ad cI cJ co fl p_1 li re wa pi) H := hP
    have hD : va_D A (XW ad cI cJ co fl p_1 li re wa pi) := hD
    have hl : lv_has ls 5 [(0, .ref (ad 3)), (1, .ref (ad 2)), (2, .int (nI i_1))] := hl
    refine lv_iload_n hx hb dX4_sortEdges_2 rfl (lv_at hl 2 rfl) ?_
    refine lv_bipush (v := 40) hx hb dX4_sortEdges_3 (by decide) ?_
    refine lv_icmp_ge (tgt := 23) hx hb dX4_sortEdges_5 (by decide) (fun c_5 => absurd c_5 (nI_ge hi_1 (by decide))) (fun _ => ?_)
    refine lv_aload_n hx hb dX4_sortEdges_8 rfl (lv_at hl 0 rfl) ?_
    refine va_get (D := D) (ci := 4) (v := .ref (ad 22)) (C := RX4) (T := TX4) (N := 7) hx hb hg inGX4 hown hK hP 3 rfl rfl 3 (by decide) (hg _ mw_131) (fun _ h9 => h9) rfl dX4_sortEdges_9 ?_
    refine lv_iload_n hx hb dX4_sortEdges_12 rfl (lv_at hl 2 rfl) ?_
    refine lv_lconst (v := 0) hx hb dX4_sortEdges_13 (by decide) ?_
    refine kV (rSN hx hb hml hown hg hN hK hP hD (c_putL l D cI cJ (XW ad cI cJ co fl p_1 li re wa pi) 22 (ad 22) 40 (gB p_1 3) (nI i_1) 0 rfl (by decide)) mw_97 nw_76 mw_98 mw_77 pd_X7_put_ ⟨Nat.le_of_ble_eq_true rfl, Nat.le_of_ble_eq_true rfl⟩ rfl hl.1 rfl (Nat.le_of_ble_eq_true rfl) dX4_sortEdges_14 ⟨Nat.le_of_ble_eq_true rfl, Nat.le_of_ble_eq_true rfl⟩) hD hS hA (fun u_13 H locs hp hP hD hS => ?_)
    obtain rfl := hp.symm
    have hP : va_P D vwCl (XW ad cI cJ co fl (sB p_1 3 (wrL (gB p_1 3) 40 (nI i_1) 0)) li re wa pi) H := hP
    have hD : va_D A (XW ad cI cJ co fl (sB p_1 3 (wrL (gB p_1 3) 40 (nI i_1) 0)) li re wa pi) := hD
    refine lv_iinc (v := (nI (i_1 + 1))) (lv' := [(2, .int (nI (i_1 + 1))), (0, .ref (ad 3)), (1, .ref (ad 2))]) hx hb dX4_sortEdges_17 hl (k := 2) rfl (nI_1 i_1) (by decide) rfl (fun ls hl => ?_)
    refine lv_goto (tgt := 2) hx hb dX4_sortEdges_20 (by decide) ?_
    exact ih_1 (sB p_1 3 (wrL (gB p_1 3) 40 (nI i_1) 0)) H locs ls ⟨((show (sB p_1 3 (wrL (gB p_1 3) 40 (nI i_1) 0)) = sortA i_1 p_1 from (by first | with_reducible rfl | (simp only [sortA, gi_sl, gi_sA, gi_sB, gi_si_s, gi_si_n, gl_si, gl_sA, gl_sB, gl_sl_s, gl_sl_n, gA_si, gA_sl, gA_sB, gA_sA_s, gA_sA_n, gB_si, gB_sl, gB_sA, gB_sB_s, gB_sB_n, Nat.reduceBEq, if_true, if_false, eq_self, Bool.false_eq_true, reduceCtorEq, not_true_eq_false, not_false_eq_true, decide_true, decide_false, cond_true, cond_false, Bool.true_and, Bool.false_and, Bool.and_true, Bool.and_false, Bool.true_or, Bool.false_or, Bool.or_true, Bool.or_false, b2i_tt, b2i_ff]; done) | rfl)).trans (lp_go h_1)), hP, hD, hS, lv_sub hl [1, 2, 0] rfl⟩
set_option maxHeartbeats 4000000 in
set_option maxRecDepth 100000 in
theorem c_closeLoop (l : Launch) (D : va_G) (cI cJ : ClassId) (ad : Nat → Nat) (co fl ra li re wa pi : Ob) (k1 : Int32) : CT l D (TY cI cJ) yX4_closeLoop (.code yX4_closeLoop cX4_closeLoop 4 (none : Option FieldType)) 3 0 0 (XW ad cI cJ co fl ra li re wa pi) [.ref (ad 3), .int k1] (QV D (TY cI cJ) (fun u => u = (XW ad cI cJ co fl (closeLoop ra k1) li re wa pi))) := by
  refine ent (by decide) (Nat.le_of_ble_eq_true rfl) ?_
  intro p e s m below meth c ls A hx hb hr hg hown hml hlocks hnm hP hK hD hS hA hN hl
  have hl : lv_has ls 4 [(0, .ref (ad 3)), (1, .int k1)] := hl
  refine lv_aload_n hx hb dX4_closeLoop_0 rfl (lv_at hl 0 rfl) ?_
  refine va_get (D := D) (ci := 4) (v := .ref (ad 21)) (C := RX4) (T := TX4) (N := 7) hx hb hg inGX4 hown hK hP 3 rfl rfl 2 (by decide) (hg _ mw_125) (fun _ h9 => h9) rfl dX4_closeLoop_1 ?_
  refine lv_iload_n hx hb dX4_closeLoop_4 rfl (lv_at hl 1 rfl) ?_
  refine kL (rSN hx hb hml hown hg hN hK hP hD (c_atL l D cI cJ (XW ad cI cJ co fl ra li re wa pi) 21 (ad 21) 40 (gB ra 2) k1 rfl (by decide)) mw_81 nw_78 mw_83 mw_77 pd_X7_at_ ⟨Nat.le_of_ble_eq_true rfl, Nat.le_of_ble_eq_true rfl⟩ rfl hl.1 rfl (Nat.le_of_ble_eq_true rfl) dX4_closeLoop_5 ⟨Nat.le_of_ble_eq_true rfl, Nat.le_of_ble_eq_true rfl⟩) hD hS hA (fun r_1 u_1 H locs hp hP hD hS => ?_)
  obtain ⟨er, eu⟩ := hp
  obtain rfl := er.symm
  obtain rfl := eu.symm
  refine lv_aload_n hx hb dX4_closeLoop_8 rfl (lv_at hl 0 rfl) ?_
  refine va_get (D := D) (ci := 4) (v := .ref (ad 19)) (C := RX4) (T := TX4) (N := 7) hx hb hg inGX4 hown hK hP 3 rfl rfl 0 (by decide) (hg _ mw_124) (fun _ h9 => h9) rfl dX4_closeLoop_9 ?_
  refine lv_iload_n hx hb dX4_closeLoop_12 rfl (lv_at hl 1 rfl) ?_
  refine kL (rSN hx hb hml hown hg hN hK hP hD (c_atL l D cI cJ (XW ad cI cJ co fl ra li re wa pi) 19 (ad 19) 40 (gB ra 0) k1 rfl (by decide)) mw_81 nw_78 mw_83 mw_77 pd_X7_at_ ⟨Nat.le_of_ble_eq_true rfl, Nat.le_of_ble_eq_true rfl⟩ rfl hl.1 rfl (Nat.le_of_ble_eq_true rfl) dX4_closeLoop_13 ⟨Nat.le_of_ble_eq_true rfl, Nat.le_of_ble_eq_true rfl⟩) hD hS hA (fun r_2 u_2 H locs hp hP hD hS => ?_)
  obtain ⟨er, eu⟩ := hp
  obtain rfl := er.symm
  obtain rfl := eu.symm
  refine lv_land hx hb dX4_closeLoop_16 ?_
  refine lv_lstore_n (lv' := [(2, .long ((rdL (gB ra 2) 40 k1) &&& (rdL (gB ra 0) 40 k1))), (0, .ref (ad 3)), (1, .int k1)]) hx hb dX4_closeLoop_17 rfl hl (by decide) rfl (fun ls hl => ?_)
  refine lv_lload_n hx hb dX4_closeLoop_18 rfl (lv_at hl 0 rfl) ?_
  refine lv_lconst (v := 0) hx hb dX4_closeLoop_19 (by decide) ?_
  refine W.lcmp hx hb dX4_closeLoop_20 ?_
  refine lv_if_eq (tgt := 59) hx hb dX4_closeLoop_21 (by decide) (fun c_21 => ?_) (fun c_21 => ?_)
  · have c_21 : ((rdL (gB ra 2) 40 k1) &&& (rdL (gB ra 0) 40 k1)) = 0 := lcmp_0 c_21
    exact W.vret hx hb hr (fun t ht hW => ⟨⟨(XW ad cI cJ co fl ra li re wa pi), rfl, xw_eq rfl rfl (show ra = (closeLoop ra k1) from (by first | (simp only [closeLoop, clEnds, if_pos c_21, decide_eq_true c_21, decide_eq_false (not_not_intro c_21), gi_sl, gi_sA, gi_sB, gi_si_s, gi_si_n, gl_si, gl_sA, gl_sB, gl_sl_s, gl_sl_n, gA_si, gA_sl, gA_sB, gA_sA_s, gA_sA_n, gB_si, gB_sl, gB_sA, gB_sB_s, gB_sB_n, Nat.reduceBEq, if_true, if_false, eq_self, Bool.false_eq_true, reduceCtorEq, not_true_eq_false, not_false_eq_true, decide_true, decide_false, cond_true, cond_false, Bool.true_and, Bool.false_and, Bool.and_true, Bool.and_false, Bool.true_or, Bool.false_or, Bool.or_true, Bool.or_false, b2i_tt, b2i_ff]; done) | (simp only [closeLoop, clEnds, if_pos c_21, decide_eq_true c_21, decide_eq_false (not_not_intro c_21), gi_sl, gi_sA, gi_sB, gi_si_s, gi_si_n, gl_si, gl_sA, gl_sB, gl_sl_s, gl_sl_n, gA_si, gA_sl, gA_sB, gA_sA_s, gA_sA_n, gB_si, gB_sl, gB_sA, gB_sB_s, gB_sB_n, Nat.reduceBEq, if_true, if_false, eq_self, Bool.false_eq_true, reduceCtorEq, not_true_eq_false, not_false_eq_true, decide_true, decide_false, cond_true, cond_false, Bool.true_and, Bool.false_and, Bool.and_true, Bool.and_false, Bool.true_or, Bool.false_or, Bool.or_true, Bool.or_false, b2i_tt, b2i_ff]; rfl) | (simp [closeLoop, clEnds, c_21, gi_sl, gi_sA, gi_sB, gi_si_s, gi_si_n, gl_si, gl_sA, gl_sB, gl_sl_s, gl_sl_n, gA_si, gA_sl, gA_sB, gA_sA_s, gA_sA_n, gB_si, gB_sl, gB_sA, gB_sB_s, gB_sB_n, Nat.reduceBEq]; done))) rfl rfl rfl rfl, ⟨by rw [ht]; exact hP, va_K.moved hW.alike hK, hD⟩⟩, hS.F ht⟩) hS.2.2 dX4_closeLoop_59
  · have c_21 : ¬ ((rdL (gB ra 2) 40 k1) &&& (rdL (gB ra 0) 40 k1)) = 0 := lcmp_1 c_21
    refine lv_aload_n hx hb dX4_closeLoop_24 rfl (lv_at hl 1 rfl) ?_
    refine va_get (D := D) (ci := 4) (v := .ref (ad 20)) (C := RX4) (T := TX4) (N := 7) hx hb hg inGX4 hown hK hP 3 rfl rfl 1 (by decide) (hg _ mw_132) (fun _ h9 => h9) rfl dX4_closeLoop_25 ?_
    refine lv_iload_n hx hb dX4_closeLoop_28 rfl (lv_at hl 2 rfl) ?_
    refine lv_iload_n hx hb dX4_closeLoop_29 rfl (lv_at hl 2 rfl) ?_
    refine kL (rSN hx hb hml hown hg hN hK hP hD (c_bit l D cI cJ (XW ad cI cJ co fl ra li re wa pi) k1) mw_78 nw_74 mw_80 mw_77 pd_X7_bit ⟨Nat.le_of_ble_eq_true rfl, Nat.le_of_ble_eq_true rfl⟩ rfl hl.1 rfl (Nat.le_of_ble_eq_true rfl) dX4_closeLoop_30 ⟨Nat.le_of_ble_eq_true rfl, Nat.le_of_ble_eq_true rfl⟩) hD hS hA (fun r_3 u_3 H locs hp hP hD hS => ?_)
    obtain ⟨er, eu⟩ := hp
    obtain rfl := er.symm
    obtain rfl := eu.symm
    refine lv_aload_n hx hb dX4_closeLoop_33 rfl (lv_at hl 1 rfl) ?_
    refine va_get (D := D) (ci := 4) (v := .ref (ad 21)) (C := RX4) (T := TX4) (N := 7) hx hb hg inGX4 hown hK hP 3 rfl rfl 2 (by decide) (hg _ mw_125) (fun _ h9 => h9) rfl dX4_closeLoop_34 ?_
    refine lv_lload_n hx hb dX4_closeLoop_37 rfl (lv_at hl 0 rfl) ?_
    refine lv_iload_n hx hb dX4_closeLoop_38 rfl (lv_at hl 2 rfl) ?_
    refine kL (rSN hx hb hml hown hg hN hK hP hD (c_bit l D cI cJ (XW ad cI cJ co fl ra li re wa pi) k1) mw_78 nw_74 mw_80 mw_77 pd_X7_bit ⟨Nat.le_of_ble_eq_true rfl, Nat.le_of_ble_eq_true rfl⟩ rfl hl.1 rfl (Nat.le_of_ble_eq_true rfl) dX4_closeLoop_39 ⟨Nat.le_of_ble_eq_true rfl, Nat.le_of_ble_eq_true rfl⟩) hD hS hA (fun r_4 u_4 H locs hp hP hD hS => ?_)
    obtain ⟨er, eu⟩ := hp
    obtain rfl := er.symm
    obtain rfl := eu.symm
    refine kL (rSN hx hb hml hown hg hN hK hP hD (c_spread l D cI cJ (XW ad cI cJ co fl ra li re wa pi) 21 (ad 21) (gB ra 2) ((rdL (gB ra 2) 40 k1) &&& (rdL (gB ra 0) 40 k1)) (bitL k1) rfl) mw_116 nw_75 mw_117 mw_77 pd_X7_spread ⟨Nat.le_of_ble_eq_true rfl, Nat.le_of_ble_eq_true rfl⟩ rfl hl.1 rfl (Nat.le_of_ble_eq_true rfl) dX4_closeLoop_42 ⟨Nat.le_of_ble_eq_true rfl, Nat.le_of_ble_eq_true rfl⟩) hD hS hA (fun r_5 u_5 H locs hp hP hD hS => ?_)
    obtain ⟨er, eu⟩ := hp
    obtain rfl := er.symm
    obtain rfl := eu.symm
    refine lv_lor hx hb dX4_closeLoop_45 ?_
    refine kV (rSN hx hb hml hown hg hN hK hP hD (c_putL l D cI cJ (XW ad cI cJ co fl ra li re wa pi) 20 (ad 20) 40 (gB ra 1) k1 ((bitL k1) ||| (spread (gB ra 2) ((rdL (gB ra 2) 40 k1) &&& (rdL (gB ra 0) 40 k1)) (bitL k1))) rfl (by decide)) mw_97 nw_76 mw_98 mw_77 pd_X7_put_ ⟨Nat.le_of_ble_eq_true rfl, Nat.le_of_ble_eq_true rfl⟩ rfl hl.1 rfl (Nat.le_of_ble_eq_true rfl) dX4_closeLoop_46 ⟨Nat.le_of_ble_eq_true rfl, Nat.le_of_ble_eq_true rfl⟩) hD hS hA (fun u_6 H locs hp hP hD hS => ?_)
    obtain rfl := hp.symm
    have hP : va_P D vwCl (XW ad cI cJ co fl (sB ra 1 (wrL (gB ra 1) 40 k1 ((bitL k1) ||| (spread (gB ra 2) ((rdL (gB ra 2) 40 k1) &&& (rdL (gB ra 0) 40 k1)) (bitL k1))))) li re wa pi) H := hP
    have hD : va_D A (XW ad cI cJ co fl (sB ra 1 (wrL (gB ra 1) 40 k1 ((bitL k1) ||| (spread (gB ra 2) ((rdL (gB ra 2) 40 k1) &&& (rdL (gB ra 0) 40 k1)) (bitL k1))))) li re wa pi) := hD
    refine lv_aload_n hx hb dX4_closeLoop_49 rfl (lv_at hl 1 rfl) ?_
    refine lv_dup hx hb dX4_closeLoop_50 rfl ?_
    refine va_get (D := D) (ci := 4) (v := .int (gi ra 0)) (C := RX4) (T := TX4) (N := 7) hx hb hg inGX4 hown hK hP 3 rfl rfl 4 (by decide) (hg _ mw_133) (fun _ h9 => h9) rfl dX4_closeLoop_51 ?_
    refine lv_iconst (v := 1) hx hb dX4_closeLoop_54 (by decide) ?_
    refine lv_iadd hx hb dX4_closeLoop_55 ?_
    refine va_put (D := D) (ci := 4) (v := .int ((gi ra 0) + 1)) (C := RX4) (T := TX4) (N := 7) hx hb hg inGX4 tyX4 tyX4_ok nmX4 hown hK hP hD hS 3 rfl rfl 4 (by decide) (hg _ mw_133) (fun _ h9 => h9) rfl (tyX4_ok 4 (by decide)) rfl rfl (Nat.le_of_ble_eq_true rfl) dX4_closeLoop_56 (fun H locs hP hD hS => ?_)
    have hP : va_P D vwCl (XW ad cI cJ co fl (si (sB ra 1 (wrL (gB ra 1) 40 k1 ((bitL k1) ||| (spread (gB ra 2) ((rdL (gB ra 2) 40 k1) &&& (rdL (gB ra 0) 40 k1)) (bitL k1))))) 0 ((gi ra 0) + 1)) li re wa pi) H := hP
    have hD : va_D A (XW ad cI cJ co fl (si (sB ra 1 (wrL (gB ra 1) 40 k1 ((bitL k1) ||| (spread (gB ra 2) ((rdL (gB ra 2) 40 k1) &&& (rdL (gB ra 0) 40 k1)) (bitL k1))))) 0 ((gi ra 0) + 1)) li re wa pi) := hD
    exact W.vret hx hb hr (fun t ht hW => ⟨⟨(XW ad cI cJ co fl (si (sB ra 1 (wrL (gB ra 1) 40 k1 ((bitL k1) ||| (spread (gB ra 2) ((rdL (gB ra 2) 40 k1) &&& (rdL (gB ra 0) 40 k1)) (bitL k1))))) 0 ((gi ra 0) + 1)) li re wa pi), rfl, xw_eq rfl rfl (show (si (sB ra 1 (wrL (gB ra 1) 40 k1 ((bitL k1) ||| (spread (gB ra 2) ((rdL (gB ra 2) 40 k1) &&& (rdL (gB ra 0) 40 k1)) (bitL k1))))) 0 ((gi ra 0) + 1)) = (closeLoop ra k1) from (by first | (simp only [closeLoop, clEnds, if_neg c_21, decide_eq_false c_21, decide_eq_true c_21, if_pos c_21, gi_sl, gi_sA, gi_sB, gi_si_s, gi_si_n, gl_si, gl_sA, gl_sB, gl_sl_s, gl_sl_n, gA_si, gA_sl, gA_sB, gA_sA_s, gA_sA_n, gB_si, gB_sl, gB_sA, gB_sB_s, gB_sB_n, Nat.reduceBEq, if_true, if_false, eq_self, Bool.false_eq_true, reduceCtorEq, not_true_eq_false, not_false_eq_true, decide_true, decide_false, cond_true, cond_false, Bool.true_and, Bool.false_and, Bool.and_true, Bool.and_false, Bool.true_or, Bool.false_or, Bool.or_true, Bool.or_false, b2i_tt, b2i_ff]; done) | (simp only [closeLoop, clEnds, if_neg c_21, decide_eq_false c_21, decide_eq_true c_21, if_pos c_21, gi_sl, gi_sA, gi_sB, gi_si_s, gi_si_n, gl_si, gl_sA, gl_sB, gl_sl_s, gl_sl_n, gA_si, gA_sl, gA_sB, gA_sA_s, gA_sA_n, gB_si, gB_sl, gB_sA, gB_sB_s, gB_sB_n, Nat.reduceBEq, if_true, if_false, eq_self, Bool.false_eq_true, reduceCtorEq, not_true_eq_false, not_false_eq_true, decide_true, decide_false, cond_true, cond_false, Bool.true_and, Bool.false_and, Bool.and_true, Bool.and_false, Bool.true_or, Bool.false_or, Bool.or_true, Bool.or_false, b2i_tt, b2i_ff]; rfl) | (simp [closeLoop, clEnds, c_21, gi_sl, gi_sA, gi_sB, gi_si_s, gi_si_n, gl_si, gl_sA, gl_sB, gl_sl_s, gl_sl_n, gA_si, gA_sl, gA_sB, gA_sA_s, gA_sA_n, gB_si, gB_sl, gB_sA, gB_sB_s, gB_sB_n, Nat.reduceBEq]; done))) rfl rfl rfl rfl, ⟨by rw [ht]; exact hP, va_K.moved hW.alike hK, hD⟩⟩, hS.F ht⟩) hS.2.2 dX4_closeLoop_59
set_option maxHeartbeats 4000000 in
set_option maxRecDepth 100000 in
theorem c_rank (l : Launch) (D : va_G) (cI cJ : ClassId) (ad : Nat → Nat) (co fl ra li re wa pi : Ob) : CT l D (TY cI cJ) yX4_rank (.code yX4_rank cX4_rank 3 (none : Option FieldType)) 4 0 0 (XW ad cI cJ co fl ra li re wa pi) [.ref (ad 3), .ref (ad 2)] (QV D (TY cI cJ) (fun u => u = (XW ad cI cJ co fl (rank fl ra) li re wa pi))) := by
  refine ent (by decide) (Nat.le_of_ble_eq_true rfl) ?_
  intro p e s m below meth c ls A hx hb hr hg hown hml hlocks hnm hP hK hD hS hA hN hl
  have hl : lv_has ls 3 [(0, .ref (ad 3)), (1, .ref (ad 2))] := hl
  refine lv_iconst (v := 0) hx hb dX4_rank_0 (by decide) ?_
  refine lv_istore_n (lv' := [(2, .int 0), (0, .ref (ad 3)), (1, .ref (ad 2))]) hx hb dX4_rank_1 rfl hl (by decide) rfl (fun ls hl => ?_)
  refine w_loop (σ := Ob) (fun (i_1 : Nat) (p_1 : Ob) (H : Heap) (locs : List Loc) (ls : Array Slot) => p_1 = (lp (rankA fl) i_1 ra) ∧ va_P D vwCl (XW ad cI cJ co fl p_1 li re wa pi) H ∧ va_D A (XW ad cI cJ co fl p_1 li re wa pi) ∧ va_S A s.heap H locs ∧ lv_has ls 3 [(0, .ref (ad 3)), (1, .ref (ad 2)), (2, .int (nI i_1))]) (40) (fun p_1 H locs ls hI => ?_) (fun i_1 p_1 H locs ls hi_1 hI ih_1 => ?_) 0 ra (Nat.zero_le _) ⟨rfl, hP, hD, hS, (by rw [nI_0]; exact lv_sub hl [1, 2, 0] rfl)⟩
  · obtain ⟨h_1, hP, hD, hS, hl⟩ := hI
    have h_1 := h_1.symm
    subst h_1
    have hP : va_P D vwCl (XW ad cI cJ co fl ((lp (rankA fl) (40) ra)) li re wa pi) H := hP
    have hD : va_D A (XW ad cI cJ co fl ((lp (rankA fl) (40) ra)) li re wa pi) := hD
    have hl : lv_has ls 3 [(0, .ref (ad 3)), (1, .ref (ad 2)), (2, .int (nI 40))] := hl
    refine lv_iload_n hx hb dX4_rank_2 rfl (lv_at hl 2 rfl) ?_
    refine lv_bipush (v := 40) hx hb dX4_rank_3 (by decide) ?_
    refine lv_icmp_ge (tgt := 60) hx hb dX4_rank_5 (by decide) (fun _ => ?_) (fun c_5 => absurd (by decide) c_5)
    refine lv_aload_n hx hb dX4_rank_60 rfl (lv_at hl 0 rfl) ?_
    refine lv_aload_n hx hb dX4_rank_61 rfl (lv_at hl 1 rfl) ?_
    refine kV (rV (q0 := 3) (ci := 4) hx hb hml hown hg hN hK hP hD (c_sortEdges l D cI cJ ad co fl ((lp (rankA fl) (40) ra)) li re wa pi) mw_134 mw_135 mw_136 mw_137 mw_130 pdv_X4_sortEdges ⟨Nat.le_of_ble_eq_true rfl, Nat.le_of_ble_eq_true rfl⟩ rfl rfl rfl hl.1 rfl (Nat.le_of_ble_eq_true rfl) dX4_rank_62 ⟨Nat.le_of_ble_eq_true rfl, Nat.le_of_ble_eq_true rfl⟩) hD hS hA (fun u_2 H locs hp hP hD hS => ?_)
    obtain rfl := hp.symm
    have hP : va_P D vwCl (XW ad cI cJ co fl (sortEdges fl ((lp (rankA fl) (40) ra))) li re wa pi) H := hP
    have hD : va_D A (XW ad cI cJ co fl (sortEdges fl ((lp (rankA fl) (40) ra))) li re wa pi) := hD
    refine lv_aload_n hx hb dX4_rank_65 rfl (lv_at hl 0 rfl) ?_
    refine lv_iconst (v := 0) hx hb dX4_rank_66 (by decide) ?_
    refine va_put (D := D) (ci := 4) (v := .int 0) (C := RX4) (T := TX4) (N := 7) hx hb hg inGX4 tyX4 tyX4_ok nmX4 hown hK hP hD hS 3 rfl rfl 4 (by decide) (hg _ mw_133) (fun _ h9 => h9) rfl (tyX4_ok 4 (by decide)) rfl rfl (Nat.le_of_ble_eq_true rfl) dX4_rank_67 (fun H locs hP hD hS => ?_)
    have hP : va_P D vwCl (XW ad cI cJ co fl (si (sortEdges fl ((lp (rankA fl) (40) ra))) 0 0) li re wa pi) H := hP
    have hD : va_D A (XW ad cI cJ co fl (si (sortEdges fl ((lp (rankA fl) (40) ra))) 0 0) li re wa pi) := hD
    refine lv_aload_n hx hb dX4_rank_70 rfl (lv_at hl 0 rfl) ?_
    refine lv_iconst (v := 1) hx hb dX4_rank_71 (by decide) ?_
    refine va_put (D := D) (ci := 4) (v := .int 1) (C := RX4) (T := TX4) (N := 7) hx hb hg inGX4 tyX4 tyX4_ok nmX4 hown hK hP hD hS 3 rfl rfl 5 (by decide) (hg _ mw_138) (fun _ h9 => h9) rfl (tyX4_ok 5 (by decide)) rfl rfl (Nat.le_of_ble_eq_true rfl) dX4_rank_72 (fun H locs hP hD hS => ?_)
    have hP : va_P D vwCl (XW ad cI cJ co fl (si (si (sortEdges fl ((lp (rankA fl) (40) ra))) 0 0) 1 1) li re wa pi) H := hP
    have hD : va_D A (XW ad cI cJ co fl (si (si (sortEdges fl ((lp (rankA fl) (40) ra))) 0 0) 1 1) li re wa pi) := hD
    refine lv_iconst (v := 0) hx hb dX4_rank_75 (by decide) ?_
    refine lv_istore_n (lv' := [(2, .int 0), (0, .ref (ad 3)), (1, .ref (ad 2))]) hx hb dX4_rank_76 rfl hl (by decide) rfl (fun ls hl => ?_)
    refine w_loop (σ := Ob) (fun (i_3 : Nat) (p_3 : Ob) (H : Heap) (locs : List Loc) (ls : Array Slot) => p_3 = (lp rankB i_3 (si (si (sortEdges fl ((lp (rankA fl) (40) ra))) 0 0) 1 1)) ∧ va_P D vwCl (XW ad cI cJ co fl p_3 li re wa pi) H ∧ va_D A (XW ad cI cJ co fl p_3 li re wa pi) ∧ va_S A s.heap H locs ∧ lv_has ls 3 [(0, .ref (ad 3)), (1, .ref (ad 2)), (2, .int (nI i_3))]) (nN (gi fl 0)) (fun p_3 H locs ls hI => ?_) (fun i_3 p_3 H locs ls hi_3 hI ih_3 => ?_) 0 (si (si (sortEdges fl ((lp (rankA fl) (40) ra))) 0 0) 1 1) (Nat.zero_le _) ⟨rfl, hP, hD, hS, (by rw [nI_0]; exact lv_sub hl [1, 2, 0] rfl)⟩
    · obtain ⟨h_3, hP, hD, hS, hl⟩ := hI
      have h_3 := h_3.symm
      subst h_3
      have hP : va_P D vwCl (XW ad cI cJ co fl ((lp rankB (nN (gi fl 0)) (si (si (sortEdges fl ((lp (rankA fl) (40) ra))) 0 0) 1 1))) li re wa pi) H := hP
      have hD : va_D A (XW ad cI cJ co fl ((lp rankB (nN (gi fl 0)) (si (si (sortEdges fl ((lp (rankA fl) (40) ra))) 0 0) 1 1))) li re wa pi) := hD
      have hl : lv_has ls 3 [(0, .ref (ad 3)), (1, .ref (ad 2)), (2, .int (nI ((nN (gi fl 0)))))] := hl
      refine lv_iload_n hx hb dX4_rank_77 rfl (lv_at hl 2 rfl) ?_
      refine lv_aload_n hx hb dX4_rank_78 rfl (lv_at hl 1 rfl) ?_
      refine va_getN (D := D) (ci := 1) (v := .int (gi fl 0)) (C := RX1) (T := TX1) (N := 11) hx hb hg inGX1 hown hK hP 2 rfl rfl 7 (by decide) (hN.use nw_27) (fun _ h9 => h9) rfl dX4_rank_79 ?_
      refine lv_icmp_ge (tgt := 124) hx hb dX4_rank_82 (by decide) (fun _ => ?_) (fun c_82 => absurd (lp_out _) c_82)
      exact W.vret hx hb hr (fun t ht hW => ⟨⟨(XW ad cI cJ co fl ((lp rankB (nN (gi fl 0)) (si (si (sortEdges fl ((lp (rankA fl) (40) ra))) 0 0) 1 1))) li re wa pi), rfl, xw_eq rfl rfl (show ((lp rankB (nN (gi fl 0)) (si (si (sortEdges fl ((lp (rankA fl) (40) ra))) 0 0) 1 1))) = (rank fl ra) from (by first | with_reducible rfl | (simp only [rank, gi_sl, gi_sA, gi_sB, gi_si_s, gi_si_n, gl_si, gl_sA, gl_sB, gl_sl_s, gl_sl_n, gA_si, gA_sl, gA_sB, gA_sA_s, gA_sA_n, gB_si, gB_sl, gB_sA, gB_sB_s, gB_sB_n, Nat.reduceBEq, if_true, if_false, eq_self, Bool.false_eq_true, reduceCtorEq, not_true_eq_false, not_false_eq_true, decide_true, decide_false, cond_true, cond_false, Bool.true_and, Bool.false_and, Bool.and_true, Bool.and_false, Bool.true_or, Bool.false_or, Bool.or_true, Bool.or_false, b2i_tt, b2i_ff]; done) | rfl)) rfl rfl rfl rfl, ⟨by rw [ht]; exact hP, va_K.moved hW.alike hK, hD⟩⟩, hS.F ht⟩) hS.2.2 dX4_rank_124
    · obtain ⟨h_3, hP, hD, hS, hl⟩ := hI
      have hP : va_P D vwCl (XW ad cI cJ co fl p_3 li re wa pi) H := hP
      have hD : va_D A (XW ad cI cJ co fl p_3 li re wa pi) := hD
      have hl : lv_has ls 3 [(0, .ref (ad 3)), (1, .ref (ad 2)), (2, .int (nI i_3))] := hl
      refine lv_iload_n hx hb dX4_rank_77 rfl (lv_at hl 2 rfl) ?_
      refine lv_aload_n hx hb dX4_rank_78 rfl (lv_at hl 1 rfl) ?_
      refine va_getN (D := D) (ci := 1) (v := .int (gi fl 0)) (C := RX1) (T := TX1) (N := 11) hx hb hg inGX1 hown hK hP 2 rfl rfl 7 (by decide) (hN.use nw_27) (fun _ h9 => h9) rfl dX4_rank_79 ?_
      refine lv_icmp_ge (tgt := 124) hx hb dX4_rank_82 (by decide) (fun c_82 => absurd c_82 (lp_in hi_3)) (fun _ => ?_)
      refine lv_aload_n hx hb dX4_rank_85 rfl (lv_at hl 0 rfl) ?_
      refine lv_iload_n hx hb dX4_rank_86 rfl (lv_at hl 2 rfl) ?_
      refine kV (rV (q0 := 3) (ci := 4) hx hb hml hown hg hN hK hP hD (c_closeLoop l D cI cJ ad co fl p_3 li re wa pi (nI i_3)) mw_139 mw_140 mw_141 mw_142 mw_130 pdv_X4_closeLoop ⟨Nat.le_of_ble_eq_true rfl, Nat.le_of_ble_eq_true rfl⟩ rfl rfl rfl hl.1 rfl (Nat.le_of_ble_eq_true rfl) dX4_rank_87 ⟨Nat.le_of_ble_eq_true rfl, Nat.le_of_ble_eq_true rfl⟩) hD hS hA (fun u_4 H locs hp hP hD hS => ?_)
      obtain rfl := hp.symm
      have hP : va_P D vwCl (XW ad cI cJ co fl (closeLoop p_3 (nI i_3)) li re wa pi) H := hP
      have hD : va_D A (XW ad cI cJ co fl (closeLoop p_3 (nI i_3)) li re wa pi) := hD
      refine lv_aload_n hx hb dX4_rank_90 rfl (lv_at hl 0 rfl) ?_
      refine va_get (D := D) (ci := 4) (v := .ref (ad 22)) (C := RX4) (T := TX4) (N := 7) hx hb hg inGX4 hown hK hP 3 rfl rfl 3 (by decide) (hg _ mw_131) (fun _ h9 => h9) rfl dX4_rank_91 ?_
      refine lv_aload_n hx hb dX4_rank_94 rfl (lv_at hl 0 rfl) ?_
      refine va_get (D := D) (ci := 4) (v := .ref (ad 22)) (C := RX4) (T := TX4) (N := 7) hx hb hg inGX4 hown hK hP 3 rfl rfl 3 (by decide) (hg _ mw_131) (fun _ h9 => h9) rfl dX4_rank_95 ?_
      refine lv_iload_n hx hb dX4_rank_98 rfl (lv_at hl 2 rfl) ?_
      refine kL (rSN hx hb hml hown hg hN hK hP hD (c_atL l D cI cJ (XW ad cI cJ co fl (closeLoop p_3 (nI i_3)) li re wa pi) 22 (ad 22) 40 (gB (closeLoop p_3 (nI i_3)) 3) (nI i_3) rfl (by decide)) mw_81 nw_78 mw_83 mw_77 pd_X7_at_ ⟨Nat.le_of_ble_eq_true rfl, Nat.le_of_ble_eq_true rfl⟩ rfl hl.1 rfl (Nat.le_of_ble_eq_true rfl) dX4_rank_99 ⟨Nat.le_of_ble_eq_true rfl, Nat.le_of_ble_eq_true rfl⟩) hD hS hA (fun r_5 u_5 H locs hp hP hD hS => ?_)
      obtain ⟨er, eu⟩ := hp
      obtain rfl := er.symm
      obtain rfl := eu.symm
      refine lv_lconst (v := 0) hx hb dX4_rank_102 (by decide) ?_
      refine kL (rSN hx hb hml hown hg hN hK hP hD (c_spread l D cI cJ (XW ad cI cJ co fl (closeLoop p_3 (nI i_3)) li re wa pi) 22 (ad 22) (gB (closeLoop p_3 (nI i_3)) 3) (rdL (gB (closeLoop p_3 (nI i_3)) 3) 40 (nI i_3)) 0 rfl) mw_116 nw_75 mw_117 mw_77 pd_X7_spread ⟨Nat.le_of_ble_eq_true rfl, Nat.le_of_ble_eq_true rfl⟩ rfl hl.1 rfl (Nat.le_of_ble_eq_true rfl) dX4_rank_103 ⟨Nat.le_of_ble_eq_true rfl, Nat.le_of_ble_eq_true rfl⟩) hD hS hA (fun r_6 u_6 H locs hp hP hD hS => ?_)
      obtain ⟨er, eu⟩ := hp
      obtain rfl := er.symm
      obtain rfl := eu.symm
      refine lv_iload_n hx hb dX4_rank_106 rfl (lv_at hl 2 rfl) ?_
      refine kI (rSN hx hb hml hown hg hN hK hP hD (c_has l D cI cJ (XW ad cI cJ co fl (closeLoop p_3 (nI i_3)) li re wa pi) (spread (gB (closeLoop p_3 (nI i_3)) 3) (rdL (gB (closeLoop p_3 (nI i_3)) 3) 40 (nI i_3)) 0) (nI i_3)) mw_89 nw_73 mw_90 mw_77 pd_X7_has ⟨Nat.le_of_ble_eq_true rfl, Nat.le_of_ble_eq_true rfl⟩ rfl hl.1 rfl (Nat.le_of_ble_eq_true rfl) dX4_rank_107 ⟨Nat.le_of_ble_eq_true rfl, Nat.le_of_ble_eq_true rfl⟩) hD hS hA (fun r_7 u_7 H locs hp hP hD hS => ?_)
      obtain ⟨er, eu⟩ := hp
      obtain rfl := er.symm
      obtain rfl := eu.symm
      refine lv_if_eq (tgt := 118) hx hb dX4_rank_110 (by decide) (fun c_110 => ?_) (fun c_110 => ?_)
      · have c_110 : ¬ (hs (spread (gB (closeLoop p_3 (nI i_3)) 3) (rdL (gB (closeLoop p_3 (nI i_3)) 3) 40 (nI i_3)) 0) (nI i_3)) = true := b2i_0 c_110
        refine lv_iinc (v := (nI (i_3 + 1))) (lv' := [(2, .int (nI (i_3 + 1))), (0, .ref (ad 3)), (1, .ref (ad 2))]) hx hb dX4_rank_118 hl (k := 2) rfl (nI_1 i_3) (by decide) rfl (fun ls hl => ?_)
        refine lv_goto (tgt := 77) hx hb dX4_rank_121 (by decide) ?_
        exact ih_3 (closeLoop p_3 (nI i_3)) H locs ls ⟨((show (closeLoop p_3 (nI i_3)) = rankB i_3 p_3 from (by first | (simp only [rankB, rankT, if_neg c_110, bf_of c_110, gi_sl, gi_sA, gi_sB, gi_si_s, gi_si_n, gl_si, gl_sA, gl_sB, gl_sl_s, gl_sl_n, gA_si, gA_sl, gA_sB, gA_sA_s, gA_sA_n, gB_si, gB_sl, gB_sA, gB_sB_s, gB_sB_n, Nat.reduceBEq, if_true, if_false, eq_self, Bool.false_eq_true, reduceCtorEq, not_true_eq_false, not_false_eq_true, decide_true, decide_false, cond_true, cond_false, Bool.true_and, Bool.false_and, Bool.and_true, Bool.and_false, Bool.true_or, Bool.false_or, Bool.or_true, Bool.or_false, b2i_tt, b2i_ff]; done) | (simp only [rankB, rankT, if_neg c_110, bf_of c_110, gi_sl, gi_sA, gi_sB, gi_si_s, gi_si_n, gl_si, gl_sA, gl_sB, gl_sl_s, gl_sl_n, gA_si, gA_sl, gA_sB, gA_sA_s, gA_sA_n, gB_si, gB_sl, gB_sA, gB_sB_s, gB_sB_n, Nat.reduceBEq, if_true, if_false, eq_self, Bool.false_eq_true, reduceCtorEq, not_true_eq_false, not_false_eq_true, decide_true, decide_false, cond_true, cond_false, Bool.true_and, Bool.false_and, Bool.and_true, Bool.and_false, Bool.true_or, Bool.false_or, Bool.or_true, Bool.or_false, b2i_tt, b2i_ff]; rfl) | (simp [rankB, rankT, c_110, gi_sl, gi_sA, gi_sB, gi_si_s, gi_si_n, gl_si, gl_sA, gl_sB, gl_sl_s, gl_sl_n, gA_si, gA_sl, gA_sB, gA_sA_s, gA_sA_n, gB_si, gB_sl, gB_sA, gB_sB_s, gB_sB_n, Nat.reduceBEq]; done))).trans (lp_go h_3)), hP, hD, hS, lv_sub hl [1, 2, 0] rfl⟩
      · have c_110 : (hs (spread (gB (closeLoop p_3 (nI i_3)) 3) (rdL (gB (closeLoop p_3 (nI i_3)) 3) 40 (nI i_3)) 0) (nI i_3)) = true := b2i_1 c_110
        refine lv_aload_n hx hb dX4_rank_113 rfl (lv_at hl 0 rfl) ?_
        refine lv_iconst (v := 0) hx hb dX4_rank_114 (by decide) ?_
        refine va_put (D := D) (ci := 4) (v := .int 0) (C := RX4) (T := TX4) (N := 7) hx hb hg inGX4 tyX4 tyX4_ok nmX4 hown hK hP hD hS 3 rfl rfl 5 (by decide) (hg _ mw_138) (fun _ h9 => h9) rfl (tyX4_ok 5 (by decide)) rfl rfl (Nat.le_of_ble_eq_true rfl) dX4_rank_115 (fun H locs hP hD hS => ?_)
        have hP : va_P D vwCl (XW ad cI cJ co fl (si (closeLoop p_3 (nI i_3)) 1 0) li re wa pi) H := hP
        have hD : va_D A (XW ad cI cJ co fl (si (closeLoop p_3 (nI i_3)) 1 0) li re wa pi) := hD
        refine lv_iinc (v := (nI (i_3 + 1))) (lv' := [(2, .int (nI (i_3 + 1))), (0, .ref (ad 3)), (1, .ref (ad 2))]) hx hb dX4_rank_118 hl (k := 2) rfl (nI_1 i_3) (by decide) rfl (fun ls hl => ?_)
        refine lv_goto (tgt := 77) hx hb dX4_rank_121 (by decide) ?_
        exact ih_3 (si (closeLoop p_3 (nI i_3)) 1 0) H locs ls ⟨((show (si (closeLoop p_3 (nI i_3)) 1 0) = rankB i_3 p_3 from (by first | (simp only [rankB, rankT, if_pos c_110, c_110, gi_sl, gi_sA, gi_sB, gi_si_s, gi_si_n, gl_si, gl_sA, gl_sB, gl_sl_s, gl_sl_n, gA_si, gA_sl, gA_sB, gA_sA_s, gA_sA_n, gB_si, gB_sl, gB_sA, gB_sB_s, gB_sB_n, Nat.reduceBEq, if_true, if_false, eq_self, Bool.false_eq_true, reduceCtorEq, not_true_eq_false, not_false_eq_true, decide_true, decide_false, cond_true, cond_false, Bool.true_and, Bool.false_and, Bool.and_true, Bool.and_false, Bool.true_or, Bool.false_or, Bool.or_true, Bool.or_false, b2i_tt, b2i_ff]; done) | (simp only [rankB, rankT, if_pos c_110, c_110, gi_sl, gi_sA, gi_sB, gi_si_s, gi_si_n, gl_si, gl_sA, gl_sB, gl_sl_s, gl_sl_n, gA_si, gA_sl, gA_sB, gA_sA_s, gA_sA_n, gB_si, gB_sl, gB_sA, gB_sB_s, gB_sB_n, Nat.reduceBEq, if_true, if_false, eq_self, Bool.false_eq_true, reduceCtorEq, not_true_eq_false, not_false_eq_true, decide_true, decide_false, cond_true, cond_false, Bool.true_and, Bool.false_and, Bool.and_true, Bool.and_false, Bool.true_or, Bool.false_or, Bool.or_true, Bool.or_false, b2i_tt, b2i_ff]; rfl) | (simp [rankB, rankT, c_110, gi_sl, gi_sA, gi_sB, gi_si_s, gi_si_n, gl_si, gl_sA, gl_sB, gl_sl_s, gl_sl_n, gA_si, gA_sl, gA_sB, gA_sA_s, gA_sA_n, gB_si, gB_sl, gB_sA, gB_sB_s, gB_sB_n, Nat.reduceBEq]; done))).trans (lp_go h_3)), hP, hD, hS, lv_sub hl [1, 2, 0] rfl⟩
  · obtain ⟨h_1, hP, hD, hS, hl⟩ := hI
    have hP : va_P D vwCl (XW ad cI cJ co fl p_1 li re wa pi) H := hP
    have hD : va_D A (XW ad cI cJ co fl p_1 li re wa pi) := hD
    have hl : lv_has ls 3 [(0, .ref (ad 3)), (1, .ref (ad 2)), (2, .int (nI i_1))] := hl
    refine lv_iload_n hx hb dX4_rank_2 rfl (lv_at hl 2 rfl) ?_
    refine lv_bipush (v := 40) hx hb dX4_rank_3 (by decide) ?_
    refine lv_icmp_ge (tgt := 60) hx hb dX4_rank_5 (by decide) (fun c_5 => absurd c_5 (nI_ge hi_1 (by decide))) (fun _ => ?_)
    refine lv_aload_n hx hb dX4_rank_8 rfl (lv_at hl 0 rfl) ?_
    refine va_get (D := D) (ci := 4) (v := .ref (ad 19)) (C := RX4) (T := TX4) (N := 7) hx hb hg inGX4 hown hK hP 3 rfl rfl 0 (by decide) (hg _ mw_124) (fun _ h9 => h9) rfl dX4_rank_9 ?_
    refine lv_iload_n hx hb dX4_rank_12 rfl (lv_at hl 2 rfl) ?_
    refine lv_aload_n hx hb dX4_rank_13 rfl (lv_at hl 1 rfl) ?_
    refine va_getN (D := D) (ci := 1) (v := .long (gl fl 0)) (C := RX1) (T := TX1) (N := 11) hx hb hg inGX1 hown hK hP 2 rfl rfl 9 (by decide) (hN.use nw_33) (fun _ h9 => h9) rfl dX4_rank_14 ?_
    refine lv_iload_n hx hb dX4_rank_17 rfl (lv_at hl 2 rfl) ?_
    refine kI (rSN hx hb hml hown hg hN hK hP hD (c_has l D cI cJ (XW ad cI cJ co fl p_1 li re wa pi) (gl fl 0) (nI i_1)) mw_89 nw_73 mw_90 mw_77 pd_X7_has ⟨Nat.le_of_ble_eq_true rfl, Nat.le_of_ble_eq_true rfl⟩ rfl hl.1 rfl (Nat.le_of_ble_eq_true rfl) dX4_rank_18 ⟨Nat.le_of_ble_eq_true rfl, Nat.le_of_ble_eq_true rfl⟩) hD hS hA (fun r_8 u_8 H locs hp hP hD hS => ?_)
    obtain ⟨er, eu⟩ := hp
    obtain rfl := er.symm
    obtain rfl := eu.symm
    refine lv_if_eq (tgt := 32) hx hb dX4_rank_21 (by decide) (fun c_21 => ?_) (fun c_21 => ?_)
    · have c_21 : ¬ (hs (gl fl 0) (nI i_1)) = true := b2i_0 c_21
      refine lv_lconst (v := 0) hx hb dX4_rank_32 (by decide) ?_
      refine kV (rSN hx hb hml hown hg hN hK hP hD (c_putL l D cI cJ (XW ad cI cJ co fl p_1 li re wa pi) 19 (ad 19) 40 (gB p_1 0) (nI i_1) 0 rfl (by decide)) mw_97 nw_76 mw_98 mw_77 pd_X7_put_ ⟨Nat.le_of_ble_eq_true rfl, Nat.le_of_ble_eq_true rfl⟩ rfl hl.1 rfl (Nat.le_of_ble_eq_true rfl) dX4_rank_33 ⟨Nat.le_of_ble_eq_true rfl, Nat.le_of_ble_eq_true rfl⟩) hD hS hA (fun u_9 H locs hp hP hD hS => ?_)
      obtain rfl := hp.symm
      have hP : va_P D vwCl (XW ad cI cJ co fl (sB p_1 0 (wrL (gB p_1 0) 40 (nI i_1) 0)) li re wa pi) H := hP
      have hD : va_D A (XW ad cI cJ co fl (sB p_1 0 (wrL (gB p_1 0) 40 (nI i_1) 0)) li re wa pi) := hD
      refine lv_aload_n hx hb dX4_rank_36 rfl (lv_at hl 0 rfl) ?_
      refine va_get (D := D) (ci := 4) (v := .ref (ad 21)) (C := RX4) (T := TX4) (N := 7) hx hb hg inGX4 hown hK hP 3 rfl rfl 2 (by decide) (hg _ mw_125) (fun _ h9 => h9) rfl dX4_rank_37 ?_
      refine lv_iload_n hx hb dX4_rank_40 rfl (lv_at hl 2 rfl) ?_
      refine lv_lconst (v := 0) hx hb dX4_rank_41 (by decide) ?_
      refine kV (rSN hx hb hml hown hg hN hK hP hD (c_putL l D cI cJ (XW ad cI cJ co fl (sB p_1 0 (wrL (gB p_1 0) 40 (nI i_1) 0)) li re wa pi) 21 (ad 21) 40 (gB p_1 2) (nI i_1) 0 rfl (by decide)) mw_97 nw_76 mw_98 mw_77 pd_X7_put_ ⟨Nat.le_of_ble_eq_true rfl, Nat.le_of_ble_eq_true rfl⟩ rfl hl.1 rfl (Nat.le_of_ble_eq_true rfl) dX4_rank_42 ⟨Nat.le_of_ble_eq_true rfl, Nat.le_of_ble_eq_true rfl⟩) hD hS hA (fun u_10 H locs hp hP hD hS => ?_)
      obtain rfl := hp.symm
      have hP : va_P D vwCl (XW ad cI cJ co fl (sB (sB p_1 0 (wrL (gB p_1 0) 40 (nI i_1) 0)) 2 (wrL (gB p_1 2) 40 (nI i_1) 0)) li re wa pi) H := hP
      have hD : va_D A (XW ad cI cJ co fl (sB (sB p_1 0 (wrL (gB p_1 0) 40 (nI i_1) 0)) 2 (wrL (gB p_1 2) 40 (nI i_1) 0)) li re wa pi) := hD
      refine lv_aload_n hx hb dX4_rank_45 rfl (lv_at hl 0 rfl) ?_
      refine va_get (D := D) (ci := 4) (v := .ref (ad 20)) (C := RX4) (T := TX4) (N := 7) hx hb hg inGX4 hown hK hP 3 rfl rfl 1 (by decide) (hg _ mw_132) (fun _ h9 => h9) rfl dX4_rank_46 ?_
      refine lv_iload_n hx hb dX4_rank_49 rfl (lv_at hl 2 rfl) ?_
      refine lv_lconst (v := 0) hx hb dX4_rank_50 (by decide) ?_
      refine kV (rSN hx hb hml hown hg hN hK hP hD (c_putL l D cI cJ (XW ad cI cJ co fl (sB (sB p_1 0 (wrL (gB p_1 0) 40 (nI i_1) 0)) 2 (wrL (gB p_1 2) 40 (nI i_1) 0)) li re wa pi) 20 (ad 20) 40 (gB p_1 1) (nI i_1) 0 rfl (by decide)) mw_97 nw_76 mw_98 mw_77 pd_X7_put_ ⟨Nat.le_of_ble_eq_true rfl, Nat.le_of_ble_eq_true rfl⟩ rfl hl.1 rfl (Nat.le_of_ble_eq_true rfl) dX4_rank_51 ⟨Nat.le_of_ble_eq_true rfl, Nat.le_of_ble_eq_true rfl⟩) hD hS hA (fun u_11 H locs hp hP hD hS => ?_)
      obtain rfl := hp.symm
      have hP : va_P D vwCl (XW ad cI cJ co fl (sB (sB (sB p_1 0 (wrL (gB p_1 0) 40 (nI i_1) 0)) 2 (wrL (gB p_1 2) 40 (nI i_1) 0)) 1 (wrL (gB p_1 1) 40 (nI i_1) 0)) li re wa pi) H := hP
      have hD : va_D A (XW ad cI cJ co fl (sB (sB (sB p_1 0 (wrL (gB p_1 0) 40 (nI i_1) 0)) 2 (wrL (gB p_1 2) 40 (nI i_1) 0)) 1 (wrL (gB p_1 1) 40 (nI i_1) 0)) li re wa pi) := hD
      refine lv_iinc (v := (nI (i_1 + 1))) (lv' := [(2, .int (nI (i_1 + 1))), (0, .ref (ad 3)), (1, .ref (ad 2))]) hx hb dX4_rank_54 hl (k := 2) rfl (nI_1 i_1) (by decide) rfl (fun ls hl => ?_)
      refine lv_goto (tgt := 2) hx hb dX4_rank_57 (by decide) ?_
      exact ih_1 (sB (sB (sB p_1 0 (wrL (gB p_1 0) 40 (nI i_1) 0)) 2 (wrL (gB p_1 2) 40 (nI i_1) 0)) 1 (wrL (gB p_1 1) 40 (nI i_1) 0)) H locs ls ⟨((show (sB (sB (sB p_1 0 (wrL (gB p_1 0) 40 (nI i_1) 0)) 2 (wrL (gB p_1 2) 40 (nI i_1) 0)) 1 (wrL (gB p_1 1) 40 (nI i_1) 0)) = (rankA fl) i_1 p_1 from (by first | (simp only [rankA, if_neg c_21, bf_of c_21, gi_sl, gi_sA, gi_sB, gi_si_s, gi_si_n, gl_si, gl_sA, gl_sB, gl_sl_s, gl_sl_n, gA_si, gA_sl, gA_sB, gA_sA_s, gA_sA_n, gB_si, gB_sl, gB_sA, gB_sB_s, gB_sB_n, Nat.reduceBEq, if_true, if_false, eq_self, Bool.false_eq_true, reduceCtorEq, not_true_eq_false, not_false_eq_true, decide_true, decide_false, cond_true, cond_false, Bool.true_and, Bool.false_and, Bool.and_true, Bool.and_false, Bool.true_or, Bool.false_or, Bool.or_true, Bool.or_false, b2i_tt, b2i_ff]; done) | (simp only [rankA, if_neg c_21, bf_of c_21, gi_sl, gi_sA, gi_sB, gi_si_s, gi_si_n, gl_si, gl_sA, gl_sB, gl_sl_s, gl_sl_n, gA_si, gA_sl, gA_sB, gA_sA_s, gA_sA_n, gB_si, gB_sl, gB_sA, gB_sB_s, gB_sB_n, Nat.reduceBEq, if_true, if_false, eq_self, Bool.false_eq_true, reduceCtorEq, not_true_eq_false, not_false_eq_true, decide_true, decide_false, cond_true, cond_false, Bool.true_and, Bool.false_and, Bool.and_true, Bool.and_false, Bool.true_or, Bool.false_or, Bool.or_true, Bool.or_false, b2i_tt, b2i_ff]; rfl) | (simp [rankA, c_21, gi_sl, gi_sA, gi_sB, gi_si_s, gi_si_n, gl_si, gl_sA, gl_sB, gl_sl_s, gl_sl_n, gA_si, gA_sl, gA_sB, gA_sA_s, gA_sA_n, gB_si, gB_sl, gB_sA, gB_sB_s, gB_sB_n, Nat.reduceBEq]; done))).trans (lp_go h_1)), hP, hD, hS, lv_sub hl [1, 2, 0] rfl⟩
    · have c_21 : (hs (gl fl 0) (nI i_1)) = true := b2i_1 c_21
      refine lv_aload_n hx hb dX4_rank_24 rfl (lv_at hl 1 rfl) ?_
      refine lv_iload_n hx hb dX4_rank_25 rfl (lv_at hl 2 rfl) ?_
      refine kL (rS hx hb hml hown hg hN hK hP hD (c_ruledBy l D cI cJ ad co fl p_1 li re wa pi (nI i_1)) mw_143 mw_144 mw_145 mw_130 pd_X4_ruledBy ⟨Nat.le_of_ble_eq_true rfl, Nat.le_of_ble_eq_true rfl⟩ rfl hl.1 rfl (Nat.le_of_ble_eq_true rfl) dX4_rank_26 ⟨Nat.le_of_ble_eq_true rfl, Nat.le_of_ble_eq_true rfl⟩) hD hS hA (fun r_12 u_12 H locs hp hP hD hS => ?_)
      obtain ⟨er, eu⟩ := hp
      obtain rfl := er.symm
      obtain rfl := eu.symm
      refine lv_goto (tgt := 33) hx hb dX4_rank_29 (by decide) ?_
      refine kV (rSN hx hb hml hown hg hN hK hP hD (c_putL l D cI cJ (XW ad cI cJ co fl p_1 li re wa pi) 19 (ad 19) 40 (gB p_1 0) (nI i_1) (ruledBy fl (nI i_1)) rfl (by decide)) mw_97 nw_76 mw_98 mw_77 pd_X7_put_ ⟨Nat.le_of_ble_eq_true rfl, Nat.le_of_ble_eq_true rfl⟩ rfl hl.1 rfl (Nat.le_of_ble_eq_true rfl) dX4_rank_33 ⟨Nat.le_of_ble_eq_true rfl, Nat.le_of_ble_eq_true rfl⟩) hD hS hA (fun u_13 H locs hp hP hD hS => ?_)
      obtain rfl := hp.symm
      have hP : va_P D vwCl (XW ad cI cJ co fl (sB p_1 0 (wrL (gB p_1 0) 40 (nI i_1) (ruledBy fl (nI i_1)))) li re wa pi) H := hP
      have hD : va_D A (XW ad cI cJ co fl (sB p_1 0 (wrL (gB p_1 0) 40 (nI i_1) (ruledBy fl (nI i_1)))) li re wa pi) := hD
      refine lv_aload_n hx hb dX4_rank_36 rfl (lv_at hl 0 rfl) ?_
      refine va_get (D := D) (ci := 4) (v := .ref (ad 21)) (C := RX4) (T := TX4) (N := 7) hx hb hg inGX4 hown hK hP 3 rfl rfl 2 (by decide) (hg _ mw_125) (fun _ h9 => h9) rfl dX4_rank_37 ?_
      refine lv_iload_n hx hb dX4_rank_40 rfl (lv_at hl 2 rfl) ?_
      refine lv_lconst (v := 0) hx hb dX4_rank_41 (by decide) ?_
      refine kV (rSN hx hb hml hown hg hN hK hP hD (c_putL l D cI cJ (XW ad cI cJ co fl (sB p_1 0 (wrL (gB p_1 0) 40 (nI i_1) (ruledBy fl (nI i_1)))) li re wa pi) 21 (ad 21) 40 (gB p_1 2) (nI i_1) 0 rfl (by decide)) mw_97 nw_76 mw_98 mw_77 pd_X7_put_ ⟨Nat.le_of_ble_eq_true rfl, Nat.le_of_ble_eq_true rfl⟩ rfl hl.1 rfl (Nat.le_of_ble_eq_true rfl) dX4_rank_42 ⟨Nat.le_of_ble_eq_true rfl, Nat.le_of_ble_eq_true rfl⟩) hD hS hA (fun u_14 H locs hp hP hD hS => ?_)
      obtain rfl := hp.symm
      have hP : va_P D vwCl (XW ad cI cJ co fl (sB (sB p_1 0 (wrL (gB p_1 0) 40 (nI i_1) (ruledBy fl (nI i_1)))) 2 (wrL (gB p_1 2) 40 (nI i_1) 0)) li re wa pi) H := hP
      have hD : va_D A (XW ad cI cJ co fl (sB (sB p_1 0 (wrL (gB p_1 0) 40 (nI i_1) (ruledBy fl (nI i_1)))) 2 (wrL (gB p_1 2) 40 (nI i_1) 0)) li re wa pi) := hD
      refine lv_aload_n hx hb dX4_rank_45 rfl (lv_at hl 0 rfl) ?_
      refine va_get (D := D) (ci := 4) (v := .ref (ad 20)) (C := RX4) (T := TX4) (N := 7) hx hb hg inGX4 hown hK hP 3 rfl rfl 1 (by decide) (hg _ mw_132) (fun _ h9 => h9) rfl dX4_rank_46 ?_
      refine lv_iload_n hx hb dX4_rank_49 rfl (lv_at hl 2 rfl) ?_
      refine lv_lconst (v := 0) hx hb dX4_rank_50 (by decide) ?_
      refine kV (rSN hx hb hml hown hg hN hK hP hD (c_putL l D cI cJ (XW ad cI cJ co fl (sB (sB p_1 0 (wrL (gB p_1 0) 40 (nI i_1) (ruledBy fl (nI i_1)))) 2 (wrL (gB p_1 2) 40 (nI i_1) 0)) li re wa pi) 20 (ad 20) 40 (gB p_1 1) (nI i_1) 0 rfl (by decide)) mw_97 nw_76 mw_98 mw_77 pd_X7_put_ ⟨Nat.le_of_ble_eq_true rfl, Nat.le_of_ble_eq_true rfl⟩ rfl hl.1 rfl (Nat.le_of_ble_eq_true rfl) dX4_rank_51 ⟨Nat.le_of_ble_eq_true rfl, Nat.le_of_ble_eq_true rfl⟩) hD hS hA (fun u_15 H locs hp hP hD hS => ?_)
      obtain rfl := hp.symm
      have hP : va_P D vwCl (XW ad cI cJ co fl (sB (sB (sB p_1 0 (wrL (gB p_1 0) 40 (nI i_1) (ruledBy fl (nI i_1)))) 2 (wrL (gB p_1 2) 40 (nI i_1) 0)) 1 (wrL (gB p_1 1) 40 (nI i_1) 0)) li re wa pi) H := hP
      have hD : va_D A (XW ad cI cJ co fl (sB (sB (sB p_1 0 (wrL (gB p_1 0) 40 (nI i_1) (ruledBy fl (nI i_1)))) 2 (wrL (gB p_1 2) 40 (nI i_1) 0)) 1 (wrL (gB p_1 1) 40 (nI i_1) 0)) li re wa pi) := hD
      refine lv_iinc (v := (nI (i_1 + 1))) (lv' := [(2, .int (nI (i_1 + 1))), (0, .ref (ad 3)), (1, .ref (ad 2))]) hx hb dX4_rank_54 hl (k := 2) rfl (nI_1 i_1) (by decide) rfl (fun ls hl => ?_)
      refine lv_goto (tgt := 2) hx hb dX4_rank_57 (by decide) ?_
      exact ih_1 (sB (sB (sB p_1 0 (wrL (gB p_1 0) 40 (nI i_1) (ruledBy fl (nI i_1)))) 2 (wrL (gB p_1 2) 40 (nI i_1) 0)) 1 (wrL (gB p_1 1) 40 (nI i_1) 0)) H locs ls ⟨((show (sB (sB (sB p_1 0 (wrL (gB p_1 0) 40 (nI i_1) (ruledBy fl (nI i_1)))) 2 (wrL (gB p_1 2) 40 (nI i_1) 0)) 1 (wrL (gB p_1 1) 40 (nI i_1) 0)) = (rankA fl) i_1 p_1 from (by first | (simp only [rankA, if_pos c_21, c_21, gi_sl, gi_sA, gi_sB, gi_si_s, gi_si_n, gl_si, gl_sA, gl_sB, gl_sl_s, gl_sl_n, gA_si, gA_sl, gA_sB, gA_sA_s, gA_sA_n, gB_si, gB_sl, gB_sA, gB_sB_s, gB_sB_n, Nat.reduceBEq, if_true, if_false, eq_self, Bool.false_eq_true, reduceCtorEq, not_true_eq_false, not_false_eq_true, decide_true, decide_false, cond_true, cond_false, Bool.true_and, Bool.false_and, Bool.and_true, Bool.and_false, Bool.true_or, Bool.false_or, Bool.or_true, Bool.or_false, b2i_tt, b2i_ff]; done) | (simp only [rankA, if_pos c_21, c_21, gi_sl, gi_sA, gi_sB, gi_si_s, gi_si_n, gl_si, gl_sA, gl_sB, gl_sl_s, gl_sl_n, gA_si, gA_sl, gA_sB, gA_sA_s, gA_sA_n, gB_si, gB_sl, gB_sA, gB_sB_s, gB_sB_n, Nat.reduceBEq, if_true, if_false, eq_self, Bool.false_eq_true, reduceCtorEq, not_true_eq_false, not_false_eq_true, decide_true, decide_false, cond_true, cond_false, Bool.true_and, Bool.false_and, Bool.and_true, Bool.and_false, Bool.true_or, Bool.false_or, Bool.or_true, Bool.or_false, b2i_tt, b2i_ff]; rfl) | (simp [rankA, c_21, gi_sl, gi_sA, gi_sB, gi_si_s, gi_si_n, gl_si, gl_sA, gl_sB, gl_sl_s, gl_sl_n, gA_si, gA_sl, gA_sB, gA_sA_s, gA_sA_n, gB_si, gB_sl, gB_sA, gB_sB_s, gB_sB_n, Nat.reduceBEq]; done))).trans (lp_go h_1)), hP, hD, hS, lv_sub hl [1, 2, 0] rfl⟩
set_option maxHeartbeats 4000000 in
set_option maxRecDepth 100000 in
theorem c_nearestAbove (l : Launch) (D : va_G) (cI cJ : ClassId) (ad : Nat → Nat) (co fl ra li re wa pi : Ob) (k1 : Int32) : CT l D (TY cI cJ) yX4_nearestAbove (.code yX4_nearestAbove cX4_nearestAbove 6 (some Jvm.ClassFile.FieldType.int)) 2 0 0 (XW ad cI cJ co fl ra li re wa pi) [.ref (ad 3), .int k1] (QI D (TY cI cJ) (fun r u => r = (nearest ra k1) ∧ u = (XW ad cI cJ co fl ra li re wa pi))) := by
  refine ent (by decide) (Nat.le_of_ble_eq_true rfl) ?_
  intro p e s m below meth c ls A hx hb hr hg hown hml hlocks hnm hP hK hD hS hA hN hl
  have hl : lv_has ls 6 [(0, .ref (ad 3)), (1, .int k1)] := hl
  refine lv_iconst (v := (-1)) hx hb dX4_nearestAbove_0 (by decide) ?_
  refine lv_istore_n (lv' := [(2, .int (-1)), (0, .ref (ad 3)), (1, .int k1)]) hx hb dX4_nearestAbove_1 rfl hl (by decide) rfl (fun ls hl => ?_)
  refine lv_bipush (v := 41) hx hb dX4_nearestAbove_2 (by decide) ?_
  refine lv_istore_n (lv' := [(3, .int 41), (2, .int (-1)), (0, .ref (ad 3)), (1, .int k1)]) hx hb dX4_nearestAbove_4 rfl hl (by decide) rfl (fun ls hl => ?_)
  refine lv_iconst (v := 0) hx hb dX4_nearestAbove_5 (by decide) ?_
  refine lv_istore (lv' := [(4, .int 0), (3, .int 41), (2, .int (-1)), (0, .ref (ad 3)), (1, .int k1)]) hx hb dX4_nearestAbove_6 hl (by decide) rfl (fun ls hl => ?_)
  refine w_loop (σ := Int32 × Int32) (fun (i_1 : Nat) (p_1 : Int32 × Int32) (H : Heap) (locs : List Loc) (ls : Array Slot) => p_1 = (lp (nearStep ra k1) i_1 ((-1), 41)) ∧ va_P D vwCl (XW ad cI cJ co fl ra li re wa pi) H ∧ va_D A (XW ad cI cJ co fl ra li re wa pi) ∧ va_S A s.heap H locs ∧ lv_has ls 6 [(0, .ref (ad 3)), (1, .int k1), (2, .int p_1.1), (3, .int p_1.2), (4, .int (nI i_1))]) (40) (fun p_1 H locs ls hI => ?_) (fun i_1 p_1 H locs ls hi_1 hI ih_1 => ?_) 0 ((-1), 41) (Nat.zero_le _) ⟨rfl, hP, hD, hS, (by rw [nI_0]; exact lv_sub hl [3, 4, 2, 1, 0] rfl)⟩
  · obtain ⟨h_1, hP, hD, hS, hl⟩ := hI
    have h_1 := h_1.symm
    subst h_1
    have hP : va_P D vwCl (XW ad cI cJ co fl ra li re wa pi) H := hP
    have hD : va_D A (XW ad cI cJ co fl ra li re wa pi) := hD
    have hl : lv_has ls 6 [(0, .ref (ad 3)), (1, .int k1), (2, .int ((lp (nearStep ra k1) (40) ((-1), 41)).1)), (3, .int ((lp (nearStep ra k1) (40) ((-1), 41)).2)), (4, .int (nI 40))] := hl
    refine lv_iload hx hb dX4_nearestAbove_8 (lv_at hl 4 rfl) ?_
    refine lv_bipush (v := 40) hx hb dX4_nearestAbove_10 (by decide) ?_
    refine lv_icmp_ge (tgt := 63) hx hb dX4_nearestAbove_12 (by decide) (fun _ => ?_) (fun c_12 => absurd (by decide) c_12)
    refine lv_iload_n hx hb dX4_nearestAbove_63 rfl (lv_at hl 2 rfl) ?_
    exact W.iret (v := ((lp (nearStep ra k1) (40) ((-1), 41)).1)) hx hb hr (fun t ht hW => ⟨⟨((lp (nearStep ra k1) (40) ((-1), 41)).1), (XW ad cI cJ co fl ra li re wa pi), rfl, ⟨(show (((lp (nearStep ra k1) (40) ((-1), 41)).1) : Int32) = (nearest ra k1) from (by first | with_reducible rfl | (simp only [nearest, gi_sl, gi_sA, gi_sB, gi_si_s, gi_si_n, gl_si, gl_sA, gl_sB, gl_sl_s, gl_sl_n, gA_si, gA_sl, gA_sB, gA_sA_s, gA_sA_n, gB_si, gB_sl, gB_sA, gB_sB_s, gB_sB_n, Nat.reduceBEq, if_true, if_false, eq_self, Bool.false_eq_true, reduceCtorEq, not_true_eq_false, not_false_eq_true, decide_true, decide_false, cond_true, cond_false, Bool.true_and, Bool.false_and, Bool.and_true, Bool.and_false, Bool.true_or, Bool.false_or, Bool.or_true, Bool.or_false, b2i_tt, b2i_ff]; done) | rfl)), xw_eq rfl rfl rfl rfl rfl rfl rfl⟩, ⟨by rw [ht]; exact hP, va_K.moved hW.alike hK, hD⟩⟩, hS.F ht⟩) hS.2.2 dX4_nearestAbove_64
  · obtain ⟨h_1, hP, hD, hS, hl⟩ := hI
    have hP : va_P D vwCl (XW ad cI cJ co fl ra li re wa pi) H := hP
    have hD : va_D A (XW ad cI cJ co fl ra li re wa pi) := hD
    have hl : lv_has ls 6 [(0, .ref (ad 3)), (1, .int k1), (2, .int p_1.1), (3, .int p_1.2), (4, .int (nI i_1))] := hl
    refine lv_iload hx hb dX4_nearestAbove_8 (lv_at hl 4 rfl) ?_
    refine lv_bipush (v := 40) hx hb dX4_nearestAbove_10 (by decide) ?_
    refine lv_icmp_ge (tgt := 63) hx hb dX4_nearestAbove_12 (by decide) (fun c_12 => absurd c_12 (nI_ge hi_1 (by decide))) (fun _ => ?_)
    refine lv_aload_n hx hb dX4_nearestAbove_15 rfl (lv_at hl 0 rfl) ?_
    refine va_get (D := D) (ci := 4) (v := .ref (ad 19)) (C := RX4) (T := TX4) (N := 7) hx hb hg inGX4 hown hK hP 3 rfl rfl 0 (by decide) (hg _ mw_124) (fun _ h9 => h9) rfl dX4_nearestAbove_16 ?_
    refine lv_iload hx hb dX4_nearestAbove_19 (lv_at hl 4 rfl) ?_
    refine kL (rSN hx hb hml hown hg hN hK hP hD (c_atL l D cI cJ (XW ad cI cJ co fl ra li re wa pi) 19 (ad 19) 40 (gB ra 0) (nI i_1) rfl (by decide)) mw_81 nw_78 mw_83 mw_77 pd_X7_at_ ⟨Nat.le_of_ble_eq_true rfl, Nat.le_of_ble_eq_true rfl⟩ rfl hl.1 rfl (Nat.le_of_ble_eq_true rfl) dX4_nearestAbove_21 ⟨Nat.le_of_ble_eq_true rfl, Nat.le_of_ble_eq_true rfl⟩) hD hS hA (fun r_2 u_2 H locs hp hP hD hS => ?_)
    obtain ⟨er, eu⟩ := hp
    obtain rfl := er.symm
    obtain rfl := eu.symm
    refine kI (rS hx hb hml hown hg hN hK hP hD (c_bitCount l D cI cJ (XW ad cI cJ co fl ra li re wa pi) (rdL (gB ra 0) 40 (nI i_1))) mw_68 mw_146 mw_70 mw_71 pd_J13_bitCount_95d88 ⟨Nat.le_of_ble_eq_true rfl, Nat.le_of_ble_eq_true rfl⟩ rfl hl.1 rfl (Nat.le_of_ble_eq_true rfl) dX4_nearestAbove_24 ⟨Nat.le_of_ble_eq_true rfl, Nat.le_of_ble_eq_true rfl⟩) hD hS hA (fun r_3 u_3 H locs hp hP hD hS => ?_)
    obtain ⟨er, eu⟩ := hp
    obtain rfl := er.symm
    obtain rfl := eu.symm
    refine lv_istore (lv' := [(5, .int (bc (rdL (gB ra 0) 40 (nI i_1)))), (0, .ref (ad 3)), (1, .int k1), (2, .int p_1.1), (3, .int p_1.2), (4, .int (nI i_1))]) hx hb dX4_nearestAbove_27 hl (by decide) rfl (fun ls hl => ?_)
    refine lv_iload hx hb dX4_nearestAbove_29 (lv_at hl 5 rfl) ?_
    refine lv_iload_n hx hb dX4_nearestAbove_31 rfl (lv_at hl 2 rfl) ?_
    refine lv_icmp_eq (tgt := 57) hx hb dX4_nearestAbove_32 (by decide) (fun c_32 => ?_) (fun c_32 => ?_)
    · refine lv_iinc (v := (nI (i_1 + 1))) (lv' := [(4, .int (nI (i_1 + 1))), (5, .int (bc (rdL (gB ra 0) 40 (nI i_1)))), (0, .ref (ad 3)), (1, .int k1), (2, .int p_1.1), (3, .int p_1.2)]) hx hb dX4_nearestAbove_57 hl (k := 5) rfl (nI_1 i_1) (by decide) rfl (fun ls hl => ?_)
      refine lv_goto (tgt := 8) hx hb dX4_nearestAbove_60 (by decide) ?_
      exact ih_1 (p_1.1, p_1.2) H locs ls ⟨((show (p_1.1, p_1.2) = (nearStep ra k1) i_1 p_1 from (by first | (simp only [nearStep, rules, if_pos c_32, decide_eq_true c_32, decide_eq_false (not_not_intro c_32), gi_sl, gi_sA, gi_sB, gi_si_s, gi_si_n, gl_si, gl_sA, gl_sB, gl_sl_s, gl_sl_n, gA_si, gA_sl, gA_sB, gA_sA_s, gA_sA_n, gB_si, gB_sl, gB_sA, gB_sB_s, gB_sB_n, Nat.reduceBEq, if_true, if_false, eq_self, Bool.false_eq_true, reduceCtorEq, not_true_eq_false, not_false_eq_true, decide_true, decide_false, cond_true, cond_false, Bool.true_and, Bool.false_and, Bool.and_true, Bool.and_false, Bool.true_or, Bool.false_or, Bool.or_true, Bool.or_false, b2i_tt, b2i_ff]; done) | (simp only [nearStep, rules, if_pos c_32, decide_eq_true c_32, decide_eq_false (not_not_intro c_32), gi_sl, gi_sA, gi_sB, gi_si_s, gi_si_n, gl_si, gl_sA, gl_sB, gl_sl_s, gl_sl_n, gA_si, gA_sl, gA_sB, gA_sA_s, gA_sA_n, gB_si, gB_sl, gB_sA, gB_sB_s, gB_sB_n, Nat.reduceBEq, if_true, if_false, eq_self, Bool.false_eq_true, reduceCtorEq, not_true_eq_false, not_false_eq_true, decide_true, decide_false, cond_true, cond_false, Bool.true_and, Bool.false_and, Bool.and_true, Bool.and_false, Bool.true_or, Bool.false_or, Bool.or_true, Bool.or_false, b2i_tt, b2i_ff]; rfl) | (simp [nearStep, rules, c_32, gi_sl, gi_sA, gi_sB, gi_si_s, gi_si_n, gl_si, gl_sA, gl_sB, gl_sl_s, gl_sl_n, gA_si, gA_sl, gA_sB, gA_sA_s, gA_sA_n, gB_si, gB_sl, gB_sA, gB_sB_s, gB_sB_n, Nat.reduceBEq]; done))).trans (lp_go h_1)), hP, hD, hS, lv_sub hl [2, 3, 4, 5, 0] rfl⟩
    · refine lv_aload_n hx hb dX4_nearestAbove_35 rfl (lv_at hl 1 rfl) ?_
      refine lv_iload hx hb dX4_nearestAbove_36 (lv_at hl 5 rfl) ?_
      refine lv_iload_n hx hb dX4_nearestAbove_38 rfl (lv_at hl 2 rfl) ?_
      refine kI (rV (q0 := 3) (ci := 4) hx hb hml hown hg hN hK hP hD (c_rules l D cI cJ ad co fl ra li re wa pi (nI i_1) k1) mw_126 mw_127 mw_128 mw_129 mw_130 pdv_X4_rules ⟨Nat.le_of_ble_eq_true rfl, Nat.le_of_ble_eq_true rfl⟩ rfl rfl rfl hl.1 rfl (Nat.le_of_ble_eq_true rfl) dX4_nearestAbove_39 ⟨Nat.le_of_ble_eq_true rfl, Nat.le_of_ble_eq_true rfl⟩) hD hS hA (fun r_4 u_4 H locs hp hP hD hS => ?_)
      obtain ⟨er, eu⟩ := hp
      obtain rfl := er.symm
      obtain rfl := eu.symm
      refine lv_if_eq (tgt := 57) hx hb dX4_nearestAbove_42 (by decide) (fun c_42 => ?_) (fun c_42 => ?_)
      · have c_42 : ¬ (hs (rdL (gB ra 0) 40 (nI i_1)) k1) = true := b2i_0 c_42
        refine lv_iinc (v := (nI (i_1 + 1))) (lv' := [(4, .int (nI (i_1 + 1))), (5, .int (bc (rdL (gB ra 0) 40 (nI i_1)))), (0, .ref (ad 3)), (1, .int k1), (2, .int p_1.1), (3, .int p_1.2)]) hx hb dX4_nearestAbove_57 hl (k := 5) rfl (nI_1 i_1) (by decide) rfl (fun ls hl => ?_)
        refine lv_goto (tgt := 8) hx hb dX4_nearestAbove_60 (by decide) ?_
        exact ih_1 (p_1.1, p_1.2) H locs ls ⟨((show (p_1.1, p_1.2) = (nearStep ra k1) i_1 p_1 from (by first | (simp only [nearStep, rules, if_neg c_32, decide_eq_false c_32, decide_eq_true c_32, if_pos c_32, if_neg c_42, bf_of c_42, gi_sl, gi_sA, gi_sB, gi_si_s, gi_si_n, gl_si, gl_sA, gl_sB, gl_sl_s, gl_sl_n, gA_si, gA_sl, gA_sB, gA_sA_s, gA_sA_n, gB_si, gB_sl, gB_sA, gB_sB_s, gB_sB_n, Nat.reduceBEq, if_true, if_false, eq_self, Bool.false_eq_true, reduceCtorEq, not_true_eq_false, not_false_eq_true, decide_true, decide_false, cond_true, cond_false, Bool.true_and, Bool.false_and, Bool.and_true, Bool.and_false, Bool.true_or, Bool.false_or, Bool.or_true, Bool.or_false, b2i_tt, b2i_ff]; done) | (simp only [nearStep, rules, if_neg c_32, decide_eq_false c_32, decide_eq_true c_32, if_pos c_32, if_neg c_42, bf_of c_42, gi_sl, gi_sA, gi_sB, gi_si_s, gi_si_n, gl_si, gl_sA, gl_sB, gl_sl_s, gl_sl_n, gA_si, gA_sl, gA_sB, gA_sA_s, gA_sA_n, gB_si, gB_sl, gB_sA, gB_sB_s, gB_sB_n, Nat.reduceBEq, if_true, if_false, eq_self, Bool.false_eq_true, reduceCtorEq, not_true_eq_false, not_false_eq_true, decide_true, decide_false, cond_true, cond_false, Bool.true_and, Bool.false_and, Bool.and_true, Bool.and_false, Bool.true_or, Bool.false_or, Bool.or_true, Bool.or_false, b2i_tt, b2i_ff]; rfl) | (simp [nearStep, rules, c_32, c_42, gi_sl, gi_sA, gi_sB, gi_si_s, gi_si_n, gl_si, gl_sA, gl_sB, gl_sl_s, gl_sl_n, gA_si, gA_sl, gA_sB, gA_sA_s, gA_sA_n, gB_si, gB_sl, gB_sA, gB_sB_s, gB_sB_n, Nat.reduceBEq]; done))).trans (lp_go h_1)), hP, hD, hS, lv_sub hl [2, 3, 4, 5, 0] rfl⟩
      · have c_42 : (hs (rdL (gB ra 0) 40 (nI i_1)) k1) = true := b2i_1 c_42
        refine lv_iload hx hb dX4_nearestAbove_45 (lv_at hl 0 rfl) ?_
        refine lv_iload_n hx hb dX4_nearestAbove_47 rfl (lv_at hl 4 rfl) ?_
        refine lv_icmp_ge (tgt := 57) hx hb dX4_nearestAbove_48 (by decide) (fun c_48 => ?_) (fun c_48 => ?_)
        · have c_48 : ¬ (bc (rdL (gB ra 0) 40 (nI i_1))) < p_1.2 := i_ge c_48
          refine lv_iinc (v := (nI (i_1 + 1))) (lv' := [(4, .int (nI (i_1 + 1))), (5, .int (bc (rdL (gB ra 0) 40 (nI i_1)))), (0, .ref (ad 3)), (1, .int k1), (2, .int p_1.1), (3, .int p_1.2)]) hx hb dX4_nearestAbove_57 hl (k := 5) rfl (nI_1 i_1) (by decide) rfl (fun ls hl => ?_)
          refine lv_goto (tgt := 8) hx hb dX4_nearestAbove_60 (by decide) ?_
          exact ih_1 (p_1.1, p_1.2) H locs ls ⟨((show (p_1.1, p_1.2) = (nearStep ra k1) i_1 p_1 from (by first | (simp only [nearStep, rules, if_neg c_32, decide_eq_false c_32, decide_eq_true c_32, if_pos c_32, if_pos c_42, c_42, if_neg c_48, decide_eq_false c_48, decide_eq_true c_48, if_pos c_48, gi_sl, gi_sA, gi_sB, gi_si_s, gi_si_n, gl_si, gl_sA, gl_sB, gl_sl_s, gl_sl_n, gA_si, gA_sl, gA_sB, gA_sA_s, gA_sA_n, gB_si, gB_sl, gB_sA, gB_sB_s, gB_sB_n, Nat.reduceBEq, if_true, if_false, eq_self, Bool.false_eq_true, reduceCtorEq, not_true_eq_false, not_false_eq_true, decide_true, decide_false, cond_true, cond_false, Bool.true_and, Bool.false_and, Bool.and_true, Bool.and_false, Bool.true_or, Bool.false_or, Bool.or_true, Bool.or_false, b2i_tt, b2i_ff]; done) | (simp only [nearStep, rules, if_neg c_32, decide_eq_false c_32, decide_eq_true c_32, if_pos c_32, if_pos c_42, c_42, if_neg c_48, decide_eq_false c_48, decide_eq_true c_48, if_pos c_48, gi_sl, gi_sA, gi_sB, gi_si_s, gi_si_n, gl_si, gl_sA, gl_sB, gl_sl_s, gl_sl_n, gA_si, gA_sl, gA_sB, gA_sA_s, gA_sA_n, gB_si, gB_sl, gB_sA, gB_sB_s, gB_sB_n, Nat.reduceBEq, if_true, if_false, eq_self, Bool.false_eq_true, reduceCtorEq, not_true_eq_false, not_false_eq_true, decide_true, decide_false, cond_true, cond_false, Bool.true_and, Bool.false_and, Bool.and_true, Bool.and_false, Bool.true_or, Bool.false_or, Bool.or_true, Bool.or_false, b2i_tt, b2i_ff]; rfl) | (simp [nearStep, rules, c_32, c_42, c_48, gi_sl, gi_sA, gi_sB, gi_si_s, gi_si_n, gl_si, gl_sA, gl_sB, gl_sl_s, gl_sl_n, gA_si, gA_sl, gA_sB, gA_sA_s, gA_sA_n, gB_si, gB_sl, gB_sA, gB_sB_s, gB_sB_n, Nat.reduceBEq]; done))).trans (lp_go h_1)), hP, hD, hS, lv_sub hl [2, 3, 4, 5, 0] rfl⟩
        · have c_48 : (bc (rdL (gB ra 0) 40 (nI i_1))) < p_1.2 := i_nge c_48
          refine lv_iload hx hb dX4_nearestAbove_51 (lv_at hl 5 rfl) ?_
          refine lv_istore_n (lv' := [(2, .int (nI i_1)), (5, .int (bc (rdL (gB ra 0) 40 (nI i_1)))), (0, .ref (ad 3)), (1, .int k1), (3, .int p_1.2), (4, .int (nI i_1))]) hx hb dX4_nearestAbove_53 rfl hl (by decide) rfl (fun ls hl => ?_)
          refine lv_iload hx hb dX4_nearestAbove_54 (lv_at hl 1 rfl) ?_
          refine lv_istore_n (lv' := [(3, .int (bc (rdL (gB ra 0) 40 (nI i_1)))), (2, .int (nI i_1)), (5, .int (bc (rdL (gB ra 0) 40 (nI i_1)))), (0, .ref (ad 3)), (1, .int k1), (4, .int (nI i_1))]) hx hb dX4_nearestAbove_56 rfl hl (by decide) rfl (fun ls hl => ?_)
          refine lv_iinc (v := (nI (i_1 + 1))) (lv' := [(4, .int (nI (i_1 + 1))), (3, .int (bc (rdL (gB ra 0) 40 (nI i_1)))), (2, .int (nI i_1)), (5, .int (bc (rdL (gB ra 0) 40 (nI i_1)))), (0, .ref (ad 3)), (1, .int k1)]) hx hb dX4_nearestAbove_57 hl (k := 5) rfl (nI_1 i_1) (by decide) rfl (fun ls hl => ?_)
          refine lv_goto (tgt := 8) hx hb dX4_nearestAbove_60 (by decide) ?_
          exact ih_1 ((nI i_1), (bc (rdL (gB ra 0) 40 (nI i_1)))) H locs ls ⟨((show ((nI i_1), (bc (rdL (gB ra 0) 40 (nI i_1)))) = (nearStep ra k1) i_1 p_1 from (by first | (simp only [nearStep, rules, if_neg c_32, decide_eq_false c_32, decide_eq_true c_32, if_pos c_32, if_pos c_42, c_42, if_pos c_48, decide_eq_true c_48, decide_eq_false (not_not_intro c_48), gi_sl, gi_sA, gi_sB, gi_si_s, gi_si_n, gl_si, gl_sA, gl_sB, gl_sl_s, gl_sl_n, gA_si, gA_sl, gA_sB, gA_sA_s, gA_sA_n, gB_si, gB_sl, gB_sA, gB_sB_s, gB_sB_n, Nat.reduceBEq, if_true, if_false, eq_self, Bool.false_eq_true, reduceCtorEq, not_true_eq_false, not_false_eq_true, decide_true, decide_false, cond_true, cond_false, Bool.true_and, Bool.false_and, Bool.and_true, Bool.and_false, Bool.true_or, Bool.false_or, Bool.or_true, Bool.or_false, b2i_tt, b2i_ff]; done) | (simp only [nearStep, rules, if_neg c_32, decide_eq_false c_32, decide_eq_true c_32, if_pos c_32, if_pos c_42, c_42, if_pos c_48, decide_eq_true c_48, decide_eq_false (not_not_intro c_48), gi_sl, gi_sA, gi_sB, gi_si_s, gi_si_n, gl_si, gl_sA, gl_sB, gl_sl_s, gl_sl_n, gA_si, gA_sl, gA_sB, gA_sA_s, gA_sA_n, gB_si, gB_sl, gB_sA, gB_sB_s, gB_sB_n, Nat.reduceBEq, if_true, if_false, eq_self, Bool.false_eq_true, reduceCtorEq, not_true_eq_false, not_false_eq_true, decide_true, decide_false, cond_true, cond_false, Bool.true_and, Bool.false_and, Bool.and_true, Bool.and_false, Bool.true_or, Bool.false_or, Bool.or_true, Bool.or_false, b2i_tt, b2i_ff]; rfl) | (simp [nearStep, rules, c_32, c_42, c_48, gi_sl, gi_sA, gi_sB, gi_si_s, gi_si_n, gl_si, gl_sA, gl_sB, gl_sl_s, gl_sl_n, gA_si, gA_sl, gA_sB, gA_sA_s, gA_sA_n, gB_si, gB_sl, gB_sA, gB_sB_s, gB_sB_n, Nat.reduceBEq]; done))).trans (lp_go h_1)), hP, hD, hS, lv_sub hl [4, 5, 2, 1, 0] rfl⟩
set_option maxHeartbeats 4000000 in
set_option maxRecDepth 100000 in
theorem c_goesBack (l : Launch) (D : va_G) (cI cJ : ClassId) (ad : Nat → Nat) (co fl ra li re wa pi : Ob) (k1 : Int32) : CT l D (TY cI cJ) yX4_goesBack (.code yX4_goesBack cX4_goesBack 4 (some Jvm.ClassFile.FieldType.boolean)) 2 0 0 (XW ad cI cJ co fl ra li re wa pi) [.ref (ad 3), .ref (ad 2), .int k1] (QI D (TY cI cJ) (fun r u => r = (b2i (goesBack ra fl k1)) ∧ u = (XW ad cI cJ co fl ra li re wa pi))) := by
  refine ent (by decide) (Nat.le_of_ble_eq_true rfl) ?_
  intro p e s m below meth c ls A hx hb hr hg hown hml hlocks hnm hP hK hD hS hA hN hl
  have hl : lv_has ls 4 [(0, .ref (ad 3)), (1, .ref (ad 2)), (2, .int k1)] := hl
  refine lv_aload_n hx hb dX4_goesBack_0 rfl (lv_at hl 1 rfl) ?_
  refine va_getN (D := D) (ci := 1) (v := .ref (ad 16)) (C := RX1) (T := TX1) (N := 11) hx hb hg inGX1 hown hK hP 2 rfl rfl 4 (by decide) (hN.use nw_18) (fun _ h9 => h9) rfl dX4_goesBack_1 ?_
  refine lv_iload_n hx hb dX4_goesBack_4 rfl (lv_at hl 2 rfl) ?_
  refine kI (rSN hx hb hml hown hg hN hK hP hD (c_at l D cI cJ (XW ad cI cJ co fl ra li re wa pi) 16 (ad 16) 80 (gA fl 4) k1 rfl (by decide)) mw_84 nw_77 mw_85 mw_77 pd_X7_at ⟨Nat.le_of_ble_eq_true rfl, Nat.le_of_ble_eq_true rfl⟩ rfl hl.1 rfl (Nat.le_of_ble_eq_true rfl) dX4_goesBack_5 ⟨Nat.le_of_ble_eq_true rfl, Nat.le_of_ble_eq_true rfl⟩) hD hS hA (fun r_1 u_1 H locs hp hP hD hS => ?_)
  obtain ⟨er, eu⟩ := hp
  obtain rfl := er.symm
  obtain rfl := eu.symm
  refine lv_istore_n (lv' := [(3, .int (rd (gA fl 4) 80 k1)), (0, .ref (ad 3)), (1, .ref (ad 2)), (2, .int k1)]) hx hb dX4_goesBack_8 rfl hl (by decide) rfl (fun ls hl => ?_)
  refine lv_iload_n hx hb dX4_goesBack_9 rfl (lv_at hl 0 rfl) ?_
  refine lv_if_lt (tgt := 33) hx hb dX4_goesBack_10 (by decide) (fun c_10 => ?_) (fun c_10 => ?_)
  · refine lv_iconst (v := 0) hx hb dX4_goesBack_33 (by decide) ?_
    exact W.zret (v := 0) hx hb hr rfl (fun t ht hW => ⟨⟨0, (XW ad cI cJ co fl ra li re wa pi), rfl, ⟨(show (0 : Int32) = (b2i (goesBack ra fl k1)) from (by first | (simp only [goesBack, rules, if_pos c_10, decide_eq_true c_10, decide_eq_false (not_not_intro c_10), gi_sl, gi_sA, gi_sB, gi_si_s, gi_si_n, gl_si, gl_sA, gl_sB, gl_sl_s, gl_sl_n, gA_si, gA_sl, gA_sB, gA_sA_s, gA_sA_n, gB_si, gB_sl, gB_sA, gB_sB_s, gB_sB_n, Nat.reduceBEq, if_true, if_false, eq_self, Bool.false_eq_true, reduceCtorEq, not_true_eq_false, not_false_eq_true, decide_true, decide_false, cond_true, cond_false, Bool.true_and, Bool.false_and, Bool.and_true, Bool.and_false, Bool.true_or, Bool.false_or, Bool.or_true, Bool.or_false, b2i_tt, b2i_ff]; done) | (simp only [goesBack, rules, if_pos c_10, decide_eq_true c_10, decide_eq_false (not_not_intro c_10), gi_sl, gi_sA, gi_sB, gi_si_s, gi_si_n, gl_si, gl_sA, gl_sB, gl_sl_s, gl_sl_n, gA_si, gA_sl, gA_sB, gA_sA_s, gA_sA_n, gB_si, gB_sl, gB_sA, gB_sB_s, gB_sB_n, Nat.reduceBEq, if_true, if_false, eq_self, Bool.false_eq_true, reduceCtorEq, not_true_eq_false, not_false_eq_true, decide_true, decide_false, cond_true, cond_false, Bool.true_and, Bool.false_and, Bool.and_true, Bool.and_false, Bool.true_or, Bool.false_or, Bool.or_true, Bool.or_false, b2i_tt, b2i_ff]; rfl) | (simp [goesBack, rules, c_10, gi_sl, gi_sA, gi_sB, gi_si_s, gi_si_n, gl_si, gl_sA, gl_sB, gl_sl_s, gl_sl_n, gA_si, gA_sl, gA_sB, gA_sA_s, gA_sA_n, gB_si, gB_sl, gB_sA, gB_sB_s, gB_sB_n, Nat.reduceBEq]; done))), xw_eq rfl rfl rfl rfl rfl rfl rfl⟩, ⟨by rw [ht]; exact hP, va_K.moved hW.alike hK, hD⟩⟩, hS.F ht⟩) hS.2.2 dX4_goesBack_34
  · refine lv_aload_n hx hb dX4_goesBack_13 rfl (lv_at hl 1 rfl) ?_
    refine lv_iload_n hx hb dX4_goesBack_14 rfl (lv_at hl 0 rfl) ?_
    refine lv_aload_n hx hb dX4_goesBack_15 rfl (lv_at hl 2 rfl) ?_
    refine va_getN (D := D) (ci := 1) (v := .ref (ad 15)) (C := RX1) (T := TX1) (N := 11) hx hb hg inGX1 hown hK hP 2 rfl rfl 3 (by decide) (hN.use nw_16) (fun _ h9 => h9) rfl dX4_goesBack_16 ?_
    refine lv_iload_n hx hb dX4_goesBack_19 rfl (lv_at hl 3 rfl) ?_
    refine kI (rSN hx hb hml hown hg hN hK hP hD (c_at l D cI cJ (XW ad cI cJ co fl ra li re wa pi) 15 (ad 15) 80 (gA fl 3) k1 rfl (by decide)) mw_84 nw_77 mw_85 mw_77 pd_X7_at ⟨Nat.le_of_ble_eq_true rfl, Nat.le_of_ble_eq_true rfl⟩ rfl hl.1 rfl (Nat.le_of_ble_eq_true rfl) dX4_goesBack_20 ⟨Nat.le_of_ble_eq_true rfl, Nat.le_of_ble_eq_true rfl⟩) hD hS hA (fun r_2 u_2 H locs hp hP hD hS => ?_)
    obtain ⟨er, eu⟩ := hp
    obtain rfl := er.symm
    obtain rfl := eu.symm
    refine kI (rV (q0 := 3) (ci := 4) hx hb hml hown hg hN hK hP hD (c_rules l D cI cJ ad co fl ra li re wa pi (rd (gA fl 4) 80 k1) (rd (gA fl 3) 80 k1)) mw_126 mw_127 mw_128 mw_129 mw_130 pdv_X4_rules ⟨Nat.le_of_ble_eq_true rfl, Nat.le_of_ble_eq_true rfl⟩ rfl rfl rfl hl.1 rfl (Nat.le_of_ble_eq_true rfl) dX4_goesBack_23 ⟨Nat.le_of_ble_eq_true rfl, Nat.le_of_ble_eq_true rfl⟩) hD hS hA (fun r_3 u_3 H locs hp hP hD hS => ?_)
    obtain ⟨er, eu⟩ := hp
    obtain rfl := er.symm
    obtain rfl := eu.symm
    refine lv_if_eq (tgt := 33) hx hb dX4_goesBack_26 (by decide) (fun c_26 => ?_) (fun c_26 => ?_)
    · have c_26 : ¬ (hs (rdL (gB ra 0) 40 (rd (gA fl 4) 80 k1)) (rd (gA fl 3) 80 k1)) = true := b2i_0 c_26
      refine lv_iconst (v := 0) hx hb dX4_goesBack_33 (by decide) ?_
      exact W.zret (v := 0) hx hb hr rfl (fun t ht hW => ⟨⟨0, (XW ad cI cJ co fl ra li re wa pi), rfl, ⟨(show (0 : Int32) = (b2i (goesBack ra fl k1)) from (by first | (simp only [goesBack, rules, if_neg c_10, decide_eq_false c_10, decide_eq_true c_10, if_pos c_10, if_neg c_26, bf_of c_26, gi_sl, gi_sA, gi_sB, gi_si_s, gi_si_n, gl_si, gl_sA, gl_sB, gl_sl_s, gl_sl_n, gA_si, gA_sl, gA_sB, gA_sA_s, gA_sA_n, gB_si, gB_sl, gB_sA, gB_sB_s, gB_sB_n, Nat.reduceBEq, if_true, if_false, eq_self, Bool.false_eq_true, reduceCtorEq, not_true_eq_false, not_false_eq_true, decide_true, decide_false, cond_true, cond_false, Bool.true_and, Bool.false_and, Bool.and_true, Bool.and_false, Bool.true_or, Bool.false_or, Bool.or_true, Bool.or_false, b2i_tt, b2i_ff]; done) | (simp only [goesBack, rules, if_neg c_10, decide_eq_false c_10, decide_eq_true c_10, if_pos c_10, if_neg c_26, bf_of c_26, gi_sl, gi_sA, gi_sB, gi_si_s, gi_si_n, gl_si, gl_sA, gl_sB, gl_sl_s, gl_sl_n, gA_si, gA_sl, gA_sB, gA_sA_s, gA_sA_n, gB_si, gB_sl, gB_sA, gB_sB_s, gB_sB_n, Nat.reduceBEq, if_true, if_false, eq_self, Bool.false_eq_true, reduceCtorEq, not_true_eq_false, not_false_eq_true, decide_true, decide_false, cond_true, cond_false, Bool.true_and, Bool.false_and, Bool.and_true, Bool.and_false, Bool.true_or, Bool.false_or, Bool.or_true, Bool.or_false, b2i_tt, b2i_ff]; rfl) | (simp [goesBack, rules, c_10, c_26, gi_sl, gi_sA, gi_sB, gi_si_s, gi_si_n, gl_si, gl_sA, gl_sB, gl_sl_s, gl_sl_n, gA_si, gA_sl, gA_sB, gA_sA_s, gA_sA_n, gB_si, gB_sl, gB_sA, gB_sB_s, gB_sB_n, Nat.reduceBEq]; done))), xw_eq rfl rfl rfl rfl rfl rfl rfl⟩, ⟨by rw [ht]; exact hP, va_K.moved hW.alike hK, hD⟩⟩, hS.F ht⟩) hS.2.2 dX4_goesBack_34
    · have c_26 : (hs (rdL (gB ra 0) 40 (rd (gA fl 4) 80 k1)) (rd (gA fl 3) 80 k1)) = true := b2i_1 c_26
      refine lv_iconst (v := 1) hx hb dX4_goesBack_29 (by decide) ?_
      refine lv_goto (tgt := 34) hx hb dX4_goesBack_30 (by decide) ?_
      exact W.zret (v := 1) hx hb hr rfl (fun t ht hW => ⟨⟨1, (XW ad cI cJ co fl ra li re wa pi), rfl, ⟨(show (1 : Int32) = (b2i (goesBack ra fl k1)) from (by first | (simp only [goesBack, rules, if_neg c_10, decide_eq_false c_10, decide_eq_true c_10, if_pos c_10, if_pos c_26, c_26, gi_sl, gi_sA, gi_sB, gi_si_s, gi_si_n, gl_si, gl_sA, gl_sB, gl_sl_s, gl_sl_n, gA_si, gA_sl, gA_sB, gA_sA_s, gA_sA_n, gB_si, gB_sl, gB_sA, gB_sB_s, gB_sB_n, Nat.reduceBEq, if_true, if_false, eq_self, Bool.false_eq_true, reduceCtorEq, not_true_eq_false, not_false_eq_true, decide_true, decide_false, cond_true, cond_false, Bool.true_and, Bool.false_and, Bool.and_true, Bool.and_false, Bool.true_or, Bool.false_or, Bool.or_true, Bool.or_false, b2i_tt, b2i_ff]; done) | (simp only [goesBack, rules, if_neg c_10, decide_eq_false c_10, decide_eq_true c_10, if_pos c_10, if_pos c_26, c_26, gi_sl, gi_sA, gi_sB, gi_si_s, gi_si_n, gl_si, gl_sA, gl_sB, gl_sl_s, gl_sl_n, gA_si, gA_sl, gA_sB, gA_sA_s, gA_sA_n, gB_si, gB_sl, gB_sA, gB_sB_s, gB_sB_n, Nat.reduceBEq, if_true, if_false, eq_self, Bool.false_eq_true, reduceCtorEq, not_true_eq_false, not_false_eq_true, decide_true, decide_false, cond_true, cond_false, Bool.true_and, Bool.false_and, Bool.and_true, Bool.and_false, Bool.true_or, Bool.false_or, Bool.or_true, Bool.or_false, b2i_tt, b2i_ff]; rfl) | (simp [goesBack, rules, c_10, c_26, gi_sl, gi_sA, gi_sB, gi_si_s, gi_si_n, gl_si, gl_sA, gl_sB, gl_sl_s, gl_sl_n, gA_si, gA_sl, gA_sB, gA_sA_s, gA_sA_n, gB_si, gB_sl, gB_sA, gB_sB_s, gB_sB_n, Nat.reduceBEq]; done))), xw_eq rfl rfl rfl rfl rfl rfl rfl⟩, ⟨by rw [ht]; exact hP, va_K.moved hW.alike hK, hD⟩⟩, hS.F ht⟩) hS.2.2 dX4_goesBack_34
set_option maxHeartbeats 4000000 in
set_option maxRecDepth 100000 in
theorem c_loopsAround (l : Launch) (D : va_G) (cI cJ : ClassId) (ad : Nat → Nat) (co fl ra li re wa pi : Ob) (k1 : Int32) : CT l D (TY cI cJ) yX4_loopsAround (.code yX4_loopsAround cX4_loopsAround 4 (some Jvm.ClassFile.FieldType.int)) 1 0 0 (XW ad cI cJ co fl ra li re wa pi) [.ref (ad 3), .int k1] (QI D (TY cI cJ) (fun r u => r = (depth ra k1) ∧ u = (XW ad cI cJ co fl ra li re wa pi))) := by
  refine ent (by decide) (Nat.le_of_ble_eq_true rfl) ?_
  intro p e s m below meth c ls A hx hb hr hg hown hml hlocks hnm hP hK hD hS hA hN hl
  have hl : lv_has ls 4 [(0, .ref (ad 3)), (1, .int k1)] := hl
  refine lv_iconst (v := 0) hx hb dX4_loopsAround_0 (by decide) ?_
  refine lv_istore_n (lv' := [(2, .int 0), (0, .ref (ad 3)), (1, .int k1)]) hx hb dX4_loopsAround_1 rfl hl (by decide) rfl (fun ls hl => ?_)
  refine lv_iconst (v := 0) hx hb dX4_loopsAround_2 (by decide) ?_
  refine lv_istore_n (lv' := [(3, .int 0), (2, .int 0), (0, .ref (ad 3)), (1, .int k1)]) hx hb dX4_loopsAround_3 rfl hl (by decide) rfl (fun ls hl => ?_)
  refine w_loop (σ := Int32) (fun (i_1 : Nat) (p_1 : Int32) (H : Heap) (locs : List Loc) (ls : Array Slot) => p_1 = (lp (depStep ra k1) i_1 0) ∧ va_P D vwCl (XW ad cI cJ co fl ra li re wa pi) H ∧ va_D A (XW ad cI cJ co fl ra li re wa pi) ∧ va_S A s.heap H locs ∧ lv_has ls 4 [(0, .ref (ad 3)), (1, .int k1), (2, .int p_1), (3, .int (nI i_1))]) (40) (fun p_1 H locs ls hI => ?_) (fun i_1 p_1 H locs ls hi_1 hI ih_1 => ?_) 0 0 (Nat.zero_le _) ⟨rfl, hP, hD, hS, (by rw [nI_0]; exact lv_sub hl [2, 3, 1, 0] rfl)⟩
  · obtain ⟨h_1, hP, hD, hS, hl⟩ := hI
    have h_1 := h_1.symm
    subst h_1
    have hP : va_P D vwCl (XW ad cI cJ co fl ra li re wa pi) H := hP
    have hD : va_D A (XW ad cI cJ co fl ra li re wa pi) := hD
    have hl : lv_has ls 4 [(0, .ref (ad 3)), (1, .int k1), (2, .int ((lp (depStep ra k1) (40) 0))), (3, .int (nI 40))] := hl
    refine lv_iload_n hx hb dX4_loopsAround_4 rfl (lv_at hl 3 rfl) ?_
    refine lv_bipush (v := 40) hx hb dX4_loopsAround_5 (by decide) ?_
    refine lv_icmp_ge (tgt := 34) hx hb dX4_loopsAround_7 (by decide) (fun _ => ?_) (fun c_7 => absurd (by decide) c_7)
    refine lv_iload_n hx hb dX4_loopsAround_34 rfl (lv_at hl 2 rfl) ?_
    exact W.iret (v := ((lp (depStep ra k1) (40) 0))) hx hb hr (fun t ht hW => ⟨⟨((lp (depStep ra k1) (40) 0)), (XW ad cI cJ co fl ra li re wa pi), rfl, ⟨(show (((lp (depStep ra k1) (40) 0)) : Int32) = (depth ra k1) from (by first | with_reducible rfl | (simp only [depth, gi_sl, gi_sA, gi_sB, gi_si_s, gi_si_n, gl_si, gl_sA, gl_sB, gl_sl_s, gl_sl_n, gA_si, gA_sl, gA_sB, gA_sA_s, gA_sA_n, gB_si, gB_sl, gB_sA, gB_sB_s, gB_sB_n, Nat.reduceBEq, if_true, if_false, eq_self, Bool.false_eq_true, reduceCtorEq, not_true_eq_false, not_false_eq_true, decide_true, decide_false, cond_true, cond_false, Bool.true_and, Bool.false_and, Bool.and_true, Bool.and_false, Bool.true_or, Bool.false_or, Bool.or_true, Bool.or_false, b2i_tt, b2i_ff]; done) | rfl)), xw_eq rfl rfl rfl rfl rfl rfl rfl⟩, ⟨by rw [ht]; exact hP, va_K.moved hW.alike hK, hD⟩⟩, hS.F ht⟩) hS.2.2 dX4_loopsAround_35
  · obtain ⟨h_1, hP, hD, hS, hl⟩ := hI
    have hP : va_P D vwCl (XW ad cI cJ co fl ra li re wa pi) H := hP
    have hD : va_D A (XW ad cI cJ co fl ra li re wa pi) := hD
    have hl : lv_has ls 4 [(0, .ref (ad 3)), (1, .int k1), (2, .int p_1), (3, .int (nI i_1))] := hl
    refine lv_iload_n hx hb dX4_loopsAround_4 rfl (lv_at hl 3 rfl) ?_
    refine lv_bipush (v := 40) hx hb dX4_loopsAround_5 (by decide) ?_
    refine lv_icmp_ge (tgt := 34) hx hb dX4_loopsAround_7 (by decide) (fun c_7 => absurd c_7 (nI_ge hi_1 (by decide))) (fun _ => ?_)
    refine lv_aload_n hx hb dX4_loopsAround_10 rfl (lv_at hl 0 rfl) ?_
    refine va_get (D := D) (ci := 4) (v := .ref (ad 20)) (C := RX4) (T := TX4) (N := 7) hx hb hg inGX4 hown hK hP 3 rfl rfl 1 (by decide) (hg _ mw_132) (fun _ h9 => h9) rfl dX4_loopsAround_11 ?_
    refine lv_iload_n hx hb dX4_loopsAround_14 rfl (lv_at hl 3 rfl) ?_
    refine kL (rSN hx hb hml hown hg hN hK hP hD (c_atL l D cI cJ (XW ad cI cJ co fl ra li re wa pi) 20 (ad 20) 40 (gB ra 1) (nI i_1) rfl (by decide)) mw_81 nw_78 mw_83 mw_77 pd_X7_at_ ⟨Nat.le_of_ble_eq_true rfl, Nat.le_of_ble_eq_true rfl⟩ rfl hl.1 rfl (Nat.le_of_ble_eq_true rfl) dX4_loopsAround_15 ⟨Nat.le_of_ble_eq_true rfl, Nat.le_of_ble_eq_true rfl⟩) hD hS hA (fun r_2 u_2 H locs hp hP hD hS => ?_)
    obtain ⟨er, eu⟩ := hp
    obtain rfl := er.symm
    obtain rfl := eu.symm
    refine lv_iload_n hx hb dX4_loopsAround_18 rfl (lv_at hl 1 rfl) ?_
    refine kI (rSN hx hb hml hown hg hN hK hP hD (c_has l D cI cJ (XW ad cI cJ co fl ra li re wa pi) (rdL (gB ra 1) 40 (nI i_1)) k1) mw_89 nw_73 mw_90 mw_77 pd_X7_has ⟨Nat.le_of_ble_eq_true rfl, Nat.le_of_ble_eq_true rfl⟩ rfl hl.1 rfl (Nat.le_of_ble_eq_true rfl) dX4_loopsAround_19 ⟨Nat.le_of_ble_eq_true rfl, Nat.le_of_ble_eq_true rfl⟩) hD hS hA (fun r_3 u_3 H locs hp hP hD hS => ?_)
    obtain ⟨er, eu⟩ := hp
    obtain rfl := er.symm
    obtain rfl := eu.symm
    refine lv_if_eq (tgt := 28) hx hb dX4_loopsAround_22 (by decide) (fun c_22 => ?_) (fun c_22 => ?_)
    · have c_22 : ¬ (hs (rdL (gB ra 1) 40 (nI i_1)) k1) = true := b2i_0 c_22
      refine lv_iinc (v := (nI (i_1 + 1))) (lv' := [(3, .int (nI (i_1 + 1))), (0, .ref (ad 3)), (1, .int k1), (2, .int p_1)]) hx hb dX4_loopsAround_28 hl (k := 3) rfl (nI_1 i_1) (by decide) rfl (fun ls hl => ?_)
      refine lv_goto (tgt := 4) hx hb dX4_loopsAround_31 (by decide) ?_
      exact ih_1 p_1 H locs ls ⟨((show p_1 = (depStep ra k1) i_1 p_1 from (by first | (simp only [depStep, if_neg c_22, bf_of c_22, gi_sl, gi_sA, gi_sB, gi_si_s, gi_si_n, gl_si, gl_sA, gl_sB, gl_sl_s, gl_sl_n, gA_si, gA_sl, gA_sB, gA_sA_s, gA_sA_n, gB_si, gB_sl, gB_sA, gB_sB_s, gB_sB_n, Nat.reduceBEq, if_true, if_false, eq_self, Bool.false_eq_true, reduceCtorEq, not_true_eq_false, not_false_eq_true, decide_true, decide_false, cond_true, cond_false, Bool.true_and, Bool.false_and, Bool.and_true, Bool.and_false, Bool.true_or, Bool.false_or, Bool.or_true, Bool.or_false, b2i_tt, b2i_ff]; done) | (simp only [depStep, if_neg c_22, bf_of c_22, gi_sl, gi_sA, gi_sB, gi_si_s, gi_si_n, gl_si, gl_sA, gl_sB, gl_sl_s, gl_sl_n, gA_si, gA_sl, gA_sB, gA_sA_s, gA_sA_n, gB_si, gB_sl, gB_sA, gB_sB_s, gB_sB_n, Nat.reduceBEq, if_true, if_false, eq_self, Bool.false_eq_true, reduceCtorEq, not_true_eq_false, not_false_eq_true, decide_true, decide_false, cond_true, cond_false, Bool.true_and, Bool.false_and, Bool.and_true, Bool.and_false, Bool.true_or, Bool.false_or, Bool.or_true, Bool.or_false, b2i_tt, b2i_ff]; rfl) | (simp [depStep, c_22, gi_sl, gi_sA, gi_sB, gi_si_s, gi_si_n, gl_si, gl_sA, gl_sB, gl_sl_s, gl_sl_n, gA_si, gA_sl, gA_sB, gA_sA_s, gA_sA_n, gB_si, gB_sl, gB_sA, gB_sB_s, gB_sB_n, Nat.reduceBEq]; done))).trans (lp_go h_1)), hP, hD, hS, lv_sub hl [1, 2, 3, 0] rfl⟩
    · have c_22 : (hs (rdL (gB ra 1) 40 (nI i_1)) k1) = true := b2i_1 c_22
      refine lv_iinc (v := (p_1 + 1)) (lv' := [(2, .int (p_1 + 1)), (0, .ref (ad 3)), (1, .int k1), (3, .int (nI i_1))]) hx hb dX4_loopsAround_25 hl (k := 2) rfl rfl (by decide) rfl (fun ls hl => ?_)
      refine lv_iinc (v := (nI (i_1 + 1))) (lv' := [(3, .int (nI (i_1 + 1))), (2, .int (p_1 + 1)), (0, .ref (ad 3)), (1, .int k1)]) hx hb dX4_loopsAround_28 hl (k := 3) rfl (nI_1 i_1) (by decide) rfl (fun ls hl => ?_)
      refine lv_goto (tgt := 4) hx hb dX4_loopsAround_31 (by decide) ?_
      exact ih_1 (p_1 + 1) H locs ls ⟨((show (p_1 + 1) = (depStep ra k1) i_1 p_1 from (by first | (simp only [depStep, if_pos c_22, c_22, gi_sl, gi_sA, gi_sB, gi_si_s, gi_si_n, gl_si, gl_sA, gl_sB, gl_sl_s, gl_sl_n, gA_si, gA_sl, gA_sB, gA_sA_s, gA_sA_n, gB_si, gB_sl, gB_sA, gB_sB_s, gB_sB_n, Nat.reduceBEq, if_true, if_false, eq_self, Bool.false_eq_true, reduceCtorEq, not_true_eq_false, not_false_eq_true, decide_true, decide_false, cond_true, cond_false, Bool.true_and, Bool.false_and, Bool.and_true, Bool.and_false, Bool.true_or, Bool.false_or, Bool.or_true, Bool.or_false, b2i_tt, b2i_ff]; done) | (simp only [depStep, if_pos c_22, c_22, gi_sl, gi_sA, gi_sB, gi_si_s, gi_si_n, gl_si, gl_sA, gl_sB, gl_sl_s, gl_sl_n, gA_si, gA_sl, gA_sB, gA_sA_s, gA_sA_n, gB_si, gB_sl, gB_sA, gB_sB_s, gB_sB_n, Nat.reduceBEq, if_true, if_false, eq_self, Bool.false_eq_true, reduceCtorEq, not_true_eq_false, not_false_eq_true, decide_true, decide_false, cond_true, cond_false, Bool.true_and, Bool.false_and, Bool.and_true, Bool.and_false, Bool.true_or, Bool.false_or, Bool.or_true, Bool.or_false, b2i_tt, b2i_ff]; rfl) | (simp [depStep, c_22, gi_sl, gi_sA, gi_sB, gi_si_s, gi_si_n, gl_si, gl_sA, gl_sB, gl_sl_s, gl_sl_n, gA_si, gA_sl, gA_sB, gA_sA_s, gA_sA_n, gB_si, gB_sl, gB_sA, gB_sB_s, gB_sB_n, Nat.reduceBEq]; done))).trans (lp_go h_1)), hP, hD, hS, lv_sub hl [2, 3, 1, 0] rfl⟩
