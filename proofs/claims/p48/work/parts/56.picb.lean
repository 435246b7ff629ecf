theorem dX3_meanSpan_0 : decode cX3_meanSpan 0 = .ok (.iconst 0, 1) := by decide +kernel
theorem dX3_meanSpan_1 : decode cX3_meanSpan 1 = .ok (.istore_n 1, 1) := by decide +kernel
theorem dX3_meanSpan_2 : decode cX3_meanSpan 2 = .ok (.iconst 0, 1) := by decide +kernel
theorem dX3_meanSpan_3 : decode cX3_meanSpan 3 = .ok (.istore_n 2, 1) := by decide +kernel
theorem dX3_meanSpan_4 : decode cX3_meanSpan 4 = .ok (.iconst 0, 1) := by decide +kernel
theorem dX3_meanSpan_5 : decode cX3_meanSpan 5 = .ok (.istore_n 3, 1) := by decide +kernel
theorem dX3_meanSpan_6 : decode cX3_meanSpan 6 = .ok (.iload_n 3, 1) := by decide +kernel
theorem dX3_meanSpan_7 : decode cX3_meanSpan 7 = .ok (.aload_n 0, 1) := by decide +kernel
theorem dX3_meanSpan_8 : decode cX3_meanSpan 8 = .ok (.getfield 58, 3) := by decide +kernel
theorem dX3_meanSpan_11 : decode cX3_meanSpan 11 = .ok (.if_icmp .ge 37, 3) := by decide +kernel
theorem dX3_meanSpan_14 : decode cX3_meanSpan 14 = .ok (.aload_n 0, 1) := by decide +kernel
theorem dX3_meanSpan_15 : decode cX3_meanSpan 15 = .ok (.getfield 12, 3) := by decide +kernel
theorem dX3_meanSpan_18 : decode cX3_meanSpan 18 = .ok (.iload_n 3, 1) := by decide +kernel
theorem dX3_meanSpan_19 : decode cX3_meanSpan 19 = .ok (.invokevirtual 104, 3) := by decide +kernel
theorem dX3_meanSpan_22 : decode cX3_meanSpan 22 = .ok (.ifCond .eq 20, 3) := by decide +kernel
theorem dX3_meanSpan_25 : decode cX3_meanSpan 25 = .ok (.iinc 1 1, 3) := by decide +kernel
theorem dX3_meanSpan_28 : decode cX3_meanSpan 28 = .ok (.iload_n 2, 1) := by decide +kernel
theorem dX3_meanSpan_29 : decode cX3_meanSpan 29 = .ok (.aload_n 0, 1) := by decide +kernel
theorem dX3_meanSpan_30 : decode cX3_meanSpan 30 = .ok (.iload_n 3, 1) := by decide +kernel
theorem dX3_meanSpan_31 : decode cX3_meanSpan 31 = .ok (.invokevirtual 131, 3) := by decide +kernel
theorem dX3_meanSpan_34 : decode cX3_meanSpan 34 = .ok (.aload_n 0, 1) := by decide +kernel
theorem dX3_meanSpan_35 : decode cX3_meanSpan 35 = .ok (.iload_n 3, 1) := by decide +kernel
theorem dX3_meanSpan_36 : decode cX3_meanSpan 36 = .ok (.invokevirtual 111, 3) := by decide +kernel
theorem dX3_meanSpan_39 : decode cX3_meanSpan 39 = .ok (.isub, 1) := by decide +kernel
theorem dX3_meanSpan_40 : decode cX3_meanSpan 40 = .ok (.iadd, 1) := by decide +kernel
theorem dX3_meanSpan_41 : decode cX3_meanSpan 41 = .ok (.istore_n 2, 1) := by decide +kernel
theorem dX3_meanSpan_42 : decode cX3_meanSpan 42 = .ok (.iinc 3 1, 3) := by decide +kernel
theorem dX3_meanSpan_45 : decode cX3_meanSpan 45 = .ok (.goto (-39), 3) := by decide +kernel
theorem dX3_meanSpan_48 : decode cX3_meanSpan 48 = .ok (.iload_n 1, 1) := by decide +kernel
theorem dX3_meanSpan_49 : decode cX3_meanSpan 49 = .ok (.ifCond .le 11, 3) := by decide +kernel
theorem dX3_meanSpan_52 : decode cX3_meanSpan 52 = .ok (.iload_n 2, 1) := by decide +kernel
theorem dX3_meanSpan_53 : decode cX3_meanSpan 53 = .ok (.i2d, 1) := by decide +kernel
theorem dX3_meanSpan_54 : decode cX3_meanSpan 54 = .ok (.iload_n 1, 1) := by decide +kernel
theorem dX3_meanSpan_55 : decode cX3_meanSpan 55 = .ok (.i2d, 1) := by decide +kernel
theorem dX3_meanSpan_56 : decode cX3_meanSpan 56 = .ok (.ddiv, 1) := by decide +kernel
theorem dX3_meanSpan_57 : decode cX3_meanSpan 57 = .ok (.goto 4, 3) := by decide +kernel
theorem dX3_meanSpan_60 : decode cX3_meanSpan 60 = .ok (.dconst 0, 1) := by decide +kernel
theorem dX3_meanSpan_61 : decode cX3_meanSpan 61 = .ok (.dreturn, 1) := by decide +kernel
theorem dX3_crossingsUnder_0 : decode cX3_crossingsUnder 0 = .ok (.iconst 0, 1) := by decide +kernel
theorem dX3_crossingsUnder_1 : decode cX3_crossingsUnder 1 = .ok (.istore_n 2, 1) := by decide +kernel
theorem dX3_crossingsUnder_2 : decode cX3_crossingsUnder 2 = .ok (.iconst 0, 1) := by decide +kernel
theorem dX3_crossingsUnder_3 : decode cX3_crossingsUnder 3 = .ok (.istore_n 3, 1) := by decide +kernel
theorem dX3_crossingsUnder_4 : decode cX3_crossingsUnder 4 = .ok (.iload_n 3, 1) := by decide +kernel
theorem dX3_crossingsUnder_5 : decode cX3_crossingsUnder 5 = .ok (.aload_n 0, 1) := by decide +kernel
theorem dX3_crossingsUnder_6 : decode cX3_crossingsUnder 6 = .ok (.getfield 58, 3) := by decide +kernel
theorem dX3_crossingsUnder_9 : decode cX3_crossingsUnder 9 = .ok (.if_icmp .ge 65, 3) := by decide +kernel
theorem dX3_crossingsUnder_12 : decode cX3_crossingsUnder 12 = .ok (.aload_n 0, 1) := by decide +kernel
theorem dX3_crossingsUnder_13 : decode cX3_crossingsUnder 13 = .ok (.iload_n 3, 1) := by decide +kernel
theorem dX3_crossingsUnder_14 : decode cX3_crossingsUnder 14 = .ok (.iload_n 1, 1) := by decide +kernel
theorem dX3_crossingsUnder_15 : decode cX3_crossingsUnder 15 = .ok (.invokevirtual 140, 3) := by decide +kernel
theorem dX3_crossingsUnder_18 : decode cX3_crossingsUnder 18 = .ok (.ifCond .eq 50, 3) := by decide +kernel
theorem dX3_crossingsUnder_21 : decode cX3_crossingsUnder 21 = .ok (.aload_n 0, 1) := by decide +kernel
theorem dX3_crossingsUnder_22 : decode cX3_crossingsUnder 22 = .ok (.getfield 46, 3) := by decide +kernel
theorem dX3_crossingsUnder_25 : decode cX3_crossingsUnder 25 = .ok (.iload_n 2, 1) := by decide +kernel
theorem dX3_crossingsUnder_26 : decode cX3_crossingsUnder 26 = .ok (.aload_n 0, 1) := by decide +kernel
theorem dX3_crossingsUnder_27 : decode cX3_crossingsUnder 27 = .ok (.getfield 34, 3) := by decide +kernel
theorem dX3_crossingsUnder_30 : decode cX3_crossingsUnder 30 = .ok (.aload_n 0, 1) := by decide +kernel
theorem dX3_crossingsUnder_31 : decode cX3_crossingsUnder 31 = .ok (.iload_n 3, 1) := by decide +kernel
theorem dX3_crossingsUnder_32 : decode cX3_crossingsUnder 32 = .ok (.iload_n 1, 1) := by decide +kernel
theorem dX3_crossingsUnder_33 : decode cX3_crossingsUnder 33 = .ok (.invokevirtual 134, 3) := by decide +kernel
theorem dX3_crossingsUnder_36 : decode cX3_crossingsUnder 36 = .ok (.invokestatic 95, 3) := by decide +kernel
theorem dX3_crossingsUnder_39 : decode cX3_crossingsUnder 39 = .ok (.invokestatic 75, 3) := by decide +kernel
theorem dX3_crossingsUnder_42 : decode cX3_crossingsUnder 42 = .ok (.aload_n 0, 1) := by decide +kernel
theorem dX3_crossingsUnder_43 : decode cX3_crossingsUnder 43 = .ok (.getfield 49, 3) := by decide +kernel
theorem dX3_crossingsUnder_46 : decode cX3_crossingsUnder 46 = .ok (.iload_n 2, 1) := by decide +kernel
theorem dX3_crossingsUnder_47 : decode cX3_crossingsUnder 47 = .ok (.aload_n 0, 1) := by decide +kernel
theorem dX3_crossingsUnder_48 : decode cX3_crossingsUnder 48 = .ok (.getfield 34, 3) := by decide +kernel
theorem dX3_crossingsUnder_51 : decode cX3_crossingsUnder 51 = .ok (.aload_n 0, 1) := by decide +kernel
theorem dX3_crossingsUnder_52 : decode cX3_crossingsUnder 52 = .ok (.iload_n 3, 1) := by decide +kernel
theorem dX3_crossingsUnder_53 : decode cX3_crossingsUnder 53 = .ok (.iload_n 1, 1) := by decide +kernel
theorem dX3_crossingsUnder_54 : decode cX3_crossingsUnder 54 = .ok (.iconst 1, 1) := by decide +kernel
theorem dX3_crossingsUnder_55 : decode cX3_crossingsUnder 55 = .ok (.iadd, 1) := by decide +kernel
theorem dX3_crossingsUnder_56 : decode cX3_crossingsUnder 56 = .ok (.invokevirtual 134, 3) := by decide +kernel
theorem dX3_crossingsUnder_59 : decode cX3_crossingsUnder 59 = .ok (.invokestatic 95, 3) := by decide +kernel
theorem dX3_crossingsUnder_62 : decode cX3_crossingsUnder 62 = .ok (.invokestatic 75, 3) := by decide +kernel
theorem dX3_crossingsUnder_65 : decode cX3_crossingsUnder 65 = .ok (.iinc 2 1, 3) := by decide +kernel
theorem dX3_crossingsUnder_68 : decode cX3_crossingsUnder 68 = .ok (.iinc 3 1, 3) := by decide +kernel
theorem dX3_crossingsUnder_71 : decode cX3_crossingsUnder 71 = .ok (.goto (-67), 3) := by decide +kernel
theorem dX3_crossingsUnder_74 : decode cX3_crossingsUnder 74 = .ok (.iconst 0, 1) := by decide +kernel
theorem dX3_crossingsUnder_75 : decode cX3_crossingsUnder 75 = .ok (.istore_n 3, 1) := by decide +kernel
theorem dX3_crossingsUnder_76 : decode cX3_crossingsUnder 76 = .ok (.iconst 0, 1) := by decide +kernel
theorem dX3_crossingsUnder_77 : decode cX3_crossingsUnder 77 = .ok (.istore 4, 2) := by decide +kernel
theorem dX3_crossingsUnder_79 : decode cX3_crossingsUnder 79 = .ok (.iload 4, 2) := by decide +kernel
theorem dX3_crossingsUnder_81 : decode cX3_crossingsUnder 81 = .ok (.iload_n 2, 1) := by decide +kernel
theorem dX3_crossingsUnder_82 : decode cX3_crossingsUnder 82 = .ok (.if_icmp .ge 70, 3) := by decide +kernel
theorem dX3_crossingsUnder_85 : decode cX3_crossingsUnder 85 = .ok (.iconst 0, 1) := by decide +kernel
theorem dX3_crossingsUnder_86 : decode cX3_crossingsUnder 86 = .ok (.istore 5, 2) := by decide +kernel
theorem dX3_crossingsUnder_88 : decode cX3_crossingsUnder 88 = .ok (.iload 5, 2) := by decide +kernel
theorem dX3_crossingsUnder_90 : decode cX3_crossingsUnder 90 = .ok (.iload 4, 2) := by decide +kernel
theorem dX3_crossingsUnder_92 : decode cX3_crossingsUnder 92 = .ok (.if_icmp .ge 54, 3) := by decide +kernel
theorem dX3_crossingsUnder_95 : decode cX3_crossingsUnder 95 = .ok (.aload_n 0, 1) := by decide +kernel
theorem dX3_crossingsUnder_96 : decode cX3_crossingsUnder 96 = .ok (.getfield 46, 3) := by decide +kernel
theorem dX3_crossingsUnder_99 : decode cX3_crossingsUnder 99 = .ok (.iload 4, 2) := by decide +kernel
theorem dX3_crossingsUnder_101 : decode cX3_crossingsUnder 101 = .ok (.invokestatic 95, 3) := by decide +kernel
theorem dX3_crossingsUnder_104 : decode cX3_crossingsUnder 104 = .ok (.aload_n 0, 1) := by decide +kernel
theorem dX3_crossingsUnder_105 : decode cX3_crossingsUnder 105 = .ok (.getfield 46, 3) := by decide +kernel
theorem dX3_crossingsUnder_108 : decode cX3_crossingsUnder 108 = .ok (.iload 5, 2) := by decide +kernel
theorem dX3_crossingsUnder_110 : decode cX3_crossingsUnder 110 = .ok (.invokestatic 95, 3) := by decide +kernel
theorem dX3_crossingsUnder_113 : decode cX3_crossingsUnder 113 = .ok (.isub, 1) := by decide +kernel
theorem dX3_crossingsUnder_114 : decode cX3_crossingsUnder 114 = .ok (.aload_n 0, 1) := by decide +kernel
theorem dX3_crossingsUnder_115 : decode cX3_crossingsUnder 115 = .ok (.getfield 49, 3) := by decide +kernel
theorem dX3_crossingsUnder_118 : decode cX3_crossingsUnder 118 = .ok (.iload 4, 2) := by decide +kernel
theorem dX3_crossingsUnder_120 : decode cX3_crossingsUnder 120 = .ok (.invokestatic 95, 3) := by decide +kernel
theorem dX3_crossingsUnder_123 : decode cX3_crossingsUnder 123 = .ok (.aload_n 0, 1) := by decide +kernel
theorem dX3_crossingsUnder_124 : decode cX3_crossingsUnder 124 = .ok (.getfield 49, 3) := by decide +kernel
theorem dX3_crossingsUnder_127 : decode cX3_crossingsUnder 127 = .ok (.iload 5, 2) := by decide +kernel
theorem dX3_crossingsUnder_129 : decode cX3_crossingsUnder 129 = .ok (.invokestatic 95, 3) := by decide +kernel
theorem dX3_crossingsUnder_132 : decode cX3_crossingsUnder 132 = .ok (.isub, 1) := by decide +kernel
theorem dX3_crossingsUnder_133 : decode cX3_crossingsUnder 133 = .ok (.imul, 1) := by decide +kernel
theorem dX3_crossingsUnder_134 : decode cX3_crossingsUnder 134 = .ok (.ifCond .ge 6, 3) := by decide +kernel
theorem dX3_crossingsUnder_137 : decode cX3_crossingsUnder 137 = .ok (.iinc 3 1, 3) := by decide +kernel
theorem dX3_crossingsUnder_140 : decode cX3_crossingsUnder 140 = .ok (.iinc 5 1, 3) := by decide +kernel
theorem dX3_crossingsUnder_143 : decode cX3_crossingsUnder 143 = .ok (.goto (-55), 3) := by decide +kernel
theorem dX3_crossingsUnder_146 : decode cX3_crossingsUnder 146 = .ok (.iinc 4 1, 3) := by decide +kernel
theorem dX3_crossingsUnder_149 : decode cX3_crossingsUnder 149 = .ok (.goto (-70), 3) := by decide +kernel
theorem dX3_crossingsUnder_152 : decode cX3_crossingsUnder 152 = .ok (.iload_n 3, 1) := by decide +kernel
theorem dX3_crossingsUnder_153 : decode cX3_crossingsUnder 153 = .ok (.ireturn, 1) := by decide +kernel
theorem dX3_countCrossings_0 : decode cX3_countCrossings 0 = .ok (.iconst 0, 1) := by decide +kernel
theorem dX3_countCrossings_1 : decode cX3_countCrossings 1 = .ok (.istore_n 1, 1) := by decide +kernel
theorem dX3_countCrossings_2 : decode cX3_countCrossings 2 = .ok (.iconst 0, 1) := by decide +kernel
theorem dX3_countCrossings_3 : decode cX3_countCrossings 3 = .ok (.istore_n 2, 1) := by decide +kernel
theorem dX3_countCrossings_4 : decode cX3_countCrossings 4 = .ok (.iload_n 2, 1) := by decide +kernel
theorem dX3_countCrossings_5 : decode cX3_countCrossings 5 = .ok (.aload_n 0, 1) := by decide +kernel
theorem dX3_countCrossings_6 : decode cX3_countCrossings 6 = .ok (.getfield 72, 3) := by decide +kernel
theorem dX3_countCrossings_9 : decode cX3_countCrossings 9 = .ok (.iconst 1, 1) := by decide +kernel
theorem dX3_countCrossings_10 : decode cX3_countCrossings 10 = .ok (.isub, 1) := by decide +kernel
theorem dX3_countCrossings_11 : decode cX3_countCrossings 11 = .ok (.if_icmp .ge 17, 3) := by decide +kernel
theorem dX3_countCrossings_14 : decode cX3_countCrossings 14 = .ok (.iload_n 1, 1) := by decide +kernel
theorem dX3_countCrossings_15 : decode cX3_countCrossings 15 = .ok (.aload_n 0, 1) := by decide +kernel
theorem dX3_countCrossings_16 : decode cX3_countCrossings 16 = .ok (.iload_n 2, 1) := by decide +kernel
theorem dX3_countCrossings_17 : decode cX3_countCrossings 17 = .ok (.invokevirtual 137, 3) := by decide +kernel
theorem dX3_countCrossings_20 : decode cX3_countCrossings 20 = .ok (.iadd, 1) := by decide +kernel
theorem dX3_countCrossings_21 : decode cX3_countCrossings 21 = .ok (.istore_n 1, 1) := by decide +kernel
theorem dX3_countCrossings_22 : decode cX3_countCrossings 22 = .ok (.iinc 2 1, 3) := by decide +kernel
theorem dX3_countCrossings_25 : decode cX3_countCrossings 25 = .ok (.goto (-21), 3) := by decide +kernel
theorem dX3_countCrossings_28 : decode cX3_countCrossings 28 = .ok (.iload_n 1, 1) := by decide +kernel
theorem dX3_countCrossings_29 : decode cX3_countCrossings 29 = .ok (.ireturn, 1) := by decide +kernel
theorem dX3_isAhead_0 : decode cX3_isAhead 0 = .ok (.aload_n 0, 1) := by decide +kernel
theorem dX3_isAhead_1 : decode cX3_isAhead 1 = .ok (.getfield 34, 3) := by decide +kernel
theorem dX3_isAhead_4 : decode cX3_isAhead 4 = .ok (.iload_n 1, 1) := by decide +kernel
theorem dX3_isAhead_5 : decode cX3_isAhead 5 = .ok (.invokestatic 95, 3) := by decide +kernel
theorem dX3_isAhead_8 : decode cX3_isAhead 8 = .ok (.istore_n 3, 1) := by decide +kernel
theorem dX3_isAhead_9 : decode cX3_isAhead 9 = .ok (.aload_n 0, 1) := by decide +kernel
theorem dX3_isAhead_10 : decode cX3_isAhead 10 = .ok (.getfield 34, 3) := by decide +kernel
theorem dX3_isAhead_13 : decode cX3_isAhead 13 = .ok (.iload_n 2, 1) := by decide +kernel
theorem dX3_isAhead_14 : decode cX3_isAhead 14 = .ok (.invokestatic 95, 3) := by decide +kernel
theorem dX3_isAhead_17 : decode cX3_isAhead 17 = .ok (.istore 4, 2) := by decide +kernel
theorem dX3_isAhead_19 : decode cX3_isAhead 19 = .ok (.aload_n 0, 1) := by decide +kernel
theorem dX3_isAhead_20 : decode cX3_isAhead 20 = .ok (.getfield 40, 3) := by decide +kernel
theorem dX3_isAhead_23 : decode cX3_isAhead 23 = .ok (.iload_n 3, 1) := by decide +kernel
theorem dX3_isAhead_24 : decode cX3_isAhead 24 = .ok (.invokestatic 95, 3) := by decide +kernel
theorem dX3_isAhead_27 : decode cX3_isAhead 27 = .ok (.aload_n 0, 1) := by decide +kernel
theorem dX3_isAhead_28 : decode cX3_isAhead 28 = .ok (.getfield 43, 3) := by decide +kernel
theorem dX3_isAhead_31 : decode cX3_isAhead 31 = .ok (.iload 4, 2) := by decide +kernel
theorem dX3_isAhead_33 : decode cX3_isAhead 33 = .ok (.invokestatic 95, 3) := by decide +kernel
theorem dX3_isAhead_36 : decode cX3_isAhead 36 = .ok (.imul, 1) := by decide +kernel
theorem dX3_isAhead_37 : decode cX3_isAhead 37 = .ok (.aload_n 0, 1) := by decide +kernel
theorem dX3_isAhead_38 : decode cX3_isAhead 38 = .ok (.getfield 40, 3) := by decide +kernel
theorem dX3_isAhead_41 : decode cX3_isAhead 41 = .ok (.iload 4, 2) := by decide +kernel
theorem dX3_isAhead_43 : decode cX3_isAhead 43 = .ok (.invokestatic 95, 3) := by decide +kernel
theorem dX3_isAhead_46 : decode cX3_isAhead 46 = .ok (.aload_n 0, 1) := by decide +kernel
theorem dX3_isAhead_47 : decode cX3_isAhead 47 = .ok (.getfield 43, 3) := by decide +kernel
theorem dX3_isAhead_50 : decode cX3_isAhead 50 = .ok (.iload_n 3, 1) := by decide +kernel
theorem dX3_isAhead_51 : decode cX3_isAhead 51 = .ok (.invokestatic 95, 3) := by decide +kernel
theorem dX3_isAhead_54 : decode cX3_isAhead 54 = .ok (.imul, 1) := by decide +kernel
theorem dX3_isAhead_55 : decode cX3_isAhead 55 = .ok (.if_icmp .ge 7, 3) := by decide +kernel
theorem dX3_isAhead_58 : decode cX3_isAhead 58 = .ok (.iconst 1, 1) := by decide +kernel
theorem dX3_isAhead_59 : decode cX3_isAhead 59 = .ok (.goto 4, 3) := by decide +kernel
theorem dX3_isAhead_62 : decode cX3_isAhead 62 = .ok (.iconst 0, 1) := by decide +kernel
theorem dX3_isAhead_63 : decode cX3_isAhead 63 = .ok (.ireturn, 1) := by decide +kernel
theorem dX3_weigh_0 : decode cX3_weigh 0 = .ok (.iconst 0, 1) := by decide +kernel
theorem dX3_weigh_1 : decode cX3_weigh 1 = .ok (.istore 4, 2) := by decide +kernel
theorem dX3_weigh_3 : decode cX3_weigh 3 = .ok (.iload 4, 2) := by decide +kernel
theorem dX3_weigh_5 : decode cX3_weigh 5 = .ok (.iload_n 3, 1) := by decide +kernel
theorem dX3_weigh_6 : decode cX3_weigh 6 = .ok (.if_icmp .ge 29, 3) := by decide +kernel
theorem dX3_weigh_9 : decode cX3_weigh 9 = .ok (.aload_n 0, 1) := by decide +kernel
theorem dX3_weigh_10 : decode cX3_weigh 10 = .ok (.getfield 40, 3) := by decide +kernel
theorem dX3_weigh_13 : decode cX3_weigh 13 = .ok (.iload 4, 2) := by decide +kernel
theorem dX3_weigh_15 : decode cX3_weigh 15 = .ok (.iconst 0, 1) := by decide +kernel
theorem dX3_weigh_16 : decode cX3_weigh 16 = .ok (.invokestatic 75, 3) := by decide +kernel
theorem dX3_weigh_19 : decode cX3_weigh 19 = .ok (.aload_n 0, 1) := by decide +kernel
theorem dX3_weigh_20 : decode cX3_weigh 20 = .ok (.getfield 43, 3) := by decide +kernel
theorem dX3_weigh_23 : decode cX3_weigh 23 = .ok (.iload 4, 2) := by decide +kernel
theorem dX3_weigh_25 : decode cX3_weigh 25 = .ok (.iconst 0, 1) := by decide +kernel
theorem dX3_weigh_26 : decode cX3_weigh 26 = .ok (.invokestatic 75, 3) := by decide +kernel
theorem dX3_weigh_29 : decode cX3_weigh 29 = .ok (.iinc 4 1, 3) := by decide +kernel
theorem dX3_weigh_32 : decode cX3_weigh 32 = .ok (.goto (-29), 3) := by decide +kernel
theorem dX3_weigh_35 : decode cX3_weigh 35 = .ok (.iload_n 1, 1) := by decide +kernel
theorem dX3_weigh_36 : decode cX3_weigh 36 = .ok (.iload_n 2, 1) := by decide +kernel
theorem dX3_weigh_37 : decode cX3_weigh 37 = .ok (.invokestatic 165, 3) := by decide +kernel
theorem dX3_weigh_40 : decode cX3_weigh 40 = .ok (.istore 4, 2) := by decide +kernel
theorem dX3_weigh_42 : decode cX3_weigh 42 = .ok (.iconst 0, 1) := by decide +kernel
theorem dX3_weigh_43 : decode cX3_weigh 43 = .ok (.istore 5, 2) := by decide +kernel
theorem dX3_weigh_45 : decode cX3_weigh 45 = .ok (.iload 5, 2) := by decide +kernel
theorem dX3_weigh_47 : decode cX3_weigh 47 = .ok (.aload_n 0, 1) := by decide +kernel
theorem dX3_weigh_48 : decode cX3_weigh 48 = .ok (.getfield 58, 3) := by decide +kernel
theorem dX3_weigh_51 : decode cX3_weigh 51 = .ok (.if_icmp .ge 89, 3) := by decide +kernel
theorem dX3_weigh_54 : decode cX3_weigh 54 = .ok (.aload_n 0, 1) := by decide +kernel
theorem dX3_weigh_55 : decode cX3_weigh 55 = .ok (.iload 5, 2) := by decide +kernel
theorem dX3_weigh_57 : decode cX3_weigh 57 = .ok (.iload 4, 2) := by decide +kernel
theorem dX3_weigh_59 : decode cX3_weigh 59 = .ok (.invokevirtual 140, 3) := by decide +kernel
theorem dX3_weigh_62 : decode cX3_weigh 62 = .ok (.ifCond .eq 72, 3) := by decide +kernel
theorem dX3_weigh_65 : decode cX3_weigh 65 = .ok (.aload_n 0, 1) := by decide +kernel
theorem dX3_weigh_66 : decode cX3_weigh 66 = .ok (.getfield 34, 3) := by decide +kernel
theorem dX3_weigh_69 : decode cX3_weigh 69 = .ok (.aload_n 0, 1) := by decide +kernel
theorem dX3_weigh_70 : decode cX3_weigh 70 = .ok (.iload 5, 2) := by decide +kernel
theorem dX3_weigh_72 : decode cX3_weigh 72 = .ok (.iload_n 1, 1) := by decide +kernel
theorem dX3_weigh_73 : decode cX3_weigh 73 = .ok (.invokevirtual 134, 3) := by decide +kernel
theorem dX3_weigh_76 : decode cX3_weigh 76 = .ok (.invokestatic 95, 3) := by decide +kernel
theorem dX3_weigh_79 : decode cX3_weigh 79 = .ok (.istore 6, 2) := by decide +kernel
theorem dX3_weigh_81 : decode cX3_weigh 81 = .ok (.aload_n 0, 1) := by decide +kernel
theorem dX3_weigh_82 : decode cX3_weigh 82 = .ok (.getfield 40, 3) := by decide +kernel
theorem dX3_weigh_85 : decode cX3_weigh 85 = .ok (.iload 6, 2) := by decide +kernel
theorem dX3_weigh_87 : decode cX3_weigh 87 = .ok (.aload_n 0, 1) := by decide +kernel
theorem dX3_weigh_88 : decode cX3_weigh 88 = .ok (.getfield 40, 3) := by decide +kernel
theorem dX3_weigh_91 : decode cX3_weigh 91 = .ok (.iload 6, 2) := by decide +kernel
theorem dX3_weigh_93 : decode cX3_weigh 93 = .ok (.invokestatic 95, 3) := by decide +kernel
theorem dX3_weigh_96 : decode cX3_weigh 96 = .ok (.aload_n 0, 1) := by decide +kernel
theorem dX3_weigh_97 : decode cX3_weigh 97 = .ok (.getfield 34, 3) := by decide +kernel
theorem dX3_weigh_100 : decode cX3_weigh 100 = .ok (.aload_n 0, 1) := by decide +kernel
theorem dX3_weigh_101 : decode cX3_weigh 101 = .ok (.iload 5, 2) := by decide +kernel
theorem dX3_weigh_103 : decode cX3_weigh 103 = .ok (.iload_n 2, 1) := by decide +kernel
theorem dX3_weigh_104 : decode cX3_weigh 104 = .ok (.invokevirtual 134, 3) := by decide +kernel
theorem dX3_weigh_107 : decode cX3_weigh 107 = .ok (.invokestatic 95, 3) := by decide +kernel
theorem dX3_weigh_110 : decode cX3_weigh 110 = .ok (.iadd, 1) := by decide +kernel
theorem dX3_weigh_111 : decode cX3_weigh 111 = .ok (.invokestatic 75, 3) := by decide +kernel
theorem dX3_weigh_114 : decode cX3_weigh 114 = .ok (.aload_n 0, 1) := by decide +kernel
theorem dX3_weigh_115 : decode cX3_weigh 115 = .ok (.getfield 43, 3) := by decide +kernel
theorem dX3_weigh_118 : decode cX3_weigh 118 = .ok (.iload 6, 2) := by decide +kernel
theorem dX3_weigh_120 : decode cX3_weigh 120 = .ok (.aload_n 0, 1) := by decide +kernel
theorem dX3_weigh_121 : decode cX3_weigh 121 = .ok (.getfield 43, 3) := by decide +kernel
theorem dX3_weigh_124 : decode cX3_weigh 124 = .ok (.iload 6, 2) := by decide +kernel
theorem dX3_weigh_126 : decode cX3_weigh 126 = .ok (.invokestatic 95, 3) := by decide +kernel
theorem dX3_weigh_129 : decode cX3_weigh 129 = .ok (.iconst 1, 1) := by decide +kernel
theorem dX3_weigh_130 : decode cX3_weigh 130 = .ok (.iadd, 1) := by decide +kernel
theorem dX3_weigh_131 : decode cX3_weigh 131 = .ok (.invokestatic 75, 3) := by decide +kernel
theorem dX3_weigh_134 : decode cX3_weigh 134 = .ok (.iinc 5 1, 3) := by decide +kernel
theorem dX3_weigh_137 : decode cX3_weigh 137 = .ok (.goto (-92), 3) := by decide +kernel
theorem dX3_weigh_140 : decode cX3_weigh 140 = .ok (.iconst 0, 1) := by decide +kernel
theorem dX3_weigh_141 : decode cX3_weigh 141 = .ok (.istore 5, 2) := by decide +kernel
theorem dX3_weigh_143 : decode cX3_weigh 143 = .ok (.iload 5, 2) := by decide +kernel
theorem dX3_weigh_145 : decode cX3_weigh 145 = .ok (.iload_n 3, 1) := by decide +kernel
theorem dX3_weigh_146 : decode cX3_weigh 146 = .ok (.if_icmp .ge 42, 3) := by decide +kernel
theorem dX3_weigh_149 : decode cX3_weigh 149 = .ok (.aload_n 0, 1) := by decide +kernel
theorem dX3_weigh_150 : decode cX3_weigh 150 = .ok (.getfield 43, 3) := by decide +kernel
theorem dX3_weigh_153 : decode cX3_weigh 153 = .ok (.iload 5, 2) := by decide +kernel
theorem dX3_weigh_155 : decode cX3_weigh 155 = .ok (.invokestatic 95, 3) := by decide +kernel
theorem dX3_weigh_158 : decode cX3_weigh 158 = .ok (.ifCond .ne 24, 3) := by decide +kernel
theorem dX3_weigh_161 : decode cX3_weigh 161 = .ok (.aload_n 0, 1) := by decide +kernel
theorem dX3_weigh_162 : decode cX3_weigh 162 = .ok (.getfield 40, 3) := by decide +kernel
theorem dX3_weigh_165 : decode cX3_weigh 165 = .ok (.iload 5, 2) := by decide +kernel
theorem dX3_weigh_167 : decode cX3_weigh 167 = .ok (.iload 5, 2) := by decide +kernel
theorem dX3_weigh_169 : decode cX3_weigh 169 = .ok (.invokestatic 75, 3) := by decide +kernel
theorem dX3_weigh_172 : decode cX3_weigh 172 = .ok (.aload_n 0, 1) := by decide +kernel
theorem dX3_weigh_173 : decode cX3_weigh 173 = .ok (.getfield 43, 3) := by decide +kernel
theorem dX3_weigh_176 : decode cX3_weigh 176 = .ok (.iload 5, 2) := by decide +kernel
theorem dX3_weigh_178 : decode cX3_weigh 178 = .ok (.iconst 1, 1) := by decide +kernel
theorem dX3_weigh_179 : decode cX3_weigh 179 = .ok (.invokestatic 75, 3) := by decide +kernel
theorem dX3_weigh_182 : decode cX3_weigh 182 = .ok (.iinc 5 1, 3) := by decide +kernel
theorem dX3_weigh_185 : decode cX3_weigh 185 = .ok (.goto (-42), 3) := by decide +kernel
theorem dX3_weigh_188 : decode cX3_weigh 188 = .ok (.return_, 1) := by decide +kernel
theorem dX3_arrange_0 : decode cX3_arrange 0 = .ok (.aload_n 0, 1) := by decide +kernel
theorem dX3_arrange_1 : decode cX3_arrange 1 = .ok (.getfield 22, 3) := by decide +kernel
theorem dX3_arrange_4 : decode cX3_arrange 4 = .ok (.iload_n 1, 1) := by decide +kernel
theorem dX3_arrange_5 : decode cX3_arrange 5 = .ok (.invokestatic 95, 3) := by decide +kernel
theorem dX3_arrange_8 : decode cX3_arrange 8 = .ok (.istore_n 3, 1) := by decide +kernel
theorem dX3_arrange_9 : decode cX3_arrange 9 = .ok (.aload_n 0, 1) := by decide +kernel
theorem dX3_arrange_10 : decode cX3_arrange 10 = .ok (.iload_n 1, 1) := by decide +kernel
theorem dX3_arrange_11 : decode cX3_arrange 11 = .ok (.invokevirtual 156, 3) := by decide +kernel
theorem dX3_arrange_14 : decode cX3_arrange 14 = .ok (.istore 4, 2) := by decide +kernel
theorem dX3_arrange_16 : decode cX3_arrange 16 = .ok (.aload_n 0, 1) := by decide +kernel
theorem dX3_arrange_17 : decode cX3_arrange 17 = .ok (.iload_n 1, 1) := by decide +kernel
theorem dX3_arrange_18 : decode cX3_arrange 18 = .ok (.iload_n 2, 1) := by decide +kernel
theorem dX3_arrange_19 : decode cX3_arrange 19 = .ok (.iload 4, 2) := by decide +kernel
theorem dX3_arrange_21 : decode cX3_arrange 21 = .ok (.invokevirtual 159, 3) := by decide +kernel
theorem dX3_arrange_24 : decode cX3_arrange 24 = .ok (.iconst 1, 1) := by decide +kernel
theorem dX3_arrange_25 : decode cX3_arrange 25 = .ok (.istore 5, 2) := by decide +kernel
theorem dX3_arrange_27 : decode cX3_arrange 27 = .ok (.iload 5, 2) := by decide +kernel
theorem dX3_arrange_29 : decode cX3_arrange 29 = .ok (.iload 4, 2) := by decide +kernel
theorem dX3_arrange_31 : decode cX3_arrange 31 = .ok (.if_icmp .ge 96, 3) := by decide +kernel
theorem dX3_arrange_34 : decode cX3_arrange 34 = .ok (.aload_n 0, 1) := by decide +kernel
theorem dX3_arrange_35 : decode cX3_arrange 35 = .ok (.getfield 31, 3) := by decide +kernel
theorem dX3_arrange_38 : decode cX3_arrange 38 = .ok (.iload_n 3, 1) := by decide +kernel
theorem dX3_arrange_39 : decode cX3_arrange 39 = .ok (.iload 5, 2) := by decide +kernel
theorem dX3_arrange_41 : decode cX3_arrange 41 = .ok (.iadd, 1) := by decide +kernel
theorem dX3_arrange_42 : decode cX3_arrange 42 = .ok (.invokestatic 95, 3) := by decide +kernel
theorem dX3_arrange_45 : decode cX3_arrange 45 = .ok (.istore 6, 2) := by decide +kernel
theorem dX3_arrange_47 : decode cX3_arrange 47 = .ok (.iload 5, 2) := by decide +kernel
theorem dX3_arrange_49 : decode cX3_arrange 49 = .ok (.istore 7, 2) := by decide +kernel
theorem dX3_arrange_51 : decode cX3_arrange 51 = .ok (.iload 7, 2) := by decide +kernel
theorem dX3_arrange_53 : decode cX3_arrange 53 = .ok (.ifCond .le 55, 3) := by decide +kernel
theorem dX3_arrange_56 : decode cX3_arrange 56 = .ok (.aload_n 0, 1) := by decide +kernel
theorem dX3_arrange_57 : decode cX3_arrange 57 = .ok (.iload 6, 2) := by decide +kernel
theorem dX3_arrange_59 : decode cX3_arrange 59 = .ok (.aload_n 0, 1) := by decide +kernel
theorem dX3_arrange_60 : decode cX3_arrange 60 = .ok (.getfield 31, 3) := by decide +kernel
theorem dX3_arrange_63 : decode cX3_arrange 63 = .ok (.iload_n 3, 1) := by decide +kernel
theorem dX3_arrange_64 : decode cX3_arrange 64 = .ok (.iload 7, 2) := by decide +kernel
theorem dX3_arrange_66 : decode cX3_arrange 66 = .ok (.iadd, 1) := by decide +kernel
theorem dX3_arrange_67 : decode cX3_arrange 67 = .ok (.iconst 1, 1) := by decide +kernel
theorem dX3_arrange_68 : decode cX3_arrange 68 = .ok (.isub, 1) := by decide +kernel
theorem dX3_arrange_69 : decode cX3_arrange 69 = .ok (.invokestatic 95, 3) := by decide +kernel
theorem dX3_arrange_72 : decode cX3_arrange 72 = .ok (.invokevirtual 162, 3) := by decide +kernel
theorem dX3_arrange_75 : decode cX3_arrange 75 = .ok (.ifCond .eq 33, 3) := by decide +kernel
theorem dX3_arrange_78 : decode cX3_arrange 78 = .ok (.aload_n 0, 1) := by decide +kernel
theorem dX3_arrange_79 : decode cX3_arrange 79 = .ok (.getfield 31, 3) := by decide +kernel
theorem dX3_arrange_82 : decode cX3_arrange 82 = .ok (.iload_n 3, 1) := by decide +kernel
theorem dX3_arrange_83 : decode cX3_arrange 83 = .ok (.iload 7, 2) := by decide +kernel
theorem dX3_arrange_85 : decode cX3_arrange 85 = .ok (.iadd, 1) := by decide +kernel
theorem dX3_arrange_86 : decode cX3_arrange 86 = .ok (.aload_n 0, 1) := by decide +kernel
theorem dX3_arrange_87 : decode cX3_arrange 87 = .ok (.getfield 31, 3) := by decide +kernel
theorem dX3_arrange_90 : decode cX3_arrange 90 = .ok (.iload_n 3, 1) := by decide +kernel
theorem dX3_arrange_91 : decode cX3_arrange 91 = .ok (.iload 7, 2) := by decide +kernel
theorem dX3_arrange_93 : decode cX3_arrange 93 = .ok (.iadd, 1) := by decide +kernel
theorem dX3_arrange_94 : decode cX3_arrange 94 = .ok (.iconst 1, 1) := by decide +kernel
theorem dX3_arrange_95 : decode cX3_arrange 95 = .ok (.isub, 1) := by decide +kernel
theorem dX3_arrange_96 : decode cX3_arrange 96 = .ok (.invokestatic 95, 3) := by decide +kernel
theorem dX3_arrange_99 : decode cX3_arrange 99 = .ok (.invokestatic 75, 3) := by decide +kernel
theorem dX3_arrange_102 : decode cX3_arrange 102 = .ok (.iinc 7 (-1), 3) := by decide +kernel
theorem dX3_arrange_105 : decode cX3_arrange 105 = .ok (.goto (-54), 3) := by decide +kernel
theorem dX3_arrange_108 : decode cX3_arrange 108 = .ok (.aload_n 0, 1) := by decide +kernel
theorem dX3_arrange_109 : decode cX3_arrange 109 = .ok (.getfield 31, 3) := by decide +kernel
theorem dX3_arrange_112 : decode cX3_arrange 112 = .ok (.iload_n 3, 1) := by decide +kernel
theorem dX3_arrange_113 : decode cX3_arrange 113 = .ok (.iload 7, 2) := by decide +kernel
theorem dX3_arrange_115 : decode cX3_arrange 115 = .ok (.iadd, 1) := by decide +kernel
theorem dX3_arrange_116 : decode cX3_arrange 116 = .ok (.iload 6, 2) := by decide +kernel
theorem dX3_arrange_118 : decode cX3_arrange 118 = .ok (.invokestatic 75, 3) := by decide +kernel
theorem dX3_arrange_121 : decode cX3_arrange 121 = .ok (.iinc 5 1, 3) := by decide +kernel
theorem dX3_arrange_124 : decode cX3_arrange 124 = .ok (.goto (-97), 3) := by decide +kernel
theorem dX3_arrange_127 : decode cX3_arrange 127 = .ok (.iconst 0, 1) := by decide +kernel
theorem dX3_arrange_128 : decode cX3_arrange 128 = .ok (.istore 5, 2) := by decide +kernel
theorem dX3_arrange_130 : decode cX3_arrange 130 = .ok (.iload 5, 2) := by decide +kernel
theorem dX3_arrange_132 : decode cX3_arrange 132 = .ok (.iload 4, 2) := by decide +kernel
theorem dX3_arrange_134 : decode cX3_arrange 134 = .ok (.if_icmp .ge 29, 3) := by decide +kernel
theorem dX3_arrange_137 : decode cX3_arrange 137 = .ok (.aload_n 0, 1) := by decide +kernel
theorem dX3_arrange_138 : decode cX3_arrange 138 = .ok (.iload_n 1, 1) := by decide +kernel
theorem dX3_arrange_139 : decode cX3_arrange 139 = .ok (.iload_n 3, 1) := by decide +kernel
theorem dX3_arrange_140 : decode cX3_arrange 140 = .ok (.iload 5, 2) := by decide +kernel
theorem dX3_arrange_142 : decode cX3_arrange 142 = .ok (.iadd, 1) := by decide +kernel
theorem dX3_arrange_143 : decode cX3_arrange 143 = .ok (.aload_n 0, 1) := by decide +kernel
theorem dX3_arrange_144 : decode cX3_arrange 144 = .ok (.getfield 31, 3) := by decide +kernel
theorem dX3_arrange_147 : decode cX3_arrange 147 = .ok (.iload_n 3, 1) := by decide +kernel
theorem dX3_arrange_148 : decode cX3_arrange 148 = .ok (.iload 5, 2) := by decide +kernel
theorem dX3_arrange_150 : decode cX3_arrange 150 = .ok (.iadd, 1) := by decide +kernel
theorem dX3_arrange_151 : decode cX3_arrange 151 = .ok (.invokestatic 95, 3) := by decide +kernel
theorem dX3_arrange_154 : decode cX3_arrange 154 = .ok (.invokevirtual 127, 3) := by decide +kernel
theorem dX3_arrange_157 : decode cX3_arrange 157 = .ok (.iinc 5 1, 3) := by decide +kernel
theorem dX3_arrange_160 : decode cX3_arrange 160 = .ok (.goto (-30), 3) := by decide +kernel
theorem dX3_arrange_163 : decode cX3_arrange 163 = .ok (.return_, 1) := by decide +kernel
theorem dX3_sweepOften_0 : decode cX3_sweepOften 0 = .ok (.iconst 0, 1) := by decide +kernel
theorem dX3_sweepOften_1 : decode cX3_sweepOften 1 = .ok (.istore_n 2, 1) := by decide +kernel
theorem dX3_sweepOften_2 : decode cX3_sweepOften 2 = .ok (.iload_n 2, 1) := by decide +kernel
theorem dX3_sweepOften_3 : decode cX3_sweepOften 3 = .ok (.iload_n 1, 1) := by decide +kernel
theorem dX3_sweepOften_4 : decode cX3_sweepOften 4 = .ok (.if_icmp .ge 89, 3) := by decide +kernel
theorem dX3_sweepOften_7 : decode cX3_sweepOften 7 = .ok (.aload_n 0, 1) := by decide +kernel
theorem dX3_sweepOften_8 : decode cX3_sweepOften 8 = .ok (.getfield 59, 3) := by decide +kernel
theorem dX3_sweepOften_11 : decode cX3_sweepOften 11 = .ok (.iconst 1, 1) := by decide +kernel
theorem dX3_sweepOften_12 : decode cX3_sweepOften 12 = .ok (.iand, 1) := by decide +kernel
theorem dX3_sweepOften_13 : decode cX3_sweepOften 13 = .ok (.ifCond .ne 7, 3) := by decide +kernel
theorem dX3_sweepOften_16 : decode cX3_sweepOften 16 = .ok (.iconst 1, 1) := by decide +kernel
theorem dX3_sweepOften_17 : decode cX3_sweepOften 17 = .ok (.goto 4, 3) := by decide +kernel
theorem dX3_sweepOften_20 : decode cX3_sweepOften 20 = .ok (.iconst 0, 1) := by decide +kernel
theorem dX3_sweepOften_21 : decode cX3_sweepOften 21 = .ok (.istore_n 3, 1) := by decide +kernel
theorem dX3_sweepOften_22 : decode cX3_sweepOften 22 = .ok (.iconst 1, 1) := by decide +kernel
theorem dX3_sweepOften_23 : decode cX3_sweepOften 23 = .ok (.istore 4, 2) := by decide +kernel
theorem dX3_sweepOften_25 : decode cX3_sweepOften 25 = .ok (.iload 4, 2) := by decide +kernel
theorem dX3_sweepOften_27 : decode cX3_sweepOften 27 = .ok (.aload_n 0, 1) := by decide +kernel
theorem dX3_sweepOften_28 : decode cX3_sweepOften 28 = .ok (.getfield 72, 3) := by decide +kernel
theorem dX3_sweepOften_31 : decode cX3_sweepOften 31 = .ok (.if_icmp .ge 46, 3) := by decide +kernel
theorem dX3_sweepOften_34 : decode cX3_sweepOften 34 = .ok (.iload_n 3, 1) := by decide +kernel
theorem dX3_sweepOften_35 : decode cX3_sweepOften 35 = .ok (.ifCond .eq 16, 3) := by decide +kernel
theorem dX3_sweepOften_38 : decode cX3_sweepOften 38 = .ok (.aload_n 0, 1) := by decide +kernel
theorem dX3_sweepOften_39 : decode cX3_sweepOften 39 = .ok (.iload 4, 2) := by decide +kernel
theorem dX3_sweepOften_41 : decode cX3_sweepOften 41 = .ok (.iload 4, 2) := by decide +kernel
theorem dX3_sweepOften_43 : decode cX3_sweepOften 43 = .ok (.iconst 1, 1) := by decide +kernel
theorem dX3_sweepOften_44 : decode cX3_sweepOften 44 = .ok (.isub, 1) := by decide +kernel
theorem dX3_sweepOften_45 : decode cX3_sweepOften 45 = .ok (.invokevirtual 144, 3) := by decide +kernel
theorem dX3_sweepOften_48 : decode cX3_sweepOften 48 = .ok (.goto 23, 3) := by decide +kernel
theorem dX3_sweepOften_51 : decode cX3_sweepOften 51 = .ok (.aload_n 0, 1) := by decide +kernel
theorem dX3_sweepOften_52 : decode cX3_sweepOften 52 = .ok (.aload_n 0, 1) := by decide +kernel
theorem dX3_sweepOften_53 : decode cX3_sweepOften 53 = .ok (.getfield 72, 3) := by decide +kernel
theorem dX3_sweepOften_56 : decode cX3_sweepOften 56 = .ok (.iconst 1, 1) := by decide +kernel
theorem dX3_sweepOften_57 : decode cX3_sweepOften 57 = .ok (.isub, 1) := by decide +kernel
theorem dX3_sweepOften_58 : decode cX3_sweepOften 58 = .ok (.iload 4, 2) := by decide +kernel
theorem dX3_sweepOften_60 : decode cX3_sweepOften 60 = .ok (.isub, 1) := by decide +kernel
theorem dX3_sweepOften_61 : decode cX3_sweepOften 61 = .ok (.aload_n 0, 1) := by decide +kernel
theorem dX3_sweepOften_62 : decode cX3_sweepOften 62 = .ok (.getfield 72, 3) := by decide +kernel
theorem dX3_sweepOften_65 : decode cX3_sweepOften 65 = .ok (.iload 4, 2) := by decide +kernel
theorem dX3_sweepOften_67 : decode cX3_sweepOften 67 = .ok (.isub, 1) := by decide +kernel
theorem dX3_sweepOften_68 : decode cX3_sweepOften 68 = .ok (.invokevirtual 144, 3) := by decide +kernel
theorem dX3_sweepOften_71 : decode cX3_sweepOften 71 = .ok (.iinc 4 1, 3) := by decide +kernel
theorem dX3_sweepOften_74 : decode cX3_sweepOften 74 = .ok (.goto (-49), 3) := by decide +kernel
theorem dX3_sweepOften_77 : decode cX3_sweepOften 77 = .ok (.aload_n 0, 1) := by decide +kernel
theorem dX3_sweepOften_78 : decode cX3_sweepOften 78 = .ok (.dup, 1) := by decide +kernel
theorem dX3_sweepOften_79 : decode cX3_sweepOften 79 = .ok (.getfield 59, 3) := by decide +kernel
theorem dX3_sweepOften_82 : decode cX3_sweepOften 82 = .ok (.iconst 1, 1) := by decide +kernel
theorem dX3_sweepOften_83 : decode cX3_sweepOften 83 = .ok (.iadd, 1) := by decide +kernel
theorem dX3_sweepOften_84 : decode cX3_sweepOften 84 = .ok (.putfield 59, 3) := by decide +kernel
theorem dX3_sweepOften_87 : decode cX3_sweepOften 87 = .ok (.iinc 2 1, 3) := by decide +kernel
theorem dX3_sweepOften_90 : decode cX3_sweepOften 90 = .ok (.goto (-88), 3) := by decide +kernel
theorem dX3_sweepOften_93 : decode cX3_sweepOften 93 = .ok (.return_, 1) := by decide +kernel
theorem dX3_tryOut_0 : decode cX3_tryOut 0 = .ok (.aload_n 0, 1) := by decide +kernel
theorem dX3_tryOut_1 : decode cX3_tryOut 1 = .ok (.getfield 59, 3) := by decide +kernel
theorem dX3_tryOut_4 : decode cX3_tryOut 4 = .ok (.istore_n 2, 1) := by decide +kernel
theorem dX3_tryOut_5 : decode cX3_tryOut 5 = .ok (.aload_n 0, 1) := by decide +kernel
theorem dX3_tryOut_6 : decode cX3_tryOut 6 = .ok (.getfield 22, 3) := by decide +kernel
theorem dX3_tryOut_9 : decode cX3_tryOut 9 = .ok (.aload_n 0, 1) := by decide +kernel
theorem dX3_tryOut_10 : decode cX3_tryOut 10 = .ok (.getfield 72, 3) := by decide +kernel
theorem dX3_tryOut_13 : decode cX3_tryOut 13 = .ok (.invokestatic 95, 3) := by decide +kernel
theorem dX3_tryOut_16 : decode cX3_tryOut 16 = .ok (.istore_n 3, 1) := by decide +kernel
theorem dX3_tryOut_17 : decode cX3_tryOut 17 = .ok (.iconst 0, 1) := by decide +kernel
theorem dX3_tryOut_18 : decode cX3_tryOut 18 = .ok (.istore 4, 2) := by decide +kernel
theorem dX3_tryOut_20 : decode cX3_tryOut 20 = .ok (.iload 4, 2) := by decide +kernel
theorem dX3_tryOut_22 : decode cX3_tryOut 22 = .ok (.iload_n 3, 1) := by decide +kernel
theorem dX3_tryOut_23 : decode cX3_tryOut 23 = .ok (.if_icmp .ge 27, 3) := by decide +kernel
theorem dX3_tryOut_26 : decode cX3_tryOut 26 = .ok (.aload_n 0, 1) := by decide +kernel
theorem dX3_tryOut_27 : decode cX3_tryOut 27 = .ok (.getfield 37, 3) := by decide +kernel
theorem dX3_tryOut_30 : decode cX3_tryOut 30 = .ok (.iload 4, 2) := by decide +kernel
theorem dX3_tryOut_32 : decode cX3_tryOut 32 = .ok (.aload_n 0, 1) := by decide +kernel
theorem dX3_tryOut_33 : decode cX3_tryOut 33 = .ok (.getfield 31, 3) := by decide +kernel
theorem dX3_tryOut_36 : decode cX3_tryOut 36 = .ok (.iload 4, 2) := by decide +kernel
theorem dX3_tryOut_38 : decode cX3_tryOut 38 = .ok (.invokestatic 95, 3) := by decide +kernel
theorem dX3_tryOut_41 : decode cX3_tryOut 41 = .ok (.invokestatic 75, 3) := by decide +kernel
theorem dX3_tryOut_44 : decode cX3_tryOut 44 = .ok (.iinc 4 1, 3) := by decide +kernel
theorem dX3_tryOut_47 : decode cX3_tryOut 47 = .ok (.goto (-27), 3) := by decide +kernel
theorem dX3_tryOut_50 : decode cX3_tryOut 50 = .ok (.aload_n 0, 1) := by decide +kernel
theorem dX3_tryOut_51 : decode cX3_tryOut 51 = .ok (.iload_n 1, 1) := by decide +kernel
theorem dX3_tryOut_52 : decode cX3_tryOut 52 = .ok (.invokevirtual 148, 3) := by decide +kernel
theorem dX3_tryOut_55 : decode cX3_tryOut 55 = .ok (.aload_n 0, 1) := by decide +kernel
theorem dX3_tryOut_56 : decode cX3_tryOut 56 = .ok (.invokevirtual 152, 3) := by decide +kernel
theorem dX3_tryOut_59 : decode cX3_tryOut 59 = .ok (.istore 4, 2) := by decide +kernel
theorem dX3_tryOut_61 : decode cX3_tryOut 61 = .ok (.iconst 0, 1) := by decide +kernel
theorem dX3_tryOut_62 : decode cX3_tryOut 62 = .ok (.istore 5, 2) := by decide +kernel
theorem dX3_tryOut_64 : decode cX3_tryOut 64 = .ok (.iload 5, 2) := by decide +kernel
theorem dX3_tryOut_66 : decode cX3_tryOut 66 = .ok (.aload_n 0, 1) := by decide +kernel
theorem dX3_tryOut_67 : decode cX3_tryOut 67 = .ok (.getfield 72, 3) := by decide +kernel
theorem dX3_tryOut_70 : decode cX3_tryOut 70 = .ok (.if_icmp .ge 59, 3) := by decide +kernel
theorem dX3_tryOut_73 : decode cX3_tryOut 73 = .ok (.aload_n 0, 1) := by decide +kernel
theorem dX3_tryOut_74 : decode cX3_tryOut 74 = .ok (.getfield 22, 3) := by decide +kernel
theorem dX3_tryOut_77 : decode cX3_tryOut 77 = .ok (.iload 5, 2) := by decide +kernel
theorem dX3_tryOut_79 : decode cX3_tryOut 79 = .ok (.invokestatic 95, 3) := by decide +kernel
theorem dX3_tryOut_82 : decode cX3_tryOut 82 = .ok (.istore 6, 2) := by decide +kernel
theorem dX3_tryOut_84 : decode cX3_tryOut 84 = .ok (.iload 6, 2) := by decide +kernel
theorem dX3_tryOut_86 : decode cX3_tryOut 86 = .ok (.aload_n 0, 1) := by decide +kernel
theorem dX3_tryOut_87 : decode cX3_tryOut 87 = .ok (.getfield 22, 3) := by decide +kernel
theorem dX3_tryOut_90 : decode cX3_tryOut 90 = .ok (.iload 5, 2) := by decide +kernel
theorem dX3_tryOut_92 : decode cX3_tryOut 92 = .ok (.iconst 1, 1) := by decide +kernel
theorem dX3_tryOut_93 : decode cX3_tryOut 93 = .ok (.iadd, 1) := by decide +kernel
theorem dX3_tryOut_94 : decode cX3_tryOut 94 = .ok (.invokestatic 95, 3) := by decide +kernel
theorem dX3_tryOut_97 : decode cX3_tryOut 97 = .ok (.if_icmp .ge 26, 3) := by decide +kernel
theorem dX3_tryOut_100 : decode cX3_tryOut 100 = .ok (.aload_n 0, 1) := by decide +kernel
theorem dX3_tryOut_101 : decode cX3_tryOut 101 = .ok (.iload 5, 2) := by decide +kernel
theorem dX3_tryOut_103 : decode cX3_tryOut 103 = .ok (.iload 6, 2) := by decide +kernel
theorem dX3_tryOut_105 : decode cX3_tryOut 105 = .ok (.aload_n 0, 1) := by decide +kernel
theorem dX3_tryOut_106 : decode cX3_tryOut 106 = .ok (.getfield 37, 3) := by decide +kernel
theorem dX3_tryOut_109 : decode cX3_tryOut 109 = .ok (.iload 6, 2) := by decide +kernel
theorem dX3_tryOut_111 : decode cX3_tryOut 111 = .ok (.invokestatic 95, 3) := by decide +kernel
theorem dX3_tryOut_114 : decode cX3_tryOut 114 = .ok (.invokevirtual 127, 3) := by decide +kernel
theorem dX3_tryOut_117 : decode cX3_tryOut 117 = .ok (.iinc 6 1, 3) := by decide +kernel
theorem dX3_tryOut_120 : decode cX3_tryOut 120 = .ok (.goto (-36), 3) := by decide +kernel
theorem dX3_tryOut_123 : decode cX3_tryOut 123 = .ok (.iinc 5 1, 3) := by decide +kernel
theorem dX3_tryOut_126 : decode cX3_tryOut 126 = .ok (.goto (-62), 3) := by decide +kernel
theorem dX3_tryOut_129 : decode cX3_tryOut 129 = .ok (.aload_n 0, 1) := by decide +kernel
theorem dX3_tryOut_130 : decode cX3_tryOut 130 = .ok (.iload_n 2, 1) := by decide +kernel
theorem dX3_tryOut_131 : decode cX3_tryOut 131 = .ok (.putfield 59, 3) := by decide +kernel
theorem dX3_tryOut_134 : decode cX3_tryOut 134 = .ok (.iload 4, 2) := by decide +kernel
theorem dX3_tryOut_136 : decode cX3_tryOut 136 = .ok (.ireturn, 1) := by decide +kernel
theorem mw_282 : Cond.fieldLink RX3 46 "OrielChart$Picture" "above" "[I" ∈ GW := gw_mem (inT2 _ (List.mem_of_getElem? (i := 25) rfl)) rfl
theorem mw_283 : Cond.fieldLink RX3 49 "OrielChart$Picture" "below" "[I" ∈ GW := gw_mem (inT2 _ (List.mem_of_getElem? (i := 26) rfl)) rfl
theorem mw_284 : Cond.code yX3_leaves cX3_leaves 3 (some Jvm.ClassFile.FieldType.boolean) ∈ GW := gw_mem (inT3 _ (List.mem_of_getElem? (i := 158) rfl)) rfl
theorem mw_285 : Cond.methodLink RX3 140 yX3_leaves ∈ GW := gw_mem (inT3 _ (List.mem_of_getElem? (i := 155) rfl)) rfl
theorem mw_286 : Cond.instanceMethod yX3_leaves ∈ GW := gw_mem (inT3 _ (List.mem_of_getElem? (i := 157) rfl)) rfl
theorem mw_287 : Cond.selects RX3 yX3_leaves yX3_leaves ∈ GW := gw_mem (inTp (q := (yX3_leaves, 16)) (List.mem_of_getElem? (i := 36) rfl)) rfl
theorem mw_288 : Cond.code yX3_crossingsUnder cX3_crossingsUnder 6 (some Jvm.ClassFile.FieldType.int) ∈ GW := gw_mem (inT3 _ (List.mem_of_getElem? (i := 154) rfl)) rfl
theorem mw_289 : Cond.methodLink RX3 137 yX3_crossingsUnder ∈ GW := gw_mem (inT3 _ (List.mem_of_getElem? (i := 151) rfl)) rfl
theorem mw_290 : Cond.instanceMethod yX3_crossingsUnder ∈ GW := gw_mem (inT3 _ (List.mem_of_getElem? (i := 153) rfl)) rfl
theorem mw_291 : Cond.selects RX3 yX3_crossingsUnder yX3_crossingsUnder ∈ GW := gw_mem (inTp (q := (yX3_crossingsUnder, 16)) (List.mem_of_getElem? (i := 35) rfl)) rfl
theorem mw_292 : Cond.fieldLink RX3 40 "OrielChart$Picture" "sum" "[I" ∈ GW := gw_mem (inT2 _ (List.mem_of_getElem? (i := 23) rfl)) rfl
theorem mw_293 : Cond.fieldLink RX3 43 "OrielChart$Picture" "lines" "[I" ∈ GW := gw_mem (inT2 _ (List.mem_of_getElem? (i := 24) rfl)) rfl
theorem mw_294 : Cond.methodLink RX3 165 Lib.Math.min.name ∈ GW := gw_mem (inT4 _ (List.mem_of_getElem? (i := 125) rfl)) rfl
theorem mw_295 : Cond.static Lib.Math.min.name ∈ GW := gw_mem (inT4 _ (List.mem_of_getElem? (i := 45) rfl)) rfl
theorem mw_296 : Cond.code Lib.Math.min.name Lib.Math.min.code 2 (some .int) ∈ GW := gw_mem (inT4 _ (List.mem_of_getElem? (i := 46) rfl)) rfl
theorem mw_297 : Cond.code yX3_sizeOf cX3_sizeOf 2 (some Jvm.ClassFile.FieldType.int) ∈ GW := gw_mem (inT3 _ (List.mem_of_getElem? (i := 142) rfl)) rfl
theorem mw_298 : Cond.methodLink RX3 156 yX3_sizeOf ∈ GW := gw_mem (inT4 _ (List.mem_of_getElem? (i := 120) rfl)) rfl
theorem mw_299 : Cond.instanceMethod yX3_sizeOf ∈ GW := gw_mem (inT3 _ (List.mem_of_getElem? (i := 140) rfl)) rfl
theorem mw_300 : Cond.selects RX3 yX3_sizeOf yX3_sizeOf ∈ GW := gw_mem (inT3 _ (List.mem_of_getElem? (i := 141) rfl)) rfl
theorem mw_301 : Cond.code yX3_weigh cX3_weigh 7 (none : Option FieldType) ∈ GW := gw_mem (inT4 _ (List.mem_of_getElem? (i := 124) rfl)) rfl
theorem mw_302 : Cond.methodLink RX3 159 yX3_weigh ∈ GW := gw_mem (inT4 _ (List.mem_of_getElem? (i := 121) rfl)) rfl
theorem mw_303 : Cond.instanceMethod yX3_weigh ∈ GW := gw_mem (inT4 _ (List.mem_of_getElem? (i := 123) rfl)) rfl
theorem mw_304 : Cond.selects RX3 yX3_weigh yX3_weigh ∈ GW := gw_mem (inTp (q := (yX3_weigh, 16)) (List.mem_of_getElem? (i := 43) rfl)) rfl
theorem mw_305 : Cond.code yX3_isAhead cX3_isAhead 5 (some Jvm.ClassFile.FieldType.boolean) ∈ GW := gw_mem (inT4 _ (List.mem_of_getElem? (i := 129) rfl)) rfl
theorem mw_306 : Cond.methodLink RX3 162 yX3_isAhead ∈ GW := gw_mem (inT4 _ (List.mem_of_getElem? (i := 126) rfl)) rfl
theorem mw_307 : Cond.instanceMethod yX3_isAhead ∈ GW := gw_mem (inT4 _ (List.mem_of_getElem? (i := 128) rfl)) rfl
theorem mw_308 : Cond.selects RX3 yX3_isAhead yX3_isAhead ∈ GW := gw_mem (inTp (q := (yX3_isAhead, 16)) (List.mem_of_getElem? (i := 44) rfl)) rfl
theorem mw_309 : Cond.code yX3_arrange cX3_arrange 8 (none : Option FieldType) ∈ GW := gw_mem (inT4 _ (List.mem_of_getElem? (i := 119) rfl)) rfl
theorem mw_310 : Cond.methodLink RX3 144 yX3_arrange ∈ GW := gw_mem (inT4 _ (List.mem_of_getElem? (i := 116) rfl)) rfl
theorem mw_311 : Cond.instanceMethod yX3_arrange ∈ GW := gw_mem (inT4 _ (List.mem_of_getElem? (i := 118) rfl)) rfl
theorem mw_312 : Cond.selects RX3 yX3_arrange yX3_arrange ∈ GW := gw_mem (inTp (q := (yX3_arrange, 16)) (List.mem_of_getElem? (i := 42) rfl)) rfl
theorem mw_313 : Cond.code yX3_sweepOften cX3_sweepOften 5 (none : Option FieldType) ∈ GW := gw_mem (inT4 _ (List.mem_of_getElem? (i := 115) rfl)) rfl
theorem mw_314 : Cond.methodLink RX3 148 yX3_sweepOften ∈ GW := gw_mem (inT4 _ (List.mem_of_getElem? (i := 112) rfl)) rfl
theorem mw_315 : Cond.instanceMethod yX3_sweepOften ∈ GW := gw_mem (inT4 _ (List.mem_of_getElem? (i := 113) rfl)) rfl
theorem mw_316 : Cond.selects RX3 yX3_sweepOften yX3_sweepOften ∈ GW := gw_mem (inT4 _ (List.mem_of_getElem? (i := 114) rfl)) rfl
theorem mw_317 : Cond.code yX3_countCrossings cX3_countCrossings 3 (some Jvm.ClassFile.FieldType.int) ∈ GW := gw_mem (inT3 _ (List.mem_of_getElem? (i := 150) rfl)) rfl
theorem mw_318 : Cond.methodLink RX3 152 yX3_countCrossings ∈ GW := gw_mem (inT4 _ (List.mem_of_getElem? (i := 130) rfl)) rfl
theorem mw_319 : Cond.instanceMethod yX3_countCrossings ∈ GW := gw_mem (inT3 _ (List.mem_of_getElem? (i := 148) rfl)) rfl
theorem mw_320 : Cond.selects RX3 yX3_countCrossings yX3_countCrossings ∈ GW := gw_mem (inT3 _ (List.mem_of_getElem? (i := 149) rfl)) rfl
theorem mw_321 : Cond.fieldLink RX3 37 "OrielChart$Picture" "kept" "[I" ∈ GW := gw_mem (inT2 _ (List.mem_of_getElem? (i := 22) rfl)) rfl
theorem pdv_X3_leaves : yX3_leaves.cls = RX3 ∧ yX3_leaves.cls ≠ "java/lang/invoke/MethodHandle" ∧ yX3_leaves.cls ≠ "java/lang/invoke/VarHandle" ∧ (parseMethodDescriptor yX3_leaves.desc).map (fun d => d.parameters.length) = some 2 := by decide +kernel
theorem pdv_X3_crossingsUnder : yX3_crossingsUnder.cls = RX3 ∧ yX3_crossingsUnder.cls ≠ "java/lang/invoke/MethodHandle" ∧ yX3_crossingsUnder.cls ≠ "java/lang/invoke/VarHandle" ∧ (parseMethodDescriptor yX3_crossingsUnder.desc).map (fun d => d.parameters.length) = some 1 := by decide +kernel
theorem pdv_X3_sizeOf : yX3_sizeOf.cls = RX3 ∧ yX3_sizeOf.cls ≠ "java/lang/invoke/MethodHandle" ∧ yX3_sizeOf.cls ≠ "java/lang/invoke/VarHandle" ∧ (parseMethodDescriptor yX3_sizeOf.desc).map (fun d => d.parameters.length) = some 1 := by decide +kernel
theorem pdv_X3_weigh : yX3_weigh.cls = RX3 ∧ yX3_weigh.cls ≠ "java/lang/invoke/MethodHandle" ∧ yX3_weigh.cls ≠ "java/lang/invoke/VarHandle" ∧ (parseMethodDescriptor yX3_weigh.desc).map (fun d => d.parameters.length) = some 3 := by decide +kernel
theorem pdv_X3_isAhead : yX3_isAhead.cls = RX3 ∧ yX3_isAhead.cls ≠ "java/lang/invoke/MethodHandle" ∧ yX3_isAhead.cls ≠ "java/lang/invoke/VarHandle" ∧ (parseMethodDescriptor yX3_isAhead.desc).map (fun d => d.parameters.length) = some 2 := by decide +kernel
theorem pdv_X3_arrange : yX3_arrange.cls = RX3 ∧ yX3_arrange.cls ≠ "java/lang/invoke/MethodHandle" ∧ yX3_arrange.cls ≠ "java/lang/invoke/VarHandle" ∧ (parseMethodDescriptor yX3_arrange.desc).map (fun d => d.parameters.length) = some 2 := by decide +kernel
theorem pdv_X3_sweepOften : yX3_sweepOften.cls = RX3 ∧ yX3_sweepOften.cls ≠ "java/lang/invoke/MethodHandle" ∧ yX3_sweepOften.cls ≠ "java/lang/invoke/VarHandle" ∧ (parseMethodDescriptor yX3_sweepOften.desc).map (fun d => d.parameters.length) = some 1 := by decide +kernel
theorem pdv_X3_countCrossings : yX3_countCrossings.cls = RX3 ∧ yX3_countCrossings.cls ≠ "java/lang/invoke/MethodHandle" ∧ yX3_countCrossings.cls ≠ "java/lang/invoke/VarHandle" ∧ (parseMethodDescriptor yX3_countCrossings.desc).map (fun d => d.parameters.length) = some 0 := by decide +kernel
def meanD (wa pi : Ob) : UInt64 := if 0 < (msAll wa pi).1 then FP.ddiv (FP.i2d (msAll wa pi).2) (FP.i2d (msAll wa pi).1) else FP.dconst0
set_option maxHeartbeats 4000000 in
set_option maxRecDepth 100000 in
theorem c_meanSpan (l : Launch) (D : va_G) (cI cJ : ClassId) (ad : Nat → Nat) (co fl ra li re wa pi : Ob) (hnan : 0 < (msAll wa pi).1 → vf_n64 (FP.ddiv (FP.i2d (msAll wa pi).2) (FP.i2d (msAll wa pi).1))) : CT l D (TY cI cJ) yX3_meanSpan (.code yX3_meanSpan cX3_meanSpan 4 (some Jvm.ClassFile.FieldType.double)) 2 0 0 (XW ad cI cJ co fl ra li re wa pi) [.ref (ad 6)] (QD D (TY cI cJ) (fun r u => r = (meanD wa pi) ∧ u = (XW ad cI cJ co fl ra li re wa pi))) := by
  refine ent (by decide) (Nat.le_of_ble_eq_true rfl) ?_
  intro p e s m below meth c ls A hx hb hr hg hown hml hlocks hnm hP hK hD hS hA hN hl
  have hl : lv_has ls 4 [(0, .ref (ad 6))] := hl
  refine lv_iconst (v := 0) hx hb dX3_meanSpan_0 (by decide) ?_
  refine lv_istore_n (lv' := [(1, .int 0), (0, .ref (ad 6))]) hx hb dX3_meanSpan_1 rfl hl (by decide) rfl (fun ls hl => ?_)
  refine lv_iconst (v := 0) hx hb dX3_meanSpan_2 (by decide) ?_
  refine lv_istore_n (lv' := [(2, .int 0), (1, .int 0), (0, .ref (ad 6))]) hx hb dX3_meanSpan_3 rfl hl (by decide) rfl (fun ls hl => ?_)
  refine lv_iconst (v := 0) hx hb dX3_meanSpan_4 (by decide) ?_
  refine lv_istore_n (lv' := [(3, .int 0), (2, .int 0), (1, .int 0), (0, .ref (ad 6))]) hx hb dX3_meanSpan_5 rfl hl (by decide) rfl (fun ls hl => ?_)
  refine w_loop (σ := Int32 × Int32) (fun (i_1 : Nat) (p_1 : Int32 × Int32) (H : Heap) (locs : List Loc) (ls : Array Slot) => p_1 = (lp (msStep wa pi) i_1 (0, 0)) ∧ va_P D vwCl (XW ad cI cJ co fl ra li re wa pi) H ∧ va_D A (XW ad cI cJ co fl ra li re wa pi) ∧ va_S A s.heap H locs ∧ lv_has ls 4 [(0, .ref (ad 6)), (1, .int p_1.1), (2, .int p_1.2), (3, .int (nI i_1))]) (nN (gi pi 0)) (fun p_1 H locs ls hI => ?_) (fun i_1 p_1 H locs ls hi_1 hI ih_1 => ?_) 0 (0, 0) (Nat.zero_le _) ⟨rfl, hP, hD, hS, (by rw [nI_0]; exact lv_sub hl [3, 2, 1, 0] rfl)⟩
  · obtain ⟨h_1, hP, hD, hS, hl⟩ := hI
    have h_1 := h_1.symm
    subst h_1
    have hP : va_P D vwCl (XW ad cI cJ co fl ra li re wa pi) H := hP
    have hD : va_D A (XW ad cI cJ co fl ra li re wa pi) := hD
    have hl : lv_has ls 4 [(0, .ref (ad 6)), (1, .int ((lp (msStep wa pi) (nN (gi pi 0)) (0, 0)).1)), (2, .int ((lp (msStep wa pi) (nN (gi pi 0)) (0, 0)).2)), (3, .int (nI ((nN (gi pi 0)))))] := hl
    refine lv_iload_n hx hb dX3_meanSpan_6 rfl (lv_at hl 3 rfl) ?_
    refine lv_aload_n hx hb dX3_meanSpan_7 rfl (lv_at hl 0 rfl) ?_
    refine va_get (D := D) (ci := 3) (v := .int (gi pi 0)) (C := RX3) (T := TX3) (N := 16) hx hb hg inGX3 hown hK hP 6 rfl rfl 12 (by decide) (hg _ mw_228) (fun _ h9 => h9) rfl dX3_meanSpan_8 ?_
    refine lv_icmp_ge (tgt := 48) hx hb dX3_meanSpan_11 (by decide) (fun _ => ?_) (fun c_11 => absurd (lp_out _) c_11)
    refine lv_iload_n hx hb dX3_meanSpan_48 rfl (lv_at hl 1 rfl) ?_
    refine lv_if_le (tgt := 60) hx hb dX3_meanSpan_49 (by decide) (fun c_49 => ?_) (fun c_49 => ?_)
    · have c_49 : ¬ 0 < ((lp (msStep wa pi) (nN (gi pi 0)) (0, 0)).1) := i_ge c_49
      refine lv_dconst0 hx hb dX3_meanSpan_60 ?_
      exact W.dret (v := FP.dconst0) hx hb hr (fun t ht hW => ⟨⟨FP.dconst0, (XW ad cI cJ co fl ra li re wa pi), rfl, ⟨(show (FP.dconst0 : UInt64) = (meanD wa pi) from (by first | (simp only [meanD, msAll, if_neg c_49, decide_eq_false c_49, decide_eq_true c_49, if_pos c_49, gi_sl, gi_sA, gi_sB, gi_si_s, gi_si_n, gl_si, gl_sA, gl_sB, gl_sl_s, gl_sl_n, gA_si, gA_sl, gA_sB, gA_sA_s, gA_sA_n, gB_si, gB_sl, gB_sA, gB_sB_s, gB_sB_n, Nat.reduceBEq, if_true, if_false, eq_self, Bool.false_eq_true, reduceCtorEq, not_true_eq_false, not_false_eq_true, decide_true, decide_false, cond_true, cond_false, Bool.true_and, Bool.false_and, Bool.and_true, Bool.and_false, Bool.true_or, Bool.false_or, Bool.or_true, Bool.or_false, b2i_tt, b2i_ff]; done) | (simp only [meanD, msAll, if_neg c_49, decide_eq_false c_49, decide_eq_true c_49, if_pos c_49, gi_sl, gi_sA, gi_sB, gi_si_s, gi_si_n, gl_si, gl_sA, gl_sB, gl_sl_s, gl_sl_n, gA_si, gA_sl, gA_sB, gA_sA_s, gA_sA_n, gB_si, gB_sl, gB_sA, gB_sB_s, gB_sB_n, Nat.reduceBEq, if_true, if_false, eq_self, Bool.false_eq_true, reduceCtorEq, not_true_eq_false, not_false_eq_true, decide_true, decide_false, cond_true, cond_false, Bool.true_and, Bool.false_and, Bool.and_true, Bool.and_false, Bool.true_or, Bool.false_or, Bool.or_true, Bool.or_false, b2i_tt, b2i_ff]; rfl) | (simp [meanD, msAll, c_49, gi_sl, gi_sA, gi_sB, gi_si_s, gi_si_n, gl_si, gl_sA, gl_sB, gl_sl_s, gl_sl_n, gA_si, gA_sl, gA_sB, gA_sA_s, gA_sA_n, gB_si, gB_sl, gB_sA, gB_sB_s, gB_sB_n, Nat.reduceBEq]; done))), xw_eq rfl rfl rfl rfl rfl rfl rfl⟩, ⟨by rw [ht]; exact hP, va_K.moved hW.alike hK, hD⟩⟩, hS.F ht⟩) hS.2.2 dX3_meanSpan_61
    · have c_49 : 0 < ((lp (msStep wa pi) (nN (gi pi 0)) (0, 0)).1) := i_nge c_49
      refine lv_iload_n hx hb dX3_meanSpan_52 rfl (lv_at hl 2 rfl) ?_
      refine lv_i2d hx hb dX3_meanSpan_53 ?_
      refine lv_iload_n hx hb dX3_meanSpan_54 rfl (lv_at hl 1 rfl) ?_
      refine lv_i2d hx hb dX3_meanSpan_55 ?_
      refine lv_ddiv hx hb dX3_meanSpan_56 (hnan c_49) ?_
      refine lv_goto (tgt := 61) hx hb dX3_meanSpan_57 (by decide) ?_
      exact W.dret (v := (FP.ddiv (FP.i2d ((lp (msStep wa pi) (nN (gi pi 0)) (0, 0)).2)) (FP.i2d ((lp (msStep wa pi) (nN (gi pi 0)) (0, 0)).1)))) hx hb hr (fun t ht hW => ⟨⟨(FP.ddiv (FP.i2d ((lp (msStep wa pi) (nN (gi pi 0)) (0, 0)).2)) (FP.i2d ((lp (msStep wa pi) (nN (gi pi 0)) (0, 0)).1))), (XW ad cI cJ co fl ra li re wa pi), rfl, ⟨(show ((FP.ddiv (FP.i2d ((lp (msStep wa pi) (nN (gi pi 0)) (0, 0)).2)) (FP.i2d ((lp (msStep wa pi) (nN (gi pi 0)) (0, 0)).1))) : UInt64) = (meanD wa pi) from (by first | (simp only [meanD, msAll, if_pos c_49, decide_eq_true c_49, decide_eq_false (not_not_intro c_49), gi_sl, gi_sA, gi_sB, gi_si_s, gi_si_n, gl_si, gl_sA, gl_sB, gl_sl_s, gl_sl_n, gA_si, gA_sl, gA_sB, gA_sA_s, gA_sA_n, gB_si, gB_sl, gB_sA, gB_sB_s, gB_sB_n, Nat.reduceBEq, if_true, if_false, eq_self, Bool.false_eq_true, reduceCtorEq, not_true_eq_false, not_false_eq_true, decide_true, decide_false, cond_true, cond_false, Bool.true_and, Bool.false_and, Bool.and_true, Bool.and_false, Bool.true_or, Bool.false_or, Bool.or_true, Bool.or_false, b2i_tt, b2i_ff]; done) | (simp only [meanD, msAll, if_pos c_49, decide_eq_true c_49, decide_eq_false (not_not_intro c_49), gi_sl, gi_sA, gi_sB, gi_si_s, gi_si_n, gl_si, gl_sA, gl_sB, gl_sl_s, gl_sl_n, gA_si, gA_sl, gA_sB, gA_sA_s, gA_sA_n, gB_si, gB_sl, gB_sA, gB_sB_s, gB_sB_n, Nat.reduceBEq, if_true, if_false, eq_self, Bool.false_eq_true, reduceCtorEq, not_true_eq_false, not_false_eq_true, decide_true, decide_false, cond_true, cond_false, Bool.true_and, Bool.false_and, Bool.and_true, Bool.and_false, Bool.true_or, Bool.false_or, Bool.or_true, Bool.or_false, b2i_tt, b2i_ff]; rfl) | (simp [meanD, msAll, c_49, gi_sl, gi_sA, gi_sB, gi_si_s, gi_si_n, gl_si, gl_sA, gl_sB, gl_sl_s, gl_sl_n, gA_si, gA_sl, gA_sB, gA_sA_s, gA_sA_n, gB_si, gB_sl, gB_sA, gB_sB_s, gB_sB_n, Nat.reduceBEq]; done))), xw_eq rfl rfl rfl rfl rfl rfl rfl⟩, ⟨by rw [ht]; exact hP, va_K.moved hW.alike hK, hD⟩⟩, hS.F ht⟩) hS.2.2 dX3_meanSpan_61
  · obtain ⟨h_1, hP, hD, hS, hl⟩ := hI
    have hP : va_P D vwCl (XW ad cI cJ co fl ra li re wa pi) H := hP
    have hD : va_D A (XW ad cI cJ co fl ra li re wa pi) := hD
    have hl : lv_has ls 4 [(0, .ref (ad 6)), (1, .int p_1.1), (2, .int p_1.2), (3, .int (nI i_1))] := hl
    refine lv_iload_n hx hb dX3_meanSpan_6 rfl (lv_at hl 3 rfl) ?_
    refine lv_aload_n hx hb dX3_meanSpan_7 rfl (lv_at hl 0 rfl) ?_
    refine va_get (D := D) (ci := 3) (v := .int (gi pi 0)) (C := RX3) (T := TX3) (N := 16) hx hb hg inGX3 hown hK hP 6 rfl rfl 12 (by decide) (hg _ mw_228) (fun _ h9 => h9) rfl dX3_meanSpan_8 ?_
    refine lv_icmp_ge (tgt := 48) hx hb dX3_meanSpan_11 (by decide) (fun c_11 => absurd c_11 (lp_in hi_1)) (fun _ => ?_)
    refine lv_aload_n hx hb dX3_meanSpan_14 rfl (lv_at hl 0 rfl) ?_
    refine va_get (D := D) (ci := 3) (v := .ref (ad 7)) (C := RX3) (T := TX3) (N := 16) hx hb hg inGX3 hown hK hP 6 rfl rfl 0 (by decide) (hg _ mw_227) (fun _ h9 => h9) rfl dX3_meanSpan_15 ?_
    refine lv_iload_n hx hb dX3_meanSpan_18 rfl (lv_at hl 3 rfl) ?_
    refine kI (rV (q0 := 7) (ci := 6) hx hb hml hown hg hN hK hP hD (c_draws l D cI cJ ad co fl ra li re wa pi (nI i_1)) mw_204 mw_229 mw_206 mw_207 mw_208 pdv_X6_draws ⟨Nat.le_of_ble_eq_true rfl, Nat.le_of_ble_eq_true rfl⟩ rfl rfl rfl hl.1 rfl (Nat.le_of_ble_eq_true rfl) dX3_meanSpan_19 ⟨Nat.le_of_ble_eq_true rfl, Nat.le_of_ble_eq_true rfl⟩) hD hS hA (fun r_2 u_2 H locs hp hP hD hS => ?_)
    obtain ⟨er, eu⟩ := hp
    obtain rfl := er.symm
    obtain rfl := eu.symm
    refine lv_if_eq (tgt := 42) hx hb dX3_meanSpan_22 (by decide) (fun c_22 => ?_) (fun c_22 => ?_)
    · have c_22 : ¬ (draws wa (nI i_1)) = true := b2i_0 c_22
      refine lv_iinc (v := (nI (i_1 + 1))) (lv' := [(3, .int (nI (i_1 + 1))), (0, .ref (ad 6)), (1, .int p_1.1), (2, .int p_1.2)]) hx hb dX3_meanSpan_42 hl (k := 3) rfl (nI_1 i_1) (by decide) rfl (fun ls hl => ?_)
      refine lv_goto (tgt := 6) hx hb dX3_meanSpan_45 (by decide) ?_
      exact ih_1 (p_1.1, p_1.2) H locs ls ⟨((show (p_1.1, p_1.2) = (msStep wa pi) i_1 p_1 from (by first | (simp only [msStep, if_neg c_22, bf_of c_22, gi_sl, gi_sA, gi_sB, gi_si_s, gi_si_n, gl_si, gl_sA, gl_sB, gl_sl_s, gl_sl_n, gA_si, gA_sl, gA_sB, gA_sA_s, gA_sA_n, gB_si, gB_sl, gB_sA, gB_sB_s, gB_sB_n, Nat.reduceBEq, if_true, if_false, eq_self, Bool.false_eq_true, reduceCtorEq, not_true_eq_false, not_false_eq_true, decide_true, decide_false, cond_true, cond_false, Bool.true_and, Bool.false_and, Bool.and_true, Bool.and_false, Bool.true_or, Bool.false_or, Bool.or_true, Bool.or_false, b2i_tt, b2i_ff]; done) | (simp only [msStep, if_neg c_22, bf_of c_22, gi_sl, gi_sA, gi_sB, gi_si_s, gi_si_n, gl_si, gl_sA, gl_sB, gl_sl_s, gl_sl_n, gA_si, gA_sl, gA_sB, gA_sA_s, gA_sA_n, gB_si, gB_sl, gB_sA, gB_sB_s, gB_sB_n, Nat.reduceBEq, if_true, if_false, eq_self, Bool.false_eq_true, reduceCtorEq, not_true_eq_false, not_false_eq_true, decide_true, decide_false, cond_true, cond_false, Bool.true_and, Bool.false_and, Bool.and_true, Bool.and_false, Bool.true_or, Bool.false_or, Bool.or_true, Bool.or_false, b2i_tt, b2i_ff]; rfl) | (simp [msStep, c_22, gi_sl, gi_sA, gi_sB, gi_si_s, gi_si_n, gl_si, gl_sA, gl_sB, gl_sl_s, gl_sl_n, gA_si, gA_sl, gA_sB, gA_sA_s, gA_sA_n, gB_si, gB_sl, gB_sA, gB_sB_s, gB_sB_n, Nat.reduceBEq]; done))).trans (lp_go h_1)), hP, hD, hS, lv_sub hl [1, 2, 3, 0] rfl⟩
    · have c_22 : (draws wa (nI i_1)) = true := b2i_1 c_22
      refine lv_iinc (v := (p_1.1 + 1)) (lv' := [(1, .int (p_1.1 + 1)), (0, .ref (ad 6)), (2, .int p_1.2), (3, .int (nI i_1))]) hx hb dX3_meanSpan_25 hl (k := 1) rfl rfl (by decide) rfl (fun ls hl => ?_)
      refine lv_iload_n hx hb dX3_meanSpan_28 rfl (lv_at hl 2 rfl) ?_
      refine lv_aload_n hx hb dX3_meanSpan_29 rfl (lv_at hl 1 rfl) ?_
      refine lv_iload_n hx hb dX3_meanSpan_30 rfl (lv_at hl 3 rfl) ?_
      refine kI (rV (q0 := 6) (ci := 3) hx hb hml hown hg hN hK hP hD (c_bottom l D cI cJ ad co fl ra li re wa pi (nI i_1)) mw_244 mw_245 mw_246 mw_247 mw_234 pdv_X3_bottom ⟨Nat.le_of_ble_eq_true rfl, Nat.le_of_ble_eq_true rfl⟩ rfl rfl rfl hl.1 rfl (Nat.le_of_ble_eq_true rfl) dX3_meanSpan_31 ⟨Nat.le_of_ble_eq_true rfl, Nat.le_of_ble_eq_true rfl⟩) hD hS hA (fun r_3 u_3 H locs hp hP hD hS => ?_)
      obtain ⟨er, eu⟩ := hp
      obtain rfl := er.symm
      obtain rfl := eu.symm
      refine lv_aload_n hx hb dX3_meanSpan_34 rfl (lv_at hl 1 rfl) ?_
      refine lv_iload_n hx hb dX3_meanSpan_35 rfl (lv_at hl 3 rfl) ?_
      refine kI (rV (q0 := 6) (ci := 3) hx hb hml hown hg hN hK hP hD (c_top l D cI cJ ad co fl ra li re wa pi (nI i_1)) mw_230 mw_231 mw_232 mw_233 mw_234 pdv_X3_top ⟨Nat.le_of_ble_eq_true rfl, Nat.le_of_ble_eq_true rfl⟩ rfl rfl rfl hl.1 rfl (Nat.le_of_ble_eq_true rfl) dX3_meanSpan_36 ⟨Nat.le_of_ble_eq_true rfl, Nat.le_of_ble_eq_true rfl⟩) hD hS hA (fun r_4 u_4 H locs hp hP hD hS => ?_)
      obtain ⟨er, eu⟩ := hp
      obtain rfl := er.symm
      obtain rfl := eu.symm
      refine lv_isub hx hb dX3_meanSpan_39 ?_
      refine lv_iadd hx hb dX3_meanSpan_40 ?_
      refine lv_istore_n (lv' := [(2, .int (p_1.2 + ((botE wa pi (nI i_1)) - (topE wa pi (nI i_1))))), (1, .int (p_1.1 + 1)), (0, .ref (ad 6)), (3, .int (nI i_1))]) hx hb dX3_meanSpan_41 rfl hl (by decide) rfl (fun ls hl => ?_)
      refine lv_iinc (v := (nI (i_1 + 1))) (lv' := [(3, .int (nI (i_1 + 1))), (2, .int (p_1.2 + ((botE wa pi (nI i_1)) - (topE wa pi (nI i_1))))), (1, .int (p_1.1 + 1)), (0, .ref (ad 6))]) hx hb dX3_meanSpan_42 hl (k := 3) rfl (nI_1 i_1) (by decide) rfl (fun ls hl => ?_)
      refine lv_goto (tgt := 6) hx hb dX3_meanSpan_45 (by decide) ?_
      exact ih_1 ((p_1.1 + 1), (p_1.2 + ((botE wa pi (nI i_1)) - (topE wa pi (nI i_1))))) H locs ls ⟨((show ((p_1.1 + 1), (p_1.2 + ((botE wa pi (nI i_1)) - (topE wa pi (nI i_1))))) = (msStep wa pi) i_1 p_1 from (by first | (simp only [msStep, if_pos c_22, c_22, gi_sl, gi_sA, gi_sB, gi_si_s, gi_si_n, gl_si, gl_sA, gl_sB, gl_sl_s, gl_sl_n, gA_si, gA_sl, gA_sB, gA_sA_s, gA_sA_n, gB_si, gB_sl, gB_sA, gB_sB_s, gB_sB_n, Nat.reduceBEq, if_true, if_false, eq_self, Bool.false_eq_true, reduceCtorEq, not_true_eq_false, not_false_eq_true, decide_true, decide_false, cond_true, cond_false, Bool.true_and, Bool.false_and, Bool.and_true, Bool.and_false, Bool.true_or, Bool.false_or, Bool.or_true, Bool.or_false, b2i_tt, b2i_ff]; done) | (simp only [msStep, if_pos c_22, c_22, gi_sl, gi_sA, gi_sB, gi_si_s, gi_si_n, gl_si, gl_sA, gl_sB, gl_sl_s, gl_sl_n, gA_si, gA_sl, gA_sB, gA_sA_s, gA_sA_n, gB_si, gB_sl, gB_sA, gB_sB_s, gB_sB_n, Nat.reduceBEq, if_true, if_false, eq_self, Bool.false_eq_true, reduceCtorEq, not_true_eq_false, not_false_eq_true, decide_true, decide_false, cond_true, cond_false, Bool.true_and, Bool.false_and, Bool.and_true, Bool.and_false, Bool.true_or, Bool.false_or, Bool.or_true, Bool.or_false, b2i_tt, b2i_ff]; rfl) | (simp [msStep, c_22, gi_sl, gi_sA, gi_sB, gi_si_s, gi_si_n, gl_si, gl_sA, gl_sB, gl_sl_s, gl_sl_n, gA_si, gA_sl, gA_sB, gA_sA_s, gA_sA_n, gB_si, gB_sl, gB_sA, gB_sB_s, gB_sB_n, Nat.reduceBEq]; done))).trans (lp_go h_1)), hP, hD, hS, lv_sub hl [3, 2, 1, 0] rfl⟩
set_option maxHeartbeats 4000000 in
set_option maxRecDepth 100000 in
theorem c_crossN (l : Launch) (D : va_G) (cI cJ : ClassId) (ad : Nat → Nat) (co fl ra li re wa pi : Ob) (k1 : Int32) : CT l D (TY cI cJ) yX3_crossingsUnder (.code yX3_crossingsUnder cX3_crossingsUnder 6 (some Jvm.ClassFile.FieldType.int)) 3 0 0 (XW ad cI cJ co fl ra li re wa pi) [.ref (ad 6), .int k1] (QI D (TY cI cJ) (fun r u => r = (crossN wa pi k1) ∧ u = (XW ad cI cJ co fl ra li re wa (cuP wa pi k1).1))) := by
  refine ent (by decide) (Nat.le_of_ble_eq_true rfl) ?_
  intro p e s m below meth c ls A hx hb hr hg hown hml hlocks hnm hP hK hD hS hA hN hl
  have hl : lv_has ls 6 [(0, .ref (ad 6)), (1, .int k1)] := hl
  refine lv_iconst (v := 0) hx hb dX3_crossingsUnder_0 (by decide) ?_
  refine lv_istore_n (lv' := [(2, .int 0), (0, .ref (ad 6)), (1, .int k1)]) hx hb dX3_crossingsUnder_1 rfl hl (by decide) rfl (fun ls hl => ?_)
  refine lv_iconst (v := 0) hx hb dX3_crossingsUnder_2 (by decide) ?_
  refine lv_istore_n (lv' := [(3, .int 0), (2, .int 0), (0, .ref (ad 6)), (1, .int k1)]) hx hb dX3_crossingsUnder_3 rfl hl (by decide) rfl (fun ls hl => ?_)
  refine w_loop (σ := Ob × Int32) (fun (i_1 : Nat) (p_1 : Ob × Int32) (H : Heap) (locs : List Loc) (ls : Array Slot) => p_1 = (lp (cuA wa k1) i_1 (pi, 0)) ∧ va_P D vwCl (XW ad cI cJ co fl ra li re wa p_1.1) H ∧ va_D A (XW ad cI cJ co fl ra li re wa p_1.1) ∧ va_S A s.heap H locs ∧ lv_has ls 6 [(0, .ref (ad 6)), (1, .int k1), (2, .int p_1.2), (3, .int (nI i_1))]) (nN (gi pi 0)) (fun p_1 H locs ls hI => ?_) (fun i_1 p_1 H locs ls hi_1 hI ih_1 => ?_) 0 (pi, 0) (Nat.zero_le _) ⟨rfl, hP, hD, hS, (by rw [nI_0]; exact lv_sub hl [2, 3, 1, 0] rfl)⟩
  · obtain ⟨h_1, hP, hD, hS, hl⟩ := hI
    have h_1 := h_1.symm
    subst h_1
    have hP : va_P D vwCl (XW ad cI cJ co fl ra li re wa ((lp (cuA wa k1) (nN (gi pi 0)) (pi, 0)).1)) H := hP
    have hD : va_D A (XW ad cI cJ co fl ra li re wa ((lp (cuA wa k1) (nN (gi pi 0)) (pi, 0)).1)) := hD
    have hl : lv_has ls 6 [(0, .ref (ad 6)), (1, .int k1), (2, .int ((lp (cuA wa k1) (nN (gi pi 0)) (pi, 0)).2)), (3, .int (nI ((nN (gi pi 0)))))] := hl
    refine lv_iload_n hx hb dX3_crossingsUnder_4 rfl (lv_at hl 3 rfl) ?_
    refine lv_aload_n hx hb dX3_crossingsUnder_5 rfl (lv_at hl 0 rfl) ?_
    refine va_get (D := D) (ci := 3) (v := .int (gi ((lp (cuA wa k1) (nN (gi pi 0)) (pi, 0)).1) 0)) (C := RX3) (T := TX3) (N := 16) hx hb hg inGX3 hown hK hP 6 rfl rfl 12 (by decide) (hg _ mw_228) (fun _ h9 => h9) rfl dX3_crossingsUnder_6 ?_
    refine lv_icmp_ge (tgt := 74) hx hb dX3_crossingsUnder_9 (by decide) (fun _ => ?_) (fun c_9 => absurd (by rw [k_cuAL]; exact lp_out _) c_9)
    refine lv_iconst (v := 0) hx hb dX3_crossingsUnder_74 (by decide) ?_
    refine lv_istore_n (lv' := [(3, .int 0), (0, .ref (ad 6)), (1, .int k1), (2, .int ((lp (cuA wa k1) (nN (gi pi 0)) (pi, 0)).2))]) hx hb dX3_crossingsUnder_75 rfl hl (by decide) rfl (fun ls hl => ?_)
    refine lv_iconst (v := 0) hx hb dX3_crossingsUnder_76 (by decide) ?_
    refine lv_istore (lv' := [(4, .int 0), (3, .int 0), (0, .ref (ad 6)), (1, .int k1), (2, .int ((lp (cuA wa k1) (nN (gi pi 0)) (pi, 0)).2))]) hx hb dX3_crossingsUnder_77 hl (by decide) rfl (fun ls hl => ?_)
    refine w_loop (σ := Int32) (fun (i_2 : Nat) (p_2 : Int32) (H : Heap) (locs : List Loc) (ls : Array Slot) => p_2 = (lp (cuC ((lp (cuA wa k1) (nN (gi pi 0)) (pi, 0)).1)) i_2 0) ∧ va_P D vwCl (XW ad cI cJ co fl ra li re wa ((lp (cuA wa k1) (nN (gi pi 0)) (pi, 0)).1)) H ∧ va_D A (XW ad cI cJ co fl ra li re wa ((lp (cuA wa k1) (nN (gi pi 0)) (pi, 0)).1)) ∧ va_S A s.heap H locs ∧ lv_has ls 6 [(0, .ref (ad 6)), (1, .int k1), (2, .int ((lp (cuA wa k1) (nN (gi pi 0)) (pi, 0)).2)), (3, .int p_2), (4, .int (nI i_2))]) (nN ((lp (cuA wa k1) (nN (gi pi 0)) (pi, 0)).2)) (fun p_2 H locs ls hI => ?_) (fun i_2 p_2 H locs ls hi_2 hI ih_2 => ?_) 0 0 (Nat.zero_le _) ⟨rfl, hP, hD, hS, (by rw [nI_0]; exact lv_sub hl [2, 3, 4, 1, 0] rfl)⟩
    · obtain ⟨h_2, hP, hD, hS, hl⟩ := hI
      have h_2 := h_2.symm
      subst h_2
      have hP : va_P D vwCl (XW ad cI cJ co fl ra li re wa ((lp (cuA wa k1) (nN (gi pi 0)) (pi, 0)).1)) H := hP
      have hD : va_D A (XW ad cI cJ co fl ra li re wa ((lp (cuA wa k1) (nN (gi pi 0)) (pi, 0)).1)) := hD
      have hl : lv_has ls 6 [(0, .ref (ad 6)), (1, .int k1), (2, .int ((lp (cuA wa k1) (nN (gi pi 0)) (pi, 0)).2)), (3, .int ((lp (cuC ((lp (cuA wa k1) (nN (gi pi 0)) (pi, 0)).1)) (nN ((lp (cuA wa k1) (nN (gi pi 0)) (pi, 0)).2)) 0))), (4, .int (nI ((nN ((lp (cuA wa k1) (nN (gi pi 0)) (pi, 0)).2)))))] := hl
      refine lv_iload hx hb dX3_crossingsUnder_79 (lv_at hl 4 rfl) ?_
      refine lv_iload_n hx hb dX3_crossingsUnder_81 rfl (lv_at hl 2 rfl) ?_
      refine lv_icmp_ge (tgt := 152) hx hb dX3_crossingsUnder_82 (by decide) (fun _ => ?_) (fun c_82 => absurd (lp_out _) c_82)
      refine lv_iload_n hx hb dX3_crossingsUnder_152 rfl (lv_at hl 3 rfl) ?_
      exact W.iret (v := ((lp (cuC ((lp (cuA wa k1) (nN (gi pi 0)) (pi, 0)).1)) (nN ((lp (cuA wa k1) (nN (gi pi 0)) (pi, 0)).2)) 0))) hx hb hr (fun t ht hW => ⟨⟨((lp (cuC ((lp (cuA wa k1) (nN (gi pi 0)) (pi, 0)).1)) (nN ((lp (cuA wa k1) (nN (gi pi 0)) (pi, 0)).2)) 0)), (XW ad cI cJ co fl ra li re wa ((lp (cuA wa k1) (nN (gi pi 0)) (pi, 0)).1)), rfl, ⟨(show (((lp (cuC ((lp (cuA wa k1) (nN (gi pi 0)) (pi, 0)).1)) (nN ((lp (cuA wa k1) (nN (gi pi 0)) (pi, 0)).2)) 0)) : Int32) = (crossN wa pi k1) from (by first | with_reducible rfl | (simp only [crossN, cuP, gi_sl, gi_sA, gi_sB, gi_si_s, gi_si_n, gl_si, gl_sA, gl_sB, gl_sl_s, gl_sl_n, gA_si, gA_sl, gA_sB, gA_sA_s, gA_sA_n, gB_si, gB_sl, gB_sA, gB_sB_s, gB_sB_n, Nat.reduceBEq, if_true, if_false, eq_self, Bool.false_eq_true, reduceCtorEq, not_true_eq_false, not_false_eq_true, decide_true, decide_false, cond_true, cond_false, Bool.true_and, Bool.false_and, Bool.and_true, Bool.and_false, Bool.true_or, Bool.false_or, Bool.or_true, Bool.or_false, b2i_tt, b2i_ff]; done) | rfl)), xw_eq rfl rfl rfl rfl rfl rfl (show ((lp (cuA wa k1) (nN (gi pi 0)) (pi, 0)).1) = (cuP wa pi k1).1 from (by first | with_reducible rfl | (simp only [crossN, cuP, gi_sl, gi_sA, gi_sB, gi_si_s, gi_si_n, gl_si, gl_sA, gl_sB, gl_sl_s, gl_sl_n, gA_si, gA_sl, gA_sB, gA_sA_s, gA_sA_n, gB_si, gB_sl, gB_sA, gB_sB_s, gB_sB_n, Nat.reduceBEq, if_true, if_false, eq_self, Bool.false_eq_true, reduceCtorEq, not_true_eq_false, not_false_eq_true, decide_true, decide_false, cond_true, cond_false, Bool.true_and, Bool.false_and, Bool.and_true, Bool.and_false, Bool.true_or, Bool.false_or, Bool.or_true, Bool.or_false, b2i_tt, b2i_ff]; done) | rfl))⟩, ⟨by rw [ht]; exact hP, va_K.moved hW.alike hK, hD⟩⟩, hS.F ht⟩) hS.2.2 dX3_crossingsUnder_153
    · obtain ⟨h_2, hP, hD, hS, hl⟩ := hI
      have hP : va_P D vwCl (XW ad cI cJ co fl ra li re wa ((lp (cuA wa k1) (nN (gi pi 0)) (pi, 0)).1)) H := hP
      have hD : va_D A (XW ad cI cJ co fl ra li re wa ((lp (cuA wa k1) (nN (gi pi 0)) (pi, 0)).1)) := hD
      have hl : lv_has ls 6 [(0, .ref (ad 6)), (1, .int k1), (2, .int ((lp (cuA wa k1) (nN (gi pi 0)) (pi, 0)).2)), (3, .int p_2), (4, .int (nI i_2))] := hl
      refine lv_iload hx hb dX3_crossingsUnder_79 (lv_at hl 4 rfl) ?_
      refine lv_iload_n hx hb dX3_crossingsUnder_81 rfl (lv_at hl 2 rfl) ?_
      refine lv_icmp_ge (tgt := 152) hx hb dX3_crossingsUnder_82 (by decide) (fun c_82 => absurd c_82 (lp_in hi_2)) (fun _ => ?_)
      refine lv_iconst (v := 0) hx hb dX3_crossingsUnder_85 (by decide) ?_
      refine lv_istore (lv' := [(5, .int 0), (0, .ref (ad 6)), (1, .int k1), (2, .int ((lp (cuA wa k1) (nN (gi pi 0)) (pi, 0)).2)), (3, .int p_2), (4, .int (nI i_2))]) hx hb dX3_crossingsUnder_86 hl (by decide) rfl (fun ls hl => ?_)
      refine w_loop (σ := Int32) (fun (i_3 : Nat) (p_3 : Int32) (H : Heap) (locs : List Loc) (ls : Array Slot) => p_3 = (lp (cuB ((lp (cuA wa k1) (nN (gi pi 0)) (pi, 0)).1) i_2) i_3 p_2) ∧ va_P D vwCl (XW ad cI cJ co fl ra li re wa ((lp (cuA wa k1) (nN (gi pi 0)) (pi, 0)).1)) H ∧ va_D A (XW ad cI cJ co fl ra li re wa ((lp (cuA wa k1) (nN (gi pi 0)) (pi, 0)).1)) ∧ va_S A s.heap H locs ∧ lv_has ls 6 [(0, .ref (ad 6)), (1, .int k1), (2, .int ((lp (cuA wa k1) (nN (gi pi 0)) (pi, 0)).2)), (3, .int p_3), (4, .int (nI i_2)), (5, .int (nI i_3))]) (i_2) (fun p_3 H locs ls hI => ?_) (fun i_3 p_3 H locs ls hi_3 hI ih_3 => ?_) 0 p_2 (Nat.zero_le _) ⟨rfl, hP, hD, hS, (by rw [nI_0]; exact lv_sub hl [1, 2, 3, 4, 5, 0] rfl)⟩
      · obtain ⟨h_3, hP, hD, hS, hl⟩ := hI
        have h_3 := h_3.symm
        subst h_3
        have hP : va_P D vwCl (XW ad cI cJ co fl ra li re wa ((lp (cuA wa k1) (nN (gi pi 0)) (pi, 0)).1)) H := hP
        have hD : va_D A (XW ad cI cJ co fl ra li re wa ((lp (cuA wa k1) (nN (gi pi 0)) (pi, 0)).1)) := hD
        have hl : lv_has ls 6 [(0, .ref (ad 6)), (1, .int k1), (2, .int ((lp (cuA wa k1) (nN (gi pi 0)) (pi, 0)).2)), (3, .int ((lp (cuB ((lp (cuA wa k1) (nN (gi pi 0)) (pi, 0)).1) i_2) (i_2) p_2))), (4, .int (nI i_2)), (5, .int (nI i_2))] := hl
        refine lv_iload hx hb dX3_crossingsUnder_88 (lv_at hl 5 rfl) ?_
        refine lv_iload hx hb dX3_crossingsUnder_90 (lv_at hl 4 rfl) ?_
        refine lv_icmp_ge (tgt := 146) hx hb dX3_crossingsUnder_92 (by decide) (fun _ => ?_) (fun c_92 => absurd (Int32.le_refl _) c_92)
        refine lv_iinc (v := (nI (i_2 + 1))) (lv' := [(4, .int (nI (i_2 + 1))), (0, .ref (ad 6)), (1, .int k1), (2, .int ((lp (cuA wa k1) (nN (gi pi 0)) (pi, 0)).2)), (3, .int ((lp (cuB ((lp (cuA wa k1) (nN (gi pi 0)) (pi, 0)).1) i_2) (i_2) p_2))), (5, .int (nI i_2))]) hx hb dX3_crossingsUnder_146 hl (k := 4) rfl (nI_1 i_2) (by decide) rfl (fun ls hl => ?_)
        refine lv_goto (tgt := 79) hx hb dX3_crossingsUnder_149 (by decide) ?_
        exact ih_2 ((lp (cuB ((lp (cuA wa k1) (nN (gi pi 0)) (pi, 0)).1) i_2) (i_2) p_2)) H locs ls ⟨((show ((lp (cuB ((lp (cuA wa k1) (nN (gi pi 0)) (pi, 0)).1) i_2) (i_2) p_2)) = (cuC ((lp (cuA wa k1) (nN (gi pi 0)) (pi, 0)).1)) i_2 p_2 from (by first | with_reducible rfl | (simp only [cuC, gi_sl, gi_sA, gi_sB, gi_si_s, gi_si_n, gl_si, gl_sA, gl_sB, gl_sl_s, gl_sl_n, gA_si, gA_sl, gA_sB, gA_sA_s, gA_sA_n, gB_si, gB_sl, gB_sA, gB_sB_s, gB_sB_n, Nat.reduceBEq, if_true, if_false, eq_self, Bool.false_eq_true, reduceCtorEq, not_true_eq_false, not_false_eq_true, decide_true, decide_false, cond_true, cond_false, Bool.true_and, Bool.false_and, Bool.and_true, Bool.and_false, Bool.true_or, Bool.false_or, Bool.or_true, Bool.or_false, b2i_tt, b2i_ff]; done) | rfl)).trans (lp_go h_2)), hP, hD, hS, lv_sub hl [1, 2, 3, 4, 0] rfl⟩
      · obtain ⟨h_3, hP, hD, hS, hl⟩ := hI
        have hP : va_P D vwCl (XW ad cI cJ co fl ra li re wa ((lp (cuA wa k1) (nN (gi pi 0)) (pi, 0)).1)) H := hP
        have hD : va_D A (XW ad cI cJ co fl ra li re wa ((lp (cuA wa k1) (nN (gi pi 0)) (pi, 0)).1)) := hD
        have hl : lv_has ls 6 [(0, .ref (ad 6)), (1, .int k1), (2, .int ((lp (cuA wa k1) (nN (gi pi 0)) (pi, 0)).2)), (3, .int p_3), (4, .int (nI i_2)), (5, .int (nI i_3))] := hl
        refine lv_iload hx hb dX3_crossingsUnder_88 (lv_at hl 5 rfl) ?_
        refine lv_iload hx hb dX3_crossingsUnder_90 (lv_at hl 4 rfl) ?_
        refine lv_icmp_ge (tgt := 146) hx hb dX3_crossingsUnder_92 (by decide) (fun c_92 => absurd c_92 (nI_ge hi_3 (Nat.lt_trans hi_2 (nN_lt _)))) (fun _ => ?_)
        refine lv_aload_n hx hb dX3_crossingsUnder_95 rfl (lv_at hl 0 rfl) ?_
        refine va_get (D := D) (ci := 3) (v := .ref (ad 43)) (C := RX3) (T := TX3) (N := 16) hx hb hg inGX3 hown hK hP 6 rfl rfl 10 (by decide) (hg _ mw_282) (fun _ h9 => h9) rfl dX3_crossingsUnder_96 ?_
        refine lv_iload hx hb dX3_crossingsUnder_99 (lv_at hl 4 rfl) ?_
        refine kI (rSN hx hb hml hown hg hN hK hP hD (c_at l D cI cJ (XW ad cI cJ co fl ra li re wa ((lp (cuA wa k1) (nN (gi pi 0)) (pi, 0)).1)) 43 (ad 43) 80 (gA ((lp (cuA wa k1) (nN (gi pi 0)) (pi, 0)).1) 9) (nI i_2) rfl (by decide)) mw_84 nw_96 mw_85 mw_77 pd_X7_at ⟨Nat.le_of_ble_eq_true rfl, Nat.le_of_ble_eq_true rfl⟩ rfl hl.1 rfl (Nat.le_of_ble_eq_true rfl) dX3_crossingsUnder_101 ⟨Nat.le_of_ble_eq_true rfl, Nat.le_of_ble_eq_true rfl⟩) hD hS hA (fun r_4 u_4 H locs hp hP hD hS => ?_)
        obtain ⟨er, eu⟩ := hp
        obtain rfl := er.symm
        obtain rfl := eu.symm
        refine lv_aload_n hx hb dX3_crossingsUnder_104 rfl (lv_at hl 0 rfl) ?_
        refine va_get (D := D) (ci := 3) (v := .ref (ad 43)) (C := RX3) (T := TX3) (N := 16) hx hb hg inGX3 hown hK hP 6 rfl rfl 10 (by decide) (hg _ mw_282) (fun _ h9 => h9) rfl dX3_crossingsUnder_105 ?_
        refine lv_iload hx hb dX3_crossingsUnder_108 (lv_at hl 5 rfl) ?_
        refine kI (rSN hx hb hml hown hg hN hK hP hD (c_at l D cI cJ (XW ad cI cJ co fl ra li re wa ((lp (cuA wa k1) (nN (gi pi 0)) (pi, 0)).1)) 43 (ad 43) 80 (gA ((lp (cuA wa k1) (nN (gi pi 0)) (pi, 0)).1) 9) (nI i_3) rfl (by decide)) mw_84 nw_96 mw_85 mw_77 pd_X7_at ⟨Nat.le_of_ble_eq_true rfl, Nat.le_of_ble_eq_true rfl⟩ rfl hl.1 rfl (Nat.le_of_ble_eq_true rfl) dX3_crossingsUnder_110 ⟨Nat.le_of_ble_eq_true rfl, Nat.le_of_ble_eq_true rfl⟩) hD hS hA (fun r_5 u_5 H locs hp hP hD hS => ?_)
        obtain ⟨er, eu⟩ := hp
        obtain rfl := er.symm
        obtain rfl := eu.symm
        refine lv_isub hx hb dX3_crossingsUnder_113 ?_
        refine lv_aload_n hx hb dX3_crossingsUnder_114 rfl (lv_at hl 0 rfl) ?_
        refine va_get (D := D) (ci := 3) (v := .ref (ad 44)) (C := RX3) (T := TX3) (N := 16) hx hb hg inGX3 hown hK hP 6 rfl rfl 11 (by decide) (hg _ mw_283) (fun _ h9 => h9) rfl dX3_crossingsUnder_115 ?_
        refine lv_iload hx hb dX3_crossingsUnder_118 (lv_at hl 4 rfl) ?_
        refine kI (rSN hx hb hml hown hg hN hK hP hD (c_at l D cI cJ (XW ad cI cJ co fl ra li re wa ((lp (cuA wa k1) (nN (gi pi 0)) (pi, 0)).1)) 44 (ad 44) 80 (gA ((lp (cuA wa k1) (nN (gi pi 0)) (pi, 0)).1) 10) (nI i_2) rfl (by decide)) mw_84 nw_96 mw_85 mw_77 pd_X7_at ⟨Nat.le_of_ble_eq_true rfl, Nat.le_of_ble_eq_true rfl⟩ rfl hl.1 rfl (Nat.le_of_ble_eq_true rfl) dX3_crossingsUnder_120 ⟨Nat.le_of_ble_eq_true rfl, Nat.le_of_ble_eq_true rfl⟩) hD hS hA (fun r_6 u_6 H locs hp hP hD hS => ?_)
        obtain ⟨er, eu⟩ := hp
        obtain rfl := er.symm
        obtain rfl := eu.symm
        refine lv_aload_n hx hb dX3_crossingsUnder_123 rfl (lv_at hl 0 rfl) ?_
        refine va_get (D := D) (ci := 3) (v := .ref (ad 44)) (C := RX3) (T := TX3) (N := 16) hx hb hg inGX3 hown hK hP 6 rfl rfl 11 (by decide) (hg _ mw_283) (fun _ h9 => h9) rfl dX3_crossingsUnder_124 ?_
        refine lv_iload hx hb dX3_crossingsUnder_127 (lv_at hl 5 rfl) ?_
        refine kI (rSN hx hb hml hown hg hN hK hP hD (c_at l D cI cJ (XW ad cI cJ co fl ra li re wa ((lp (cuA wa k1) (nN (gi pi 0)) (pi, 0)).1)) 44 (ad 44) 80 (gA ((lp (cuA wa k1) (nN (gi pi 0)) (pi, 0)).1) 10) (nI i_3) rfl (by decide)) mw_84 nw_96 mw_85 mw_77 pd_X7_at ⟨Nat.le_of_ble_eq_true rfl, Nat.le_of_ble_eq_true rfl⟩ rfl hl.1 rfl (Nat.le_of_ble_eq_true rfl) dX3_crossingsUnder_129 ⟨Nat.le_of_ble_eq_true rfl, Nat.le_of_ble_eq_true rfl⟩) hD hS hA (fun r_7 u_7 H locs hp hP hD hS => ?_)
        obtain ⟨er, eu⟩ := hp
        obtain rfl := er.symm
        obtain rfl := eu.symm
        refine lv_isub hx hb dX3_crossingsUnder_132 ?_
        refine lv_imul hx hb dX3_crossingsUnder_133 ?_
        refine lv_if_ge (tgt := 140) hx hb dX3_crossingsUnder_134 (by decide) (fun c_134 => ?_) (fun c_134 => ?_)
        · have c_134 : ¬ (((rd (gA ((lp (cuA wa k1) (nN (gi pi 0)) (pi, 0)).1) 9) 80 (nI i_2)) - (rd (gA ((lp (cuA wa k1) (nN (gi pi 0)) (pi, 0)).1) 9) 80 (nI i_3))) * ((rd (gA ((lp (cuA wa k1) (nN (gi pi 0)) (pi, 0)).1) 10) 80 (nI i_2)) - (rd (gA ((lp (cuA wa k1) (nN (gi pi 0)) (pi, 0)).1) 10) 80 (nI i_3)))) < 0 := i_ge c_134
          refine lv_iinc (v := (nI (i_3 + 1))) (lv' := [(5, .int (nI (i_3 + 1))), (0, .ref (ad 6)), (1, .int k1), (2, .int ((lp (cuA wa k1) (nN (gi pi 0)) (pi, 0)).2)), (3, .int p_3), (4, .int (nI i_2))]) hx hb dX3_crossingsUnder_140 hl (k := 5) rfl (nI_1 i_3) (by decide) rfl (fun ls hl => ?_)
          refine lv_goto (tgt := 88) hx hb dX3_crossingsUnder_143 (by decide) ?_
          exact ih_3 p_3 H locs ls ⟨((show p_3 = (cuB ((lp (cuA wa k1) (nN (gi pi 0)) (pi, 0)).1) i_2) i_3 p_3 from (by first | (simp only [cuB, if_neg c_134, decide_eq_false c_134, decide_eq_true c_134, if_pos c_134, gi_sl, gi_sA, gi_sB, gi_si_s, gi_si_n, gl_si, gl_sA, gl_sB, gl_sl_s, gl_sl_n, gA_si, gA_sl, gA_sB, gA_sA_s, gA_sA_n, gB_si, gB_sl, gB_sA, gB_sB_s, gB_sB_n, Nat.reduceBEq, if_true, if_false, eq_self, Bool.false_eq_true, reduceCtorEq, not_true_eq_false, not_false_eq_true, decide_true, decide_false, cond_true, cond_false, Bool.true_and, Bool.false_and, Bool.and_true, Bool.and_false, Bool.true_or, Bool.false_or, Bool.or_true, Bool.or_false, b2i_tt, b2i_ff]; done) | (simp only [cuB, if_neg c_134, decide_eq_false c_134, decide_eq_true c_134, if_pos c_134, gi_sl, gi_sA, gi_sB, gi_si_s, gi_si_n, gl_si, gl_sA, gl_sB, gl_sl_s, gl_sl_n, gA_si, gA_sl, gA_sB, gA_sA_s, gA_sA_n, gB_si, gB_sl, gB_sA, gB_sB_s, gB_sB_n, Nat.reduceBEq, if_true, if_false, eq_self, Bool.false_eq_true, reduceCtorEq, not_true_eq_false, not_false_eq_true, decide_true, decide_false, cond_true, cond_false, Bool.true_and, Bool.false_and, Bool.and_true, Bool.and_false, Bool.true_or, Bool.false_or, Bool.or_true, Bool.or_false, b2i_tt, b2i_ff]; rfl) | (simp [cuB, c_134, gi_sl, gi_sA, gi_sB, gi_si_s, gi_si_n, gl_si, gl_sA, gl_sB, gl_sl_s, gl_sl_n, gA_si, gA_sl, gA_sB, gA_sA_s, gA_sA_n, gB_si, gB_sl, gB_sA, gB_sB_s, gB_sB_n, Nat.reduceBEq]; done))).trans (lp_go h_3)), hP, hD, hS, lv_sub hl [1, 2, 3, 4, 5, 0] rfl⟩
        · have c_134 : (((rd (gA ((lp (cuA wa k1) (nN (gi pi 0)) (pi, 0)).1) 9) 80 (nI i_2)) - (rd (gA ((lp (cuA wa k1) (nN (gi pi 0)) (pi, 0)).1) 9) 80 (nI i_3))) * ((rd (gA ((lp (cuA wa k1) (nN (gi pi 0)) (pi, 0)).1) 10) 80 (nI i_2)) - (rd (gA ((lp (cuA wa k1) (nN (gi pi 0)) (pi, 0)).1) 10) 80 (nI i_3)))) < 0 := i_nge c_134
          refine lv_iinc (v := (p_3 + 1)) (lv' := [(3, .int (p_3 + 1)), (0, .ref (ad 6)), (1, .int k1), (2, .int ((lp (cuA wa k1) (nN (gi pi 0)) (pi, 0)).2)), (4, .int (nI i_2)), (5, .int (nI i_3))]) hx hb dX3_crossingsUnder_137 hl (k := 3) rfl rfl (by decide) rfl (fun ls hl => ?_)
          refine lv_iinc (v := (nI (i_3 + 1))) (lv' := [(5, .int (nI (i_3 + 1))), (3, .int (p_3 + 1)), (0, .ref (ad 6)), (1, .int k1), (2, .int ((lp (cuA wa k1) (nN (gi pi 0)) (pi, 0)).2)), (4, .int (nI i_2))]) hx hb dX3_crossingsUnder_140 hl (k := 5) rfl (nI_1 i_3) (by decide) rfl (fun ls hl => ?_)
          refine lv_goto (tgt := 88) hx hb dX3_crossingsUnder_143 (by decide) ?_
          exact ih_3 (p_3 + 1) H locs ls ⟨((show (p_3 + 1) = (cuB ((lp (cuA wa k1) (nN (gi pi 0)) (pi, 0)).1) i_2) i_3 p_3 from (by first | (simp only [cuB, if_pos c_134, decide_eq_true c_134, decide_eq_false (not_not_intro c_134), gi_sl, gi_sA, gi_sB, gi_si_s, gi_si_n, gl_si, gl_sA, gl_sB, gl_sl_s, gl_sl_n, gA_si, gA_sl, gA_sB, gA_sA_s, gA_sA_n, gB_si, gB_sl, gB_sA, gB_sB_s, gB_sB_n, Nat.reduceBEq, if_true, if_false, eq_self, Bool.false_eq_true, reduceCtorEq, not_true_eq_false, not_false_eq_true, decide_true, decide_false, cond_true, cond_false, Bool.true_and, Bool.false_and, Bool.and_true, Bool.and_false, Bool.true_or, Bool.false_or, Bool.or_true, Bool.or_false, b2i_tt, b2i_ff]; done) | (simp only [cuB, if_pos c_134, decide_eq_true c_134, decide_eq_false (not_not_intro c_134), gi_sl, gi_sA, gi_sB, gi_si_s, gi_si_n, gl_si, gl_sA, gl_sB, gl_sl_s, gl_sl_n, gA_si, gA_sl, gA_sB, gA_sA_s, gA_sA_n, gB_si, gB_sl, gB_sA, gB_sB_s, gB_sB_n, Nat.reduceBEq, if_true, if_false, eq_self, Bool.false_eq_true, reduceCtorEq, not_true_eq_false, not_false_eq_true, decide_true, decide_false, cond_true, cond_false, Bool.true_and, Bool.false_and, Bool.and_true, Bool.and_false, Bool.true_or, Bool.false_or, Bool.or_true, Bool.or_false, b2i_tt, b2i_ff]; rfl) | (simp [cuB, c_134, gi_sl, gi_sA, gi_sB, gi_si_s, gi_si_n, gl_si, gl_sA, gl_sB, gl_sl_s, gl_sl_n, gA_si, gA_sl, gA_sB, gA_sA_s, gA_sA_n, gB_si, gB_sl, gB_sA, gB_sB_s, gB_sB_n, Nat.reduceBEq]; done))).trans (lp_go h_3)), hP, hD, hS, lv_sub hl [2, 3, 4, 1, 5, 0] rfl⟩
  · obtain ⟨h_1, hP, hD, hS, hl⟩ := hI
    have hP : va_P D vwCl (XW ad cI cJ co fl ra li re wa p_1.1) H := hP
    have hD : va_D A (XW ad cI cJ co fl ra li re wa p_1.1) := hD
    have hl : lv_has ls 6 [(0, .ref (ad 6)), (1, .int k1), (2, .int p_1.2), (3, .int (nI i_1))] := hl
    refine lv_iload_n hx hb dX3_crossingsUnder_4 rfl (lv_at hl 3 rfl) ?_
    refine lv_aload_n hx hb dX3_crossingsUnder_5 rfl (lv_at hl 0 rfl) ?_
    refine va_get (D := D) (ci := 3) (v := .int (gi p_1.1 0)) (C := RX3) (T := TX3) (N := 16) hx hb hg inGX3 hown hK hP 6 rfl rfl 12 (by decide) (hg _ mw_228) (fun _ h9 => h9) rfl dX3_crossingsUnder_6 ?_
    refine lv_icmp_ge (tgt := 74) hx hb dX3_crossingsUnder_9 (by decide) (fun c_9 => absurd c_9 (by rw [h_1, k_cuAL]; exact lp_in hi_1)) (fun _ => ?_)
    refine lv_aload_n hx hb dX3_crossingsUnder_12 rfl (lv_at hl 0 rfl) ?_
    refine lv_iload_n hx hb dX3_crossingsUnder_13 rfl (lv_at hl 3 rfl) ?_
    refine lv_iload_n hx hb dX3_crossingsUnder_14 rfl (lv_at hl 1 rfl) ?_
    refine kI (rV (q0 := 6) (ci := 3) hx hb hml hown hg hN hK hP hD (c_leaves l D cI cJ ad co fl ra li re wa p_1.1 (nI i_1) k1) mw_284 mw_285 mw_286 mw_287 mw_234 pdv_X3_leaves ⟨Nat.le_of_ble_eq_true rfl, Nat.le_of_ble_eq_true rfl⟩ rfl rfl rfl hl.1 rfl (Nat.le_of_ble_eq_true rfl) dX3_crossingsUnder_15 ⟨Nat.le_of_ble_eq_true rfl, Nat.le_of_ble_eq_true rfl⟩) hD hS hA (fun r_8 u_8 H locs hp hP hD hS => ?_)
    obtain ⟨er, eu⟩ := hp
    obtain rfl := er.symm
    obtain rfl := eu.symm
    refine lv_if_eq (tgt := 68) hx hb dX3_crossingsUnder_18 (by decide) (fun c_18 => ?_) (fun c_18 => ?_)
    · have c_18 : ¬ (leaves wa p_1.1 (nI i_1) k1) = true := b2i_0 c_18
      refine lv_iinc (v := (nI (i_1 + 1))) (lv' := [(3, .int (nI (i_1 + 1))), (0, .ref (ad 6)), (1, .int k1), (2, .int p_1.2)]) hx hb dX3_crossingsUnder_68 hl (k := 3) rfl (nI_1 i_1) (by decide) rfl (fun ls hl => ?_)
      refine lv_goto (tgt := 4) hx hb dX3_crossingsUnder_71 (by decide) ?_
      exact ih_1 (p_1.1, p_1.2) H locs ls ⟨((show (p_1.1, p_1.2) = (cuA wa k1) i_1 p_1 from (by first | (simp only [cuA, if_neg c_18, bf_of c_18, gi_sl, gi_sA, gi_sB, gi_si_s, gi_si_n, gl_si, gl_sA, gl_sB, gl_sl_s, gl_sl_n, gA_si, gA_sl, gA_sB, gA_sA_s, gA_sA_n, gB_si, gB_sl, gB_sA, gB_sB_s, gB_sB_n, Nat.reduceBEq, if_true, if_false, eq_self, Bool.false_eq_true, reduceCtorEq, not_true_eq_false, not_false_eq_true, decide_true, decide_false, cond_true, cond_false, Bool.true_and, Bool.false_and, Bool.and_true, Bool.and_false, Bool.true_or, Bool.false_or, Bool.or_true, Bool.or_false, b2i_tt, b2i_ff]; done) | (simp only [cuA, if_neg c_18, bf_of c_18, gi_sl, gi_sA, gi_sB, gi_si_s, gi_si_n, gl_si, gl_sA, gl_sB, gl_sl_s, gl_sl_n, gA_si, gA_sl, gA_sB, gA_sA_s, gA_sA_n, gB_si, gB_sl, gB_sA, gB_sB_s, gB_sB_n, Nat.reduceBEq, if_true, if_false, eq_self, Bool.false_eq_true, reduceCtorEq, not_true_eq_false, not_false_eq_true, decide_true, decide_false, cond_true, cond_false, Bool.true_and, Bool.false_and, Bool.and_true, Bool.and_false, Bool.true_or, Bool.false_or, Bool.or_true, Bool.or_false, b2i_tt, b2i_ff]; rfl) | (simp [cuA, c_18, gi_sl, gi_sA, gi_sB, gi_si_s, gi_si_n, gl_si, gl_sA, gl_sB, gl_sl_s, gl_sl_n, gA_si, gA_sl, gA_sB, gA_sA_s, gA_sA_n, gB_si, gB_sl, gB_sA, gB_sB_s, gB_sB_n, Nat.reduceBEq]; done))).trans (lp_go h_1)), hP, hD, hS, lv_sub hl [1, 2, 3, 0] rfl⟩
    · have c_18 : (leaves wa p_1.1 (nI i_1) k1) = true := b2i_1 c_18
      refine lv_aload_n hx hb dX3_crossingsUnder_21 rfl (lv_at hl 0 rfl) ?_
      refine va_get (D := D) (ci := 3) (v := .ref (ad 43)) (C := RX3) (T := TX3) (N := 16) hx hb hg inGX3 hown hK hP 6 rfl rfl 10 (by decide) (hg _ mw_282) (fun _ h9 => h9) rfl dX3_crossingsUnder_22 ?_
      refine lv_iload_n hx hb dX3_crossingsUnder_25 rfl (lv_at hl 2 rfl) ?_
      refine lv_aload_n hx hb dX3_crossingsUnder_26 rfl (lv_at hl 0 rfl) ?_
      refine va_get (D := D) (ci := 3) (v := .ref (ad 39)) (C := RX3) (T := TX3) (N := 16) hx hb hg inGX3 hown hK hP 6 rfl rfl 6 (by decide) (hg _ mw_255) (fun _ h9 => h9) rfl dX3_crossingsUnder_27 ?_
      refine lv_aload_n hx hb dX3_crossingsUnder_30 rfl (lv_at hl 0 rfl) ?_
      refine lv_iload_n hx hb dX3_crossingsUnder_31 rfl (lv_at hl 3 rfl) ?_
      refine lv_iload_n hx hb dX3_crossingsUnder_32 rfl (lv_at hl 1 rfl) ?_
      refine kI (rV (q0 := 6) (ci := 3) hx hb hml hown hg hN hK hP hD (c_pointOn l D cI cJ ad co fl ra li re wa p_1.1 (nI i_1) k1) mw_257 mw_258 mw_259 mw_260 mw_234 pdv_X3_pointOn ⟨Nat.le_of_ble_eq_true rfl, Nat.le_of_ble_eq_true rfl⟩ rfl rfl rfl hl.1 rfl (Nat.le_of_ble_eq_true rfl) dX3_crossingsUnder_33 ⟨Nat.le_of_ble_eq_true rfl, Nat.le_of_ble_eq_true rfl⟩) hD hS hA (fun r_9 u_9 H locs hp hP hD hS => ?_)
      obtain ⟨er, eu⟩ := hp
      obtain rfl := er.symm
      obtain rfl := eu.symm
      refine kI (rSN hx hb hml hown hg hN hK hP hD (c_at l D cI cJ (XW ad cI cJ co fl ra li re wa p_1.1) 39 (ad 39) 1600 (gA p_1.1 5) (pointOn wa p_1.1 (nI i_1) k1) rfl (by decide)) mw_84 nw_96 mw_85 mw_77 pd_X7_at ⟨Nat.le_of_ble_eq_true rfl, Nat.le_of_ble_eq_true rfl⟩ rfl hl.1 rfl (Nat.le_of_ble_eq_true rfl) dX3_crossingsUnder_36 ⟨Nat.le_of_ble_eq_true rfl, Nat.le_of_ble_eq_true rfl⟩) hD hS hA (fun r_10 u_10 H locs hp hP hD hS => ?_)
      obtain ⟨er, eu⟩ := hp
      obtain rfl := er.symm
      obtain rfl := eu.symm
      refine kV (rSN hx hb hml hown hg hN hK hP hD (c_put l D cI cJ (XW ad cI cJ co fl ra li re wa p_1.1) 43 (ad 43) 80 (gA p_1.1 9) p_1.2 (rd (gA p_1.1 5) 1600 (pointOn wa p_1.1 (nI i_1) k1)) rfl (by decide)) mw_92 nw_95 mw_93 mw_77 pd_X7_put ⟨Nat.le_of_ble_eq_true rfl, Nat.le_of_ble_eq_true rfl⟩ rfl hl.1 rfl (Nat.le_of_ble_eq_true rfl) dX3_crossingsUnder_39 ⟨Nat.le_of_ble_eq_true rfl, Nat.le_of_ble_eq_true rfl⟩) hD hS hA (fun u_11 H locs hp hP hD hS => ?_)
      obtain rfl := hp.symm
      have hP : va_P D vwCl (XW ad cI cJ co fl ra li re wa (sA p_1.1 9 (wr (gA p_1.1 9) 80 p_1.2 (rd (gA p_1.1 5) 1600 (pointOn wa p_1.1 (nI i_1) k1))))) H := hP
      have hD : va_D A (XW ad cI cJ co fl ra li re wa (sA p_1.1 9 (wr (gA p_1.1 9) 80 p_1.2 (rd (gA p_1.1 5) 1600 (pointOn wa p_1.1 (nI i_1) k1))))) := hD
      refine lv_aload_n hx hb dX3_crossingsUnder_42 rfl (lv_at hl 0 rfl) ?_
      refine va_get (D := D) (ci := 3) (v := .ref (ad 44)) (C := RX3) (T := TX3) (N := 16) hx hb hg inGX3 hown hK hP 6 rfl rfl 11 (by decide) (hg _ mw_283) (fun _ h9 => h9) rfl dX3_crossingsUnder_43 ?_
      refine lv_iload_n hx hb dX3_crossingsUnder_46 rfl (lv_at hl 2 rfl) ?_
      refine lv_aload_n hx hb dX3_crossingsUnder_47 rfl (lv_at hl 0 rfl) ?_
      refine va_get (D := D) (ci := 3) (v := .ref (ad 39)) (C := RX3) (T := TX3) (N := 16) hx hb hg inGX3 hown hK hP 6 rfl rfl 6 (by decide) (hg _ mw_255) (fun _ h9 => h9) rfl dX3_crossingsUnder_48 ?_
      refine lv_aload_n hx hb dX3_crossingsUnder_51 rfl (lv_at hl 0 rfl) ?_
      refine lv_iload_n hx hb dX3_crossingsUnder_52 rfl (lv_at hl 3 rfl) ?_
      refine lv_iload_n hx hb dX3_crossingsUnder_53 rfl (lv_at hl 1 rfl) ?_
      refine lv_iconst (v := 1) hx hb dX3_crossingsUnder_54 (by decide) ?_
      refine lv_iadd hx hb dX3_crossingsUnder_55 ?_
      refine kI (rV (q0 := 6) (ci := 3) hx hb hml hown hg hN hK hP hD (c_pointOn l D cI cJ ad co fl ra li re wa (sA p_1.1 9 (wr (gA p_1.1 9) 80 p_1.2 (rd (gA p_1.1 5) 1600 (pointOn wa p_1.1 (nI i_1) k1)))) (nI i_1) (k1 + 1)) mw_257 mw_258 mw_259 mw_260 mw_234 pdv_X3_pointOn ⟨Nat.le_of_ble_eq_true rfl, Nat.le_of_ble_eq_true rfl⟩ rfl rfl rfl hl.1 rfl (Nat.le_of_ble_eq_true rfl) dX3_crossingsUnder_56 ⟨Nat.le_of_ble_eq_true rfl, Nat.le_of_ble_eq_true rfl⟩) hD hS hA (fun r_12 u_12 H locs hp hP hD hS => ?_)
      obtain ⟨er, eu⟩ := hp
      obtain rfl := er.symm
      obtain rfl := eu.symm
      refine kI (rSN hx hb hml hown hg hN hK hP hD (c_at l D cI cJ (XW ad cI cJ co fl ra li re wa (sA p_1.1 9 (wr (gA p_1.1 9) 80 p_1.2 (rd (gA p_1.1 5) 1600 (pointOn wa p_1.1 (nI i_1) k1))))) 39 (ad 39) 1600 (gA p_1.1 5) (pointOn wa (sA p_1.1 9 (wr (gA p_1.1 9) 80 p_1.2 (rd (gA p_1.1 5) 1600 (pointOn wa p_1.1 (nI i_1) k1)))) (nI i_1) (k1 + 1)) rfl (by decide)) mw_84 nw_96 mw_85 mw_77 pd_X7_at ⟨Nat.le_of_ble_eq_true rfl, Nat.le_of_ble_eq_true rfl⟩ rfl hl.1 rfl (Nat.le_of_ble_eq_true rfl) dX3_crossingsUnder_59 ⟨Nat.le_of_ble_eq_true rfl, Nat.le_of_ble_eq_true rfl⟩) hD hS hA (fun r_13 u_13 H locs hp hP hD hS => ?_)
      obtain ⟨er, eu⟩ := hp
      obtain rfl := er.symm
      obtain rfl := eu.symm
      refine kV (rSN hx hb hml hown hg hN hK hP hD (c_put l D cI cJ (XW ad cI cJ co fl ra li re wa (sA p_1.1 9 (wr (gA p_1.1 9) 80 p_1.2 (rd (gA p_1.1 5) 1600 (pointOn wa p_1.1 (nI i_1) k1))))) 44 (ad 44) 80 (gA p_1.1 10) p_1.2 (rd (gA p_1.1 5) 1600 (pointOn wa (sA p_1.1 9 (wr (gA p_1.1 9) 80 p_1.2 (rd (gA p_1.1 5) 1600 (pointOn wa p_1.1 (nI i_1) k1)))) (nI i_1) (k1 + 1))) rfl (by decide)) mw_92 nw_95 mw_93 mw_77 pd_X7_put ⟨Nat.le_of_ble_eq_true rfl, Nat.le_of_ble_eq_true rfl⟩ rfl hl.1 rfl (Nat.le_of_ble_eq_true rfl) dX3_crossingsUnder_62 ⟨Nat.le_of_ble_eq_true rfl, Nat.le_of_ble_eq_true rfl⟩) hD hS hA (fun u_14 H locs hp hP hD hS => ?_)
      obtain rfl := hp.symm
      have hP : va_P D vwCl (XW ad cI cJ co fl ra li re wa (sA (sA p_1.1 9 (wr (gA p_1.1 9) 80 p_1.2 (rd (gA p_1.1 5) 1600 (pointOn wa p_1.1 (nI i_1) k1)))) 10 (wr (gA p_1.1 10) 80 p_1.2 (rd (gA p_1.1 5) 1600 (pointOn wa (sA p_1.1 9 (wr (gA p_1.1 9) 80 p_1.2 (rd (gA p_1.1 5) 1600 (pointOn wa p_1.1 (nI i_1) k1)))) (nI i_1) (k1 + 1)))))) H := hP
      have hD : va_D A (XW ad cI cJ co fl ra li re wa (sA (sA p_1.1 9 (wr (gA p_1.1 9) 80 p_1.2 (rd (gA p_1.1 5) 1600 (pointOn wa p_1.1 (nI i_1) k1)))) 10 (wr (gA p_1.1 10) 80 p_1.2 (rd (gA p_1.1 5) 1600 (pointOn wa (sA p_1.1 9 (wr (gA p_1.1 9) 80 p_1.2 (rd (gA p_1.1 5) 1600 (pointOn wa p_1.1 (nI i_1) k1)))) (nI i_1) (k1 + 1)))))) := hD
      refine lv_iinc (v := (p_1.2 + 1)) (lv' := [(2, .int (p_1.2 + 1)), (0, .ref (ad 6)), (1, .int k1), (3, .int (nI i_1))]) hx hb dX3_crossingsUnder_65 hl (k := 2) rfl rfl (by decide) rfl (fun ls hl => ?_)
      refine lv_iinc (v := (nI (i_1 + 1))) (lv' := [(3, .int (nI (i_1 + 1))), (2, .int (p_1.2 + 1)), (0, .ref (ad 6)), (1, .int k1)]) hx hb dX3_crossingsUnder_68 hl (k := 3) rfl (nI_1 i_1) (by decide) rfl (fun ls hl => ?_)
      refine lv_goto (tgt := 4) hx hb dX3_crossingsUnder_71 (by decide) ?_
      exact ih_1 ((sA (sA p_1.1 9 (wr (gA p_1.1 9) 80 p_1.2 (rd (gA p_1.1 5) 1600 (pointOn wa p_1.1 (nI i_1) k1)))) 10 (wr (gA p_1.1 10) 80 p_1.2 (rd (gA p_1.1 5) 1600 (pointOn wa (sA p_1.1 9 (wr (gA p_1.1 9) 80 p_1.2 (rd (gA p_1.1 5) 1600 (pointOn wa p_1.1 (nI i_1) k1)))) (nI i_1) (k1 + 1))))), (p_1.2 + 1)) H locs ls ⟨((show ((sA (sA p_1.1 9 (wr (gA p_1.1 9) 80 p_1.2 (rd (gA p_1.1 5) 1600 (pointOn wa p_1.1 (nI i_1) k1)))) 10 (wr (gA p_1.1 10) 80 p_1.2 (rd (gA p_1.1 5) 1600 (pointOn wa (sA p_1.1 9 (wr (gA p_1.1 9) 80 p_1.2 (rd (gA p_1.1 5) 1600 (pointOn wa p_1.1 (nI i_1) k1)))) (nI i_1) (k1 + 1))))), (p_1.2 + 1)) = (cuA wa k1) i_1 p_1 from (by first | (simp only [cuA, if_pos c_18, c_18, gi_sl, gi_sA, gi_sB, gi_si_s, gi_si_n, gl_si, gl_sA, gl_sB, gl_sl_s, gl_sl_n, gA_si, gA_sl, gA_sB, gA_sA_s, gA_sA_n, gB_si, gB_sl, gB_sA, gB_sB_s, gB_sB_n, Nat.reduceBEq, if_true, if_false, eq_self, Bool.false_eq_true, reduceCtorEq, not_true_eq_false, not_false_eq_true, decide_true, decide_false, cond_true, cond_false, Bool.true_and, Bool.false_and, Bool.and_true, Bool.and_false, Bool.true_or, Bool.false_or, Bool.or_true, Bool.or_false, b2i_tt, b2i_ff]; done) | (simp only [cuA, if_pos c_18, c_18, gi_sl, gi_sA, gi_sB, gi_si_s, gi_si_n, gl_si, gl_sA, gl_sB, gl_sl_s, gl_sl_n, gA_si, gA_sl, gA_sB, gA_sA_s, gA_sA_n, gB_si, gB_sl, gB_sA, gB_sB_s, gB_sB_n, Nat.reduceBEq, if_true, if_false, eq_self, Bool.false_eq_true, reduceCtorEq, not_true_eq_false, not_false_eq_true, decide_true, decide_false, cond_true, cond_false, Bool.true_and, Bool.false_and, Bool.and_true, Bool.and_false, Bool.true_or, Bool.false_or, Bool.or_true, Bool.or_false, b2i_tt, b2i_ff]; rfl) | (simp [cuA, c_18, gi_sl, gi_sA, gi_sB, gi_si_s, gi_si_n, gl_si, gl_sA, gl_sB, gl_sl_s, gl_sl_n, gA_si, gA_sl, gA_sB, gA_sA_s, gA_sA_n, gB_si, gB_sl, gB_sA, gB_sB_s, gB_sB_n, Nat.reduceBEq]; done))).trans (lp_go h_1)), hP, hD, hS, lv_sub hl [2, 3, 1, 0] rfl⟩
set_option maxHeartbeats 4000000 in
set_option maxRecDepth 100000 in
theorem c_countCross (l : Launch) (D : va_G) (cI cJ : ClassId) (ad : Nat → Nat) (co fl ra li re wa pi : Ob) : CT l D (TY cI cJ) yX3_countCrossings (.code yX3_countCrossings cX3_countCrossings 3 (some Jvm.ClassFile.FieldType.int)) 4 0 0 (XW ad cI cJ co fl ra li re wa pi) [.ref (ad 6)] (QI D (TY cI cJ) (fun r u => r = (countCross wa pi).2 ∧ u = (XW ad cI cJ co fl ra li re wa (countCross wa pi).1))) := by
  refine ent (by decide) (Nat.le_of_ble_eq_true rfl) ?_
  intro p e s m below meth c ls A hx hb hr hg hown hml hlocks hnm hP hK hD hS hA hN hl
  have hl : lv_has ls 3 [(0, .ref (ad 6))] := hl
  refine lv_iconst (v := 0) hx hb dX3_countCrossings_0 (by decide) ?_
  refine lv_istore_n (lv' := [(1, .int 0), (0, .ref (ad 6))]) hx hb dX3_countCrossings_1 rfl hl (by decide) rfl (fun ls hl => ?_)
  refine lv_iconst (v := 0) hx hb dX3_countCrossings_2 (by decide) ?_
  refine lv_istore_n (lv' := [(2, .int 0), (1, .int 0), (0, .ref (ad 6))]) hx hb dX3_countCrossings_3 rfl hl (by decide) rfl (fun ls hl => ?_)
  refine w_loop (σ := Ob × Int32) (fun (i_1 : Nat) (p_1 : Ob × Int32) (H : Heap) (locs : List Loc) (ls : Array Slot) => p_1 = (lp (ccStep wa) i_1 (pi, 0)) ∧ va_P D vwCl (XW ad cI cJ co fl ra li re wa p_1.1) H ∧ va_D A (XW ad cI cJ co fl ra li re wa p_1.1) ∧ va_S A s.heap H locs ∧ lv_has ls 3 [(0, .ref (ad 6)), (1, .int p_1.2), (2, .int (nI i_1))]) (nN (gi pi 1 - 1)) (fun p_1 H locs ls hI => ?_) (fun i_1 p_1 H locs ls hi_1 hI ih_1 => ?_) 0 (pi, 0) (Nat.zero_le _) ⟨rfl, hP, hD, hS, (by rw [nI_0]; exact lv_sub hl [2, 1, 0] rfl)⟩
  · obtain ⟨h_1, hP, hD, hS, hl⟩ := hI
    have h_1 := h_1.symm
    subst h_1
    have hP : va_P D vwCl (XW ad cI cJ co fl ra li re wa ((lp (ccStep wa) (nN (gi pi 1 - 1)) (pi, 0)).1)) H := hP
    have hD : va_D A (XW ad cI cJ co fl ra li re wa ((lp (ccStep wa) (nN (gi pi 1 - 1)) (pi, 0)).1)) := hD
    have hl : lv_has ls 3 [(0, .ref (ad 6)), (1, .int ((lp (ccStep wa) (nN (gi pi 1 - 1)) (pi, 0)).2)), (2, .int (nI ((nN (gi pi 1 - 1)))))] := hl
    refine lv_iload_n hx hb dX3_countCrossings_4 rfl (lv_at hl 2 rfl) ?_
    refine lv_aload_n hx hb dX3_countCrossings_5 rfl (lv_at hl 0 rfl) ?_
    refine va_get (D := D) (ci := 3) (v := .int (gi ((lp (ccStep wa) (nN (gi pi 1 - 1)) (pi, 0)).1) 1)) (C := RX3) (T := TX3) (N := 16) hx hb hg inGX3 hown hK hP 6 rfl rfl 13 (by decide) (hg _ mw_235) (fun _ h9 => h9) rfl dX3_countCrossings_6 ?_
    refine lv_iconst (v := 1) hx hb dX3_countCrossings_9 (by decide) ?_
    refine lv_isub hx hb dX3_countCrossings_10 ?_
    refine lv_icmp_ge (tgt := 28) hx hb dX3_countCrossings_11 (by decide) (fun _ => ?_) (fun c_11 => absurd (by rw [k_ccL]; exact lp_out _) c_11)
    refine lv_iload_n hx hb dX3_countCrossings_28 rfl (lv_at hl 1 rfl) ?_
    exact W.iret (v := ((lp (ccStep wa) (nN (gi pi 1 - 1)) (pi, 0)).2)) hx hb hr (fun t ht hW => ⟨⟨((lp (ccStep wa) (nN (gi pi 1 - 1)) (pi, 0)).2), (XW ad cI cJ co fl ra li re wa ((lp (ccStep wa) (nN (gi pi 1 - 1)) (pi, 0)).1)), rfl, ⟨(show (((lp (ccStep wa) (nN (gi pi 1 - 1)) (pi, 0)).2) : Int32) = (countCross wa pi).2 from (by first | with_reducible rfl | (simp only [countCross, gi_sl, gi_sA, gi_sB, gi_si_s, gi_si_n, gl_si, gl_sA, gl_sB, gl_sl_s, gl_sl_n, gA_si, gA_sl, gA_sB, gA_sA_s, gA_sA_n, gB_si, gB_sl, gB_sA, gB_sB_s, gB_sB_n, Nat.reduceBEq, if_true, if_false, eq_self, Bool.false_eq_true, reduceCtorEq, not_true_eq_false, not_false_eq_true, decide_true, decide_false, cond_true, cond_false, Bool.true_and, Bool.false_and, Bool.and_true, Bool.and_false, Bool.true_or, Bool.false_or, Bool.or_true, Bool.or_false, b2i_tt, b2i_ff]; done) | rfl)), xw_eq rfl rfl rfl rfl rfl rfl (show ((lp (ccStep wa) (nN (gi pi 1 - 1)) (pi, 0)).1) = (countCross wa pi).1 from (by first | with_reducible rfl | (simp only [countCross, gi_sl, gi_sA, gi_sB, gi_si_s, gi_si_n, gl_si, gl_sA, gl_sB, gl_sl_s, gl_sl_n, gA_si, gA_sl, gA_sB, gA_sA_s, gA_sA_n, gB_si, gB_sl, gB_sA, gB_sB_s, gB_sB_n, Nat.reduceBEq, if_true, if_false, eq_self, Bool.false_eq_true, reduceCtorEq, not_true_eq_false, not_false_eq_true, decide_true, decide_false, cond_true, cond_false, Bool.true_and, Bool.false_and, Bool.and_true, Bool.and_false, Bool.true_or, Bool.false_or, Bool.or_true, Bool.or_false, b2i_tt, b2i_ff]; done) | rfl))⟩, ⟨by rw [ht]; exact hP, va_K.moved hW.alike hK, hD⟩⟩, hS.F ht⟩) hS.2.2 dX3_countCrossings_29
  · obtain ⟨h_1, hP, hD, hS, hl⟩ := hI
    have hP : va_P D vwCl (XW ad cI cJ co fl ra li re wa p_1.1) H := hP
    have hD : va_D A (XW ad cI cJ co fl ra li re wa p_1.1) := hD
    have hl : lv_has ls 3 [(0, .ref (ad 6)), (1, .int p_1.2), (2, .int (nI i_1))] := hl
    refine lv_iload_n hx hb dX3_countCrossings_4 rfl (lv_at hl 2 rfl) ?_
    refine lv_aload_n hx hb dX3_countCrossings_5 rfl (lv_at hl 0 rfl) ?_
    refine va_get (D := D) (ci := 3) (v := .int (gi p_1.1 1)) (C := RX3) (T := TX3) (N := 16) hx hb hg inGX3 hown hK hP 6 rfl rfl 13 (by decide) (hg _ mw_235) (fun _ h9 => h9) rfl dX3_countCrossings_6 ?_
    refine lv_iconst (v := 1) hx hb dX3_countCrossings_9 (by decide) ?_
    refine lv_isub hx hb dX3_countCrossings_10 ?_
    refine lv_icmp_ge (tgt := 28) hx hb dX3_countCrossings_11 (by decide) (fun c_11 => absurd c_11 (by rw [h_1, k_ccL]; exact lp_in hi_1)) (fun _ => ?_)
    refine lv_iload_n hx hb dX3_countCrossings_14 rfl (lv_at hl 1 rfl) ?_
    refine lv_aload_n hx hb dX3_countCrossings_15 rfl (lv_at hl 0 rfl) ?_
    refine lv_iload_n hx hb dX3_countCrossings_16 rfl (lv_at hl 2 rfl) ?_
    refine kI (rV (q0 := 6) (ci := 3) hx hb hml hown hg hN hK hP hD (c_crossN l D cI cJ ad co fl ra li re wa p_1.1 (nI i_1)) mw_288 mw_289 mw_290 mw_291 mw_234 pdv_X3_crossingsUnder ⟨Nat.le_of_ble_eq_true rfl, Nat.le_of_ble_eq_true rfl⟩ rfl rfl rfl hl.1 rfl (Nat.le_of_ble_eq_true rfl) dX3_countCrossings_17 ⟨Nat.le_of_ble_eq_true rfl, Nat.le_of_ble_eq_true rfl⟩) hD hS hA (fun r_2 u_2 H locs hp hP hD hS => ?_)
    obtain ⟨er, eu⟩ := hp
    obtain rfl := er.symm
    obtain rfl := eu.symm
    have hP : va_P D vwCl (XW ad cI cJ co fl ra li re wa (cuP wa p_1.1 (nI i_1)).1) H := hP
    have hD : va_D A (XW ad cI cJ co fl ra li re wa (cuP wa p_1.1 (nI i_1)).1) := hD
    refine lv_iadd hx hb dX3_countCrossings_20 ?_
    refine lv_istore_n (lv' := [(1, .int (p_1.2 + (crossN wa p_1.1 (nI i_1)))), (0, .ref (ad 6)), (2, .int (nI i_1))]) hx hb dX3_countCrossings_21 rfl hl (by decide) rfl (fun ls hl => ?_)
    refine lv_iinc (v := (nI (i_1 + 1))) (lv' := [(2, .int (nI (i_1 + 1))), (1, .int (p_1.2 + (crossN wa p_1.1 (nI i_1)))), (0, .ref (ad 6))]) hx hb dX3_countCrossings_22 hl (k := 2) rfl (nI_1 i_1) (by decide) rfl (fun ls hl => ?_)
    refine lv_goto (tgt := 4) hx hb dX3_countCrossings_25 (by decide) ?_
    exact ih_1 ((cuP wa p_1.1 (nI i_1)).1, (p_1.2 + (crossN wa p_1.1 (nI i_1)))) H locs ls ⟨((show ((cuP wa p_1.1 (nI i_1)).1, (p_1.2 + (crossN wa p_1.1 (nI i_1)))) = (ccStep wa) i_1 p_1 from (by first | with_reducible rfl | (simp only [ccStep, gi_sl, gi_sA, gi_sB, gi_si_s, gi_si_n, gl_si, gl_sA, gl_sB, gl_sl_s, gl_sl_n, gA_si, gA_sl, gA_sB, gA_sA_s, gA_sA_n, gB_si, gB_sl, gB_sA, gB_sB_s, gB_sB_n, Nat.reduceBEq, if_true, if_false, eq_self, Bool.false_eq_true, reduceCtorEq, not_true_eq_false, not_false_eq_true, decide_true, decide_false, cond_true, cond_false, Bool.true_and, Bool.false_and, Bool.and_true, Bool.and_false, Bool.true_or, Bool.false_or, Bool.or_true, Bool.or_false, b2i_tt, b2i_ff]; done) | rfl)).trans (lp_go h_1)), hP, hD, hS, lv_sub hl [2, 1, 0] rfl⟩
set_option maxHeartbeats 4000000 in
set_option maxRecDepth 100000 in
theorem c_isAhead (l : Launch) (D : va_G) (cI cJ : ClassId) (ad : Nat → Nat) (co fl ra li re wa pi : Ob) (k1 : Int32) (k2 : Int32) : CT l D (TY cI cJ) yX3_isAhead (.code yX3_isAhead cX3_isAhead 5 (some Jvm.ClassFile.FieldType.boolean)) 1 0 0 (XW ad cI cJ co fl ra li re wa pi) [.ref (ad 6), .int k1, .int k2] (QI D (TY cI cJ) (fun r u => r = (b2i (isAhead pi k1 k2)) ∧ u = (XW ad cI cJ co fl ra li re wa pi))) := by
  refine ent (by decide) (Nat.le_of_ble_eq_true rfl) ?_
  intro p e s m below meth c ls A hx hb hr hg hown hml hlocks hnm hP hK hD hS hA hN hl
  have hl : lv_has ls 5 [(0, .ref (ad 6)), (1, .int k1), (2, .int k2)] := hl
  refine lv_aload_n hx hb dX3_isAhead_0 rfl (lv_at hl 0 rfl) ?_
  refine va_get (D := D) (ci := 3) (v := .ref (ad 39)) (C := RX3) (T := TX3) (N := 16) hx hb hg inGX3 hown hK hP 6 rfl rfl 6 (by decide) (hg _ mw_255) (fun _ h9 => h9) rfl dX3_isAhead_1 ?_
  refine lv_iload_n hx hb dX3_isAhead_4 rfl (lv_at hl 1 rfl) ?_
  refine kI (rSN hx hb hml hown hg hN hK hP hD (c_at l D cI cJ (XW ad cI cJ co fl ra li re wa pi) 39 (ad 39) 1600 (gA pi 5) k1 rfl (by decide)) mw_84 nw_96 mw_85 mw_77 pd_X7_at ⟨Nat.le_of_ble_eq_true rfl, Nat.le_of_ble_eq_true rfl⟩ rfl hl.1 rfl (Nat.le_of_ble_eq_true rfl) dX3_isAhead_5 ⟨Nat.le_of_ble_eq_true rfl, Nat.le_of_ble_eq_true rfl⟩) hD hS hA (fun r_1 u_1 H locs hp hP hD hS => ?_)
  obtain ⟨er, eu⟩ := hp
  obtain rfl := er.symm
  obtain rfl := eu.symm
  refine lv_istore_n (lv' := [(3, .int (rd (gA pi 5) 1600 k1)), (0, .ref (ad 6)), (1, .int k1), (2, .int k2)]) hx hb dX3_isAhead_8 rfl hl (by decide) rfl (fun ls hl => ?_)
  refine lv_aload_n hx hb dX3_isAhead_9 rfl (lv_at hl 1 rfl) ?_
  refine va_get (D := D) (ci := 3) (v := .ref (ad 39)) (C := RX3) (T := TX3) (N := 16) hx hb hg inGX3 hown hK hP 6 rfl rfl 6 (by decide) (hg _ mw_255) (fun _ h9 => h9) rfl dX3_isAhead_10 ?_
  refine lv_iload_n hx hb dX3_isAhead_13 rfl (lv_at hl 3 rfl) ?_
  refine kI (rSN hx hb hml hown hg hN hK hP hD (c_at l D cI cJ (XW ad cI cJ co fl ra li re wa pi) 39 (ad 39) 1600 (gA pi 5) k2 rfl (by decide)) mw_84 nw_96 mw_85 mw_77 pd_X7_at ⟨Nat.le_of_ble_eq_true rfl, Nat.le_of_ble_eq_true rfl⟩ rfl hl.1 rfl (Nat.le_of_ble_eq_true rfl) dX3_isAhead_14 ⟨Nat.le_of_ble_eq_true rfl, Nat.le_of_ble_eq_true rfl⟩) hD hS hA (fun r_2 u_2 H locs hp hP hD hS => ?_)
  obtain ⟨er, eu⟩ := hp
  obtain rfl := er.symm
  obtain rfl := eu.symm
  refine lv_istore (lv' := [(4, .int (rd (gA pi 5) 1600 k2)), (3, .int (rd (gA pi 5) 1600 k1)), (0, .ref (ad 6)), (1, .int k1), (2, .int k2)]) hx hb dX3_isAhead_17 hl (by decide) rfl (fun ls hl => ?_)
  refine lv_aload_n hx hb dX3_isAhead_19 rfl (lv_at hl 2 rfl) ?_
  refine va_get (D := D) (ci := 3) (v := .ref (ad 41)) (C := RX3) (T := TX3) (N := 16) hx hb hg inGX3 hown hK hP 6 rfl rfl 8 (by decide) (hg _ mw_292) (fun _ h9 => h9) rfl dX3_isAhead_20 ?_
  refine lv_iload_n hx hb dX3_isAhead_23 rfl (lv_at hl 1 rfl) ?_
  refine kI (rSN hx hb hml hown hg hN hK hP hD (c_at l D cI cJ (XW ad cI cJ co fl ra li re wa pi) 41 (ad 41) 120 (gA pi 7) (rd (gA pi 5) 1600 k1) rfl (by decide)) mw_84 nw_96 mw_85 mw_77 pd_X7_at ⟨Nat.le_of_ble_eq_true rfl, Nat.le_of_ble_eq_true rfl⟩ rfl hl.1 rfl (Nat.le_of_ble_eq_true rfl) dX3_isAhead_24 ⟨Nat.le_of_ble_eq_true rfl, Nat.le_of_ble_eq_true rfl⟩) hD hS hA (fun r_3 u_3 H locs hp hP hD hS => ?_)
  obtain ⟨er, eu⟩ := hp
  obtain rfl := er.symm
  obtain rfl := eu.symm
  refine lv_aload_n hx hb dX3_isAhead_27 rfl (lv_at hl 2 rfl) ?_
  refine va_get (D := D) (ci := 3) (v := .ref (ad 42)) (C := RX3) (T := TX3) (N := 16) hx hb hg inGX3 hown hK hP 6 rfl rfl 9 (by decide) (hg _ mw_293) (fun _ h9 => h9) rfl dX3_isAhead_28 ?_
  refine lv_iload hx hb dX3_isAhead_31 (lv_at hl 0 rfl) ?_
  refine kI (rSN hx hb hml hown hg hN hK hP hD (c_at l D cI cJ (XW ad cI cJ co fl ra li re wa pi) 42 (ad 42) 120 (gA pi 8) (rd (gA pi 5) 1600 k2) rfl (by decide)) mw_84 nw_96 mw_85 mw_77 pd_X7_at ⟨Nat.le_of_ble_eq_true rfl, Nat.le_of_ble_eq_true rfl⟩ rfl hl.1 rfl (Nat.le_of_ble_eq_true rfl) dX3_isAhead_33 ⟨Nat.le_of_ble_eq_true rfl, Nat.le_of_ble_eq_true rfl⟩) hD hS hA (fun r_4 u_4 H locs hp hP hD hS => ?_)
  obtain ⟨er, eu⟩ := hp
  obtain rfl := er.symm
  obtain rfl := eu.symm
  refine lv_imul hx hb dX3_isAhead_36 ?_
  refine lv_aload_n hx hb dX3_isAhead_37 rfl (lv_at hl 2 rfl) ?_
  refine va_get (D := D) (ci := 3) (v := .ref (ad 41)) (C := RX3) (T := TX3) (N := 16) hx hb hg inGX3 hown hK hP 6 rfl rfl 8 (by decide) (hg _ mw_292) (fun _ h9 => h9) rfl dX3_isAhead_38 ?_
  refine lv_iload hx hb dX3_isAhead_41 (lv_at hl 0 rfl) ?_
  refine kI (rSN hx hb hml hown hg hN hK hP hD (c_at l D cI cJ (XW ad cI cJ co fl ra li re wa pi) 41 (ad 41) 120 (gA pi 7) (rd (gA pi 5) 1600 k2) rfl (by decide)) mw_84 nw_96 mw_85 mw_77 pd_X7_at ⟨Nat.le_of_ble_eq_true rfl, Nat.le_of_ble_eq_true rfl⟩ rfl hl.1 rfl (Nat.le_of_ble_eq_true rfl) dX3_isAhead_43 ⟨Nat.le_of_ble_eq_true rfl, Nat.le_of_ble_eq_true rfl⟩) hD hS hA (fun r_5 u_5 H locs hp hP hD hS => ?_)
  obtain ⟨er, eu⟩ := hp
  obtain rfl := er.symm
  obtain rfl := eu.symm
  refine lv_aload_n hx hb dX3_isAhead_46 rfl (lv_at hl 2 rfl) ?_
  refine va_get (D := D) (ci := 3) (v := .ref (ad 42)) (C := RX3) (T := TX3) (N := 16) hx hb hg inGX3 hown hK hP 6 rfl rfl 9 (by decide) (hg _ mw_293) (fun _ h9 => h9) rfl dX3_isAhead_47 ?_
  refine lv_iload_n hx hb dX3_isAhead_50 rfl (lv_at hl 1 rfl) ?_
  refine kI (rSN hx hb hml hown hg hN hK hP hD (c_at l D cI cJ (XW ad cI cJ co fl ra li re wa pi) 42 (ad 42) 120 (gA pi 8) (rd (gA pi 5) 1600 k1) rfl (by decide)) mw_84 nw_96 mw_85 mw_77 pd_X7_at ⟨Nat.le_of_ble_eq_true rfl, Nat.le_of_ble_eq_true rfl⟩ rfl hl.1 rfl (Nat.le_of_ble_eq_true rfl) dX3_isAhead_51 ⟨Nat.le_of_ble_eq_true rfl, Nat.le_of_ble_eq_true rfl⟩) hD hS hA (fun r_6 u_6 H locs hp hP hD hS => ?_)
  obtain ⟨er, eu⟩ := hp
  obtain rfl := er.symm
  obtain rfl := eu.symm
  refine lv_imul hx hb dX3_isAhead_54 ?_
  refine lv_icmp_ge (tgt := 62) hx hb dX3_isAhead_55 (by decide) (fun c_55 => ?_) (fun c_55 => ?_)
  · have c_55 : ¬ ((rd (gA pi 7) 120 (rd (gA pi 5) 1600 k1)) * (rd (gA pi 8) 120 (rd (gA pi 5) 1600 k2))) < ((rd (gA pi 7) 120 (rd (gA pi 5) 1600 k2)) * (rd (gA pi 8) 120 (rd (gA pi 5) 1600 k1))) := i_ge c_55
    refine lv_iconst (v := 0) hx hb dX3_isAhead_62 (by decide) ?_
    exact W.zret (v := 0) hx hb hr rfl (fun t ht hW => ⟨⟨0, (XW ad cI cJ co fl ra li re wa pi), rfl, ⟨(show (0 : Int32) = (b2i (isAhead pi k1 k2)) from (by first | (simp only [isAhead, if_neg c_55, decide_eq_false c_55, decide_eq_true c_55, if_pos c_55, gi_sl, gi_sA, gi_sB, gi_si_s, gi_si_n, gl_si, gl_sA, gl_sB, gl_sl_s, gl_sl_n, gA_si, gA_sl, gA_sB, gA_sA_s, gA_sA_n, gB_si, gB_sl, gB_sA, gB_sB_s, gB_sB_n, Nat.reduceBEq, if_true, if_false, eq_self, Bool.false_eq_true, reduceCtorEq, not_true_eq_false, not_false_eq_true, decide_true, decide_false, cond_true, cond_false, Bool.true_and, Bool.false_and, Bool.and_true, Bool.and_false, Bool.true_or, Bool.false_or, Bool.or_true, Bool.or_false, b2i_tt, b2i_ff]; done) | (simp only [isAhead, if_neg c_55, decide_eq_false c_55, decide_eq_true c_55, if_pos c_55, gi_sl, gi_sA, gi_sB, gi_si_s, gi_si_n, gl_si, gl_sA, gl_sB, gl_sl_s, gl_sl_n, gA_si, gA_sl, gA_sB, gA_sA_s, gA_sA_n, gB_si, gB_sl, gB_sA, gB_sB_s, gB_sB_n, Nat.reduceBEq, if_true, if_false, eq_self, Bool.false_eq_true, reduceCtorEq, not_true_eq_false, not_false_eq_true, decide_true, decide_false, cond_true, cond_false, Bool.true_and, Bool.false_and, Bool.and_true, Bool.and_false, Bool.true_or, Bool.false_or, Bool.or_true, Bool.or_false, b2i_tt, b2i_ff]; rfl) | (simp [isAhead, c_55, gi_sl, gi_sA, gi_sB, gi_si_s, gi_si_n, gl_si, gl_sA, gl_sB, gl_sl_s, gl_sl_n, gA_si, gA_sl, gA_sB, gA_sA_s, gA_sA_n, gB_si, gB_sl, gB_sA, gB_sB_s, gB_sB_n, Nat.reduceBEq]; done))), xw_eq rfl rfl rfl rfl rfl rfl rfl⟩, ⟨by rw [ht]; exact hP, va_K.moved hW.alike hK, hD⟩⟩, hS.F ht⟩) hS.2.2 dX3_isAhead_63
  · have c_55 : ((rd (gA pi 7) 120 (rd (gA pi 5) 1600 k1)) * (rd (gA pi 8) 120 (rd (gA pi 5) 1600 k2))) < ((rd (gA pi 7) 120 (rd (gA pi 5) 1600 k2)) * (rd (gA pi 8) 120 (rd (gA pi 5) 1600 k1))) := i_nge c_55
    refine lv_iconst (v := 1) hx hb dX3_isAhead_58 (by decide) ?_
    refine lv_goto (tgt := 63) hx hb dX3_isAhead_59 (by decide) ?_
    exact W.zret (v := 1) hx hb hr rfl (fun t ht hW => ⟨⟨1, (XW ad cI cJ co fl ra li re wa pi), rfl, ⟨(show (1 : Int32) = (b2i (isAhead pi k1 k2)) from (by first | (simp only [isAhead, if_pos c_55, decide_eq_true c_55, decide_eq_false (not_not_intro c_55), gi_sl, gi_sA, gi_sB, gi_si_s, gi_si_n, gl_si, gl_sA, gl_sB, gl_sl_s, gl_sl_n, gA_si, gA_sl, gA_sB, gA_sA_s, gA_sA_n, gB_si, gB_sl, gB_sA, gB_sB_s, gB_sB_n, Nat.reduceBEq, if_true, if_false, eq_self, Bool.false_eq_true, reduceCtorEq, not_true_eq_false, not_false_eq_true, decide_true, decide_false, cond_true, cond_false, Bool.true_and, Bool.false_and, Bool.and_true, Bool.and_false, Bool.true_or, Bool.false_or, Bool.or_true, Bool.or_false, b2i_tt, b2i_ff]; done) | (simp only [isAhead, if_pos c_55, decide_eq_true c_55, decide_eq_false (not_not_intro c_55), gi_sl, gi_sA, gi_sB, gi_si_s, gi_si_n, gl_si, gl_sA, gl_sB, gl_sl_s, gl_sl_n, gA_si, gA_sl, gA_sB, gA_sA_s, gA_sA_n, gB_si, gB_sl, gB_sA, gB_sB_s, gB_sB_n, Nat.reduceBEq, if_true, if_false, eq_self, Bool.false_eq_true, reduceCtorEq, not_true_eq_false, not_false_eq_true, decide_true, decide_false, cond_true, cond_false, Bool.true_and, Bool.false_and, Bool.and_true, Bool.and_false, Bool.true_or, Bool.false_or, Bool.or_true, Bool.or_false, b2i_tt, b2i_ff]; rfl) | (simp [isAhead, c_55, gi_sl, gi_sA, gi_sB, gi_si_s, gi_si_n, gl_si, gl_sA, gl_sB, gl_sl_s, gl_sl_n, gA_si, gA_sl, gA_sB, gA_sA_s, gA_sA_n, gB_si, gB_sl, gB_sA, gB_sB_s, gB_sB_n, Nat.reduceBEq]; done))), xw_eq rfl rfl rfl rfl rfl rfl rfl⟩, ⟨by rw [ht]; exact hP, va_K.moved hW.alike hK, hD⟩⟩, hS.F ht⟩) hS.2.2 dX3_isAhead_63
set_option maxHeartbeats 4000000 in
set_option maxRecDepth 100000 in
theorem c_weigh (l : Launch) (D : va_G) (cI cJ : ClassId) (ad : Nat → Nat) (co fl ra li re wa pi : Ob) (k1 : Int32) (k2 : Int32) (k3 : Int32) : CT l D (TY cI cJ) yX3_weigh (.code yX3_weigh cX3_weigh 7 (none : Option FieldType)) 3 0 0 (XW ad cI cJ co fl ra li re wa pi) [.ref (ad 6), .int k1, .int k2, .int k3] (QV D (TY cI cJ) (fun u => u = (XW ad cI cJ co fl ra li re wa (weigh wa pi k1 k2 k3)))) := by
  refine ent (by decide) (Nat.le_of_ble_eq_true rfl) ?_
  intro p e s m below meth c ls A hx hb hr hg hown hml hlocks hnm hP hK hD hS hA hN hl
  have hl : lv_has ls 7 [(0, .ref (ad 6)), (1, .int k1), (2, .int k2), (3, .int k3)] := hl
  refine lv_iconst (v := 0) hx hb dX3_weigh_0 (by decide) ?_
  refine lv_istore (lv' := [(4, .int 0), (0, .ref (ad 6)), (1, .int k1), (2, .int k2), (3, .int k3)]) hx hb dX3_weigh_1 hl (by decide) rfl (fun ls hl => ?_)
  refine w_loop (σ := Ob) (fun (i_1 : Nat) (p_1 : Ob) (H : Heap) (locs : List Loc) (ls : Array Slot) => p_1 = (lp weA i_1 pi) ∧ va_P D vwCl (XW ad cI cJ co fl ra li re wa p_1) H ∧ va_D A (XW ad cI cJ co fl ra li re wa p_1) ∧ va_S A s.heap H locs ∧ lv_has ls 7 [(0, .ref (ad 6)), (1, .int k1), (2, .int k2), (3, .int k3), (4, .int (nI i_1))]) (nN k3) (fun p_1 H locs ls hI => ?_) (fun i_1 p_1 H locs ls hi_1 hI ih_1 => ?_) 0 pi (Nat.zero_le _) ⟨rfl, hP, hD, hS, (by rw [nI_0]; exact lv_sub hl [1, 2, 3, 4, 0] rfl)⟩
  · obtain ⟨h_1, hP, hD, hS, hl⟩ := hI
    have h_1 := h_1.symm
    subst h_1
    have hP : va_P D vwCl (XW ad cI cJ co fl ra li re wa ((lp weA (nN k3) pi))) H := hP
    have hD : va_D A (XW ad cI cJ co fl ra li re wa ((lp weA (nN k3) pi))) := hD
    have hl : lv_has ls 7 [(0, .ref (ad 6)), (1, .int k1), (2, .int k2), (3, .int k3), (4, .int (nI ((nN k3))))] := hl
    refine lv_iload hx hb dX3_weigh_3 (lv_at hl 4 rfl) ?_
    refine lv_iload_n hx hb dX3_weigh_5 rfl (lv_at hl 3 rfl) ?_
    refine lv_icmp_ge (tgt := 35) hx hb dX3_weigh_6 (by decide) (fun _ => ?_) (fun c_6 => absurd (lp_out _) c_6)
    refine lv_iload_n hx hb dX3_weigh_35 rfl (lv_at hl 1 rfl) ?_
    refine lv_iload_n hx hb dX3_weigh_36 rfl (lv_at hl 2 rfl) ?_
    refine va_mmin hx hb (by rw [hml]; exact hl.1.symm) hown (hg _ mw_294) (hg _ mw_295) (hg _ mw_238) (hg _ mw_296) (Nat.le_of_ble_eq_true rfl) (Nat.le_of_ble_eq_true rfl) (Nat.le_of_ble_eq_true rfl) (Nat.le_of_ble_eq_true rfl) dX3_weigh_37 ?_
    refine W.eq (g2 := F0 m 40 ls [.int (imin k1 k2)]) rfl ?_
    refine lv_istore (lv' := [(4, .int (imin k1 k2)), (0, .ref (ad 6)), (1, .int k1), (2, .int k2), (3, .int k3)]) hx hb dX3_weigh_40 hl (by decide) rfl (fun ls hl => ?_)
    refine lv_iconst (v := 0) hx hb dX3_weigh_42 (by decide) ?_
    refine lv_istore (lv' := [(5, .int 0), (4, .int (imin k1 k2)), (0, .ref (ad 6)), (1, .int k1), (2, .int k2), (3, .int k3)]) hx hb dX3_weigh_43 hl (by decide) rfl (fun ls hl => ?_)
    refine w_loop (σ := Ob) (fun (i_2 : Nat) (p_2 : Ob) (H : Heap) (locs : List Loc) (ls : Array Slot) => p_2 = (lp (weB wa k1 k2 (imin k1 k2)) i_2 ((lp weA (nN k3) pi))) ∧ va_P D vwCl (XW ad cI cJ co fl ra li re wa p_2) H ∧ va_D A (XW ad cI cJ co fl ra li re wa p_2) ∧ va_S A s.heap H locs ∧ lv_has ls 7 [(0, .ref (ad 6)), (1, .int k1), (2, .int k2), (3, .int k3), (4, .int (imin k1 k2)), (5, .int (nI i_2))]) (nN (gi pi 0)) (fun p_2 H locs ls hI => ?_) (fun i_2 p_2 H locs ls hi_2 hI ih_2 => ?_) 0 ((lp weA (nN k3) pi)) (Nat.zero_le _) ⟨rfl, hP, hD, hS, (by rw [nI_0]; exact lv_sub hl [2, 3, 4, 5, 1, 0] rfl)⟩
    · obtain ⟨h_2, hP, hD, hS, hl⟩ := hI
      have h_2 := h_2.symm
      subst h_2
      have hP : va_P D vwCl (XW ad cI cJ co fl ra li re wa ((lp (weB wa k1 k2 (imin k1 k2)) (nN (gi pi 0)) ((lp weA (nN k3) pi))))) H := hP
      have hD : va_D A (XW ad cI cJ co fl ra li re wa ((lp (weB wa k1 k2 (imin k1 k2)) (nN (gi pi 0)) ((lp weA (nN k3) pi))))) := hD
      have hl : lv_has ls 7 [(0, .ref (ad 6)), (1, .int k1), (2, .int k2), (3, .int k3), (4, .int (imin k1 k2)), (5, .int (nI ((nN (gi pi 0)))))] := hl
      refine lv_iload hx hb dX3_weigh_45 (lv_at hl 5 rfl) ?_
      refine lv_aload_n hx hb dX3_weigh_47 rfl (lv_at hl 0 rfl) ?_
      refine va_get (D := D) (ci := 3) (v := .int (gi ((lp (weB wa k1 k2 (imin k1 k2)) (nN (gi pi 0)) ((lp weA (nN k3) pi)))) 0)) (C := RX3) (T := TX3) (N := 16) hx hb hg inGX3 hown hK hP 6 rfl rfl 12 (by decide) (hg _ mw_228) (fun _ h9 => h9) rfl dX3_weigh_48 ?_
      refine lv_icmp_ge (tgt := 140) hx hb dX3_weigh_51 (by decide) (fun _ => ?_) (fun c_51 => absurd (by rw [k_weBL, k_weAL]; exact lp_out _) c_51)
      refine lv_iconst (v := 0) hx hb dX3_weigh_140 (by decide) ?_
      refine lv_istore (lv' := [(5, .int 0), (0, .ref (ad 6)), (1, .int k1), (2, .int k2), (3, .int k3), (4, .int (imin k1 k2))]) hx hb dX3_weigh_141 hl (by decide) rfl (fun ls hl => ?_)
      refine w_loop (σ := Ob) (fun (i_3 : Nat) (p_3 : Ob) (H : Heap) (locs : List Loc) (ls : Array Slot) => p_3 = (lp weC i_3 ((lp (weB wa k1 k2 (imin k1 k2)) (nN (gi pi 0)) ((lp weA (nN k3) pi))))) ∧ va_P D vwCl (XW ad cI cJ co fl ra li re wa p_3) H ∧ va_D A (XW ad cI cJ co fl ra li re wa p_3) ∧ va_S A s.heap H locs ∧ lv_has ls 7 [(0, .ref (ad 6)), (1, .int k1), (2, .int k2), (3, .int k3), (5, .int (nI i_3))]) (nN k3) (fun p_3 H locs ls hI => ?_) (fun i_3 p_3 H locs ls hi_3 hI ih_3 => ?_) 0 ((lp (weB wa k1 k2 (imin k1 k2)) (nN (gi pi 0)) ((lp weA (nN k3) pi)))) (Nat.zero_le _) ⟨rfl, hP, hD, hS, (by rw [nI_0]; exact lv_sub hl [1, 2, 3, 4, 0] rfl)⟩
      · obtain ⟨h_3, hP, hD, hS, hl⟩ := hI
        have h_3 := h_3.symm
        subst h_3
        have hP : va_P D vwCl (XW ad cI cJ co fl ra li re wa ((lp weC (nN k3) ((lp (weB wa k1 k2 (imin k1 k2)) (nN (gi pi 0)) ((lp weA (nN k3) pi))))))) H := hP
        have hD : va_D A (XW ad cI cJ co fl ra li re wa ((lp weC (nN k3) ((lp (weB wa k1 k2 (imin k1 k2)) (nN (gi pi 0)) ((lp weA (nN k3) pi))))))) := hD
        have hl : lv_has ls 7 [(0, .ref (ad 6)), (1, .int k1), (2, .int k2), (3, .int k3), (5, .int (nI ((nN k3))))] := hl
        refine lv_iload hx hb dX3_weigh_143 (lv_at hl 4 rfl) ?_
        refine lv_iload_n hx hb dX3_weigh_145 rfl (lv_at hl 3 rfl) ?_
        refine lv_icmp_ge (tgt := 188) hx hb dX3_weigh_146 (by decide) (fun _ => ?_) (fun c_146 => absurd (lp_out _) c_146)
        exact W.vret hx hb hr (fun t ht hW => ⟨⟨(XW ad cI cJ co fl ra li re wa ((lp weC (nN k3) ((lp (weB wa k1 k2 (imin k1 k2)) (nN (gi pi 0)) ((lp weA (nN k3) pi))))))), rfl, xw_eq rfl rfl rfl rfl rfl rfl (show ((lp weC (nN k3) ((lp (weB wa k1 k2 (imin k1 k2)) (nN (gi pi 0)) ((lp weA (nN k3) pi)))))) = (weigh wa pi k1 k2 k3) from (by first | with_reducible rfl | (simp only [weigh, gi_sl, gi_sA, gi_sB, gi_si_s, gi_si_n, gl_si, gl_sA, gl_sB, gl_sl_s, gl_sl_n, gA_si, gA_sl, gA_sB, gA_sA_s, gA_sA_n, gB_si, gB_sl, gB_sA, gB_sB_s, gB_sB_n, Nat.reduceBEq, if_true, if_false, eq_self, Bool.false_eq_true, reduceCtorEq, not_true_eq_false, not_false_eq_true, decide_true, decide_false, cond_true, cond_false, Bool.true_and, Bool.false_and, Bool.and_true, Bool.and_false, Bool.true_or, Bool.false_or, Bool.or_true, Bool.or_false, b2i_tt, b2i_ff]; done) | rfl)), ⟨by rw [ht]; exact hP, va_K.moved hW.alike hK, hD⟩⟩, hS.F ht⟩) hS.2.2 dX3_weigh_188
      · obtain ⟨h_3, hP, hD, hS, hl⟩ := hI
        have hP : va_P D vwCl (XW ad cI cJ co fl ra li re wa p_3) H := hP
        have hD : va_D A (XW ad cI cJ co fl ra li re wa p_3) := hD
        have hl : lv_has ls 7 [(0, .ref (ad 6)), (1, .int k1), (2, .int k2), (3, .int k3), (5, .int (nI i_3))] := hl
        refine lv_iload hx hb dX3_weigh_143 (lv_at hl 4 rfl) ?_
        refine lv_iload_n hx hb dX3_weigh_145 rfl (lv_at hl 3 rfl) ?_
        refine lv_icmp_ge (tgt := 188) hx hb dX3_weigh_146 (by decide) (fun c_146 => absurd c_146 (lp_in hi_3)) (fun _ => ?_)
        refine lv_aload_n hx hb dX3_weigh_149 rfl (lv_at hl 0 rfl) ?_
        refine va_get (D := D) (ci := 3) (v := .ref (ad 42)) (C := RX3) (T := TX3) (N := 16) hx hb hg inGX3 hown hK hP 6 rfl rfl 9 (by decide) (hg _ mw_293) (fun _ h9 => h9) rfl dX3_weigh_150 ?_
        refine lv_iload hx hb dX3_weigh_153 (lv_at hl 4 rfl) ?_
        refine kI (rSN hx hb hml hown hg hN hK hP hD (c_at l D cI cJ (XW ad cI cJ co fl ra li re wa p_3) 42 (ad 42) 120 (gA p_3 8) (nI i_3) rfl (by decide)) mw_84 nw_96 mw_85 mw_77 pd_X7_at ⟨Nat.le_of_ble_eq_true rfl, Nat.le_of_ble_eq_true rfl⟩ rfl hl.1 rfl (Nat.le_of_ble_eq_true rfl) dX3_weigh_155 ⟨Nat.le_of_ble_eq_true rfl, Nat.le_of_ble_eq_true rfl⟩) hD hS hA (fun r_4 u_4 H locs hp hP hD hS => ?_)
        obtain ⟨er, eu⟩ := hp
        obtain rfl := er.symm
        obtain rfl := eu.symm
        refine lv_if_ne (tgt := 182) hx hb dX3_weigh_158 (by decide) (fun c_158 => ?_) (fun c_158 => ?_)
        · refine lv_iinc (v := (nI (i_3 + 1))) (lv' := [(5, .int (nI (i_3 + 1))), (0, .ref (ad 6)), (1, .int k1), (2, .int k2), (3, .int k3)]) hx hb dX3_weigh_182 hl (k := 4) rfl (nI_1 i_3) (by decide) rfl (fun ls hl => ?_)
          refine lv_goto (tgt := 143) hx hb dX3_weigh_185 (by decide) ?_
          exact ih_3 p_3 H locs ls ⟨((show p_3 = weC i_3 p_3 from (by first | (simp only [weC, if_neg c_158, decide_eq_false c_158, decide_eq_true c_158, if_pos c_158, gi_sl, gi_sA, gi_sB, gi_si_s, gi_si_n, gl_si, gl_sA, gl_sB, gl_sl_s, gl_sl_n, gA_si, gA_sl, gA_sB, gA_sA_s, gA_sA_n, gB_si, gB_sl, gB_sA, gB_sB_s, gB_sB_n, Nat.reduceBEq, if_true, if_false, eq_self, Bool.false_eq_true, reduceCtorEq, not_true_eq_false, not_false_eq_true, decide_true, decide_false, cond_true, cond_false, Bool.true_and, Bool.false_and, Bool.and_true, Bool.and_false, Bool.true_or, Bool.false_or, Bool.or_true, Bool.or_false, b2i_tt, b2i_ff]; done) | (simp only [weC, if_neg c_158, decide_eq_false c_158, decide_eq_true c_158, if_pos c_158, gi_sl, gi_sA, gi_sB, gi_si_s, gi_si_n, gl_si, gl_sA, gl_sB, gl_sl_s, gl_sl_n, gA_si, gA_sl, gA_sB, gA_sA_s, gA_sA_n, gB_si, gB_sl, gB_sA, gB_sB_s, gB_sB_n, Nat.reduceBEq, if_true, if_false, eq_self, Bool.false_eq_true, reduceCtorEq, not_true_eq_false, not_false_eq_true, decide_true, decide_false, cond_true, cond_false, Bool.true_and, Bool.false_and, Bool.and_true, Bool.and_false, Bool.true_or, Bool.false_or, Bool.or_true, Bool.or_false, b2i_tt, b2i_ff]; rfl) | (simp [weC, c_158, gi_sl, gi_sA, gi_sB, gi_si_s, gi_si_n, gl_si, gl_sA, gl_sB, gl_sl_s, gl_sl_n, gA_si, gA_sl, gA_sB, gA_sA_s, gA_sA_n, gB_si, gB_sl, gB_sA, gB_sB_s, gB_sB_n, Nat.reduceBEq]; done))).trans (lp_go h_3)), hP, hD, hS, lv_sub hl [1, 2, 3, 4, 0] rfl⟩
        · refine lv_aload_n hx hb dX3_weigh_161 rfl (lv_at hl 0 rfl) ?_
          refine va_get (D := D) (ci := 3) (v := .ref (ad 41)) (C := RX3) (T := TX3) (N := 16) hx hb hg inGX3 hown hK hP 6 rfl rfl 8 (by decide) (hg _ mw_292) (fun _ h9 => h9) rfl dX3_weigh_162 ?_
          refine lv_iload hx hb dX3_weigh_165 (lv_at hl 4 rfl) ?_
          refine lv_iload hx hb dX3_weigh_167 (lv_at hl 4 rfl) ?_
          refine kV (rSN hx hb hml hown hg hN hK hP hD (c_put l D cI cJ (XW ad cI cJ co fl ra li re wa p_3) 41 (ad 41) 120 (gA p_3 7) (nI i_3) (nI i_3) rfl (by decide)) mw_92 nw_95 mw_93 mw_77 pd_X7_put ⟨Nat.le_of_ble_eq_true rfl, Nat.le_of_ble_eq_true rfl⟩ rfl hl.1 rfl (Nat.le_of_ble_eq_true rfl) dX3_weigh_169 ⟨Nat.le_of_ble_eq_true rfl, Nat.le_of_ble_eq_true rfl⟩) hD hS hA (fun u_5 H locs hp hP hD hS => ?_)
          obtain rfl := hp.symm
          have hP : va_P D vwCl (XW ad cI cJ co fl ra li re wa (sA p_3 7 (wr (gA p_3 7) 120 (nI i_3) (nI i_3)))) H := hP
          have hD : va_D A (XW ad cI cJ co fl ra li re wa (sA p_3 7 (wr (gA p_3 7) 120 (nI i_3) (nI i_3)))) := hD
          refine lv_aload_n hx hb dX3_weigh_172 rfl (lv_at hl 0 rfl) ?_
          refine va_get (D := D) (ci := 3) (v := .ref (ad 42)) (C := RX3) (T := TX3) (N := 16) hx hb hg inGX3 hown hK hP 6 rfl rfl 9 (by decide) (hg _ mw_293) (fun _ h9 => h9) rfl dX3_weigh_173 ?_
          refine lv_iload hx hb dX3_weigh_176 (lv_at hl 4 rfl) ?_
          refine lv_iconst (v := 1) hx hb dX3_weigh_178 (by decide) ?_
          refine kV (rSN hx hb hml hown hg hN hK hP hD (c_put l D cI cJ (XW ad cI cJ co fl ra li re wa (sA p_3 7 (wr (gA p_3 7) 120 (nI i_3) (nI i_3)))) 42 (ad 42) 120 (gA p_3 8) (nI i_3) 1 rfl (by decide)) mw_92 nw_95 mw_93 mw_77 pd_X7_put ⟨Nat.le_of_ble_eq_true rfl, Nat.le_of_ble_eq_true rfl⟩ rfl hl.1 rfl (Nat.le_of_ble_eq_true rfl) dX3_weigh_179 ⟨Nat.le_of_ble_eq_true rfl, Nat.le_of_ble_eq_true rfl⟩) hD hS hA (fun u_6 H locs hp hP hD hS => ?_)
          obtain rfl := hp.symm
          have hP : va_P D vwCl (XW ad cI cJ co fl ra li re wa (sA (sA p_3 7 (wr (gA p_3 7) 120 (nI i_3) (nI i_3))) 8 (wr (gA p_3 8) 120 (nI i_3) 1))) H := hP
          have hD : va_D A (XW ad cI cJ co fl ra li re wa (sA (sA p_3 7 (wr (gA p_3 7) 120 (nI i_3) (nI i_3))) 8 (wr (gA p_3 8) 120 (nI i_3) 1))) := hD
          refine lv_iinc (v := (nI (i_3 + 1))) (lv' := [(5, .int (nI (i_3 + 1))), (0, .ref (ad 6)), (1, .int k1), (2, .int k2), (3, .int k3)]) hx hb dX3_weigh_182 hl (k := 4) rfl (nI_1 i_3) (by decide) rfl (fun ls hl => ?_)
          refine lv_goto (tgt := 143) hx hb dX3_weigh_185 (by decide) ?_
          exact ih_3 (sA (sA p_3 7 (wr (gA p_3 7) 120 (nI i_3) (nI i_3))) 8 (wr (gA p_3 8) 120 (nI i_3) 1)) H locs ls ⟨((show (sA (sA p_3 7 (wr (gA p_3 7) 120 (nI i_3) (nI i_3))) 8 (wr (gA p_3 8) 120 (nI i_3) 1)) = weC i_3 p_3 from (by first | (simp only [weC, if_pos c_158, decide_eq_true c_158, decide_eq_false (not_not_intro c_158), gi_sl, gi_sA, gi_sB, gi_si_s, gi_si_n, gl_si, gl_sA, gl_sB, gl_sl_s, gl_sl_n, gA_si, gA_sl, gA_sB, gA_sA_s, gA_sA_n, gB_si, gB_sl, gB_sA, gB_sB_s, gB_sB_n, Nat.reduceBEq, if_true, if_false, eq_self, Bool.false_eq_true, reduceCtorEq, not_true_eq_false, not_false_eq_true, decide_true, decide_false, cond_true, cond_false, Bool.true_and, Bool.false_and, Bool.and_true, Bool.and_false, Bool.true_or, Bool.false_or, Bool.or_true, Bool.or_false, b2i_tt, b2i_ff]; done) | (simp only [weC, if_pos c_158, decide_eq_true c_158, decide_eq_false (not_not_intro c_158), gi_sl, gi_sA, gi_sB, gi_si_s, gi_si_n, gl_si, gl_sA, gl_sB, gl_sl_s, gl_sl_n, gA_si, gA_sl, gA_sB, gA_sA_s, gA_sA_n, gB_si, gB_sl, gB_sA, gB_sB_s, gB_sB_n, Nat.reduceBEq, if_true, if_false, eq_self, Bool.false_eq_true, reduceCtorEq, not_true_eq_false, not_false_eq_true, decide_true, decide_false, cond_true, cond_false, Bool.true_and, Bool.false_and, Bool.and_true, Bool.and_false, Bool.true_or, Bool.false_or, Bool.or_true, Bool.or_false, b2i_tt, b2i_ff]; rfl) | (simp [weC, c_158, gi_sl, gi_sA, gi_sB, gi_si_s, gi_si_n, gl_si, gl_sA, gl_sB, gl_sl_s, gl_sl_n, gA_si, gA_sl, gA_sB, gA_sA_s, gA_sA_n, gB_si, gB_sl, gB_sA, gB_sB_s, gB_sB_n, Nat.reduceBEq]; done))).trans (lp_go h_3)), hP, hD, hS, lv_sub hl [1, 2, 3, 4, 0] rfl⟩
    · obtain ⟨h_2, hP, hD, hS, hl⟩ := hI
      have hP : va_P D vwCl (XW ad cI cJ co fl ra li re wa p_2) H := hP
      have hD : va_D A (XW ad cI cJ co fl ra li re wa p_2) := hD
      have hl : lv_has ls 7 [(0, .ref (ad 6)), (1, .int k1), (2, .int k2), (3, .int k3), (4, .int (imin k1 k2)), (5, .int (nI i_2))] := hl
      refine lv_iload hx hb dX3_weigh_45 (lv_at hl 5 rfl) ?_
      refine lv_aload_n hx hb dX3_weigh_47 rfl (lv_at hl 0 rfl) ?_
      refine va_get (D := D) (ci := 3) (v := .int (gi p_2 0)) (C := RX3) (T := TX3) (N := 16) hx hb hg inGX3 hown hK hP 6 rfl rfl 12 (by decide) (hg _ mw_228) (fun _ h9 => h9) rfl dX3_weigh_48 ?_
      refine lv_icmp_ge (tgt := 140) hx hb dX3_weigh_51 (by decide) (fun c_51 => absurd c_51 (by rw [h_2, k_weBL, k_weAL]; exact lp_in hi_2)) (fun _ => ?_)
      refine lv_aload_n hx hb dX3_weigh_54 rfl (lv_at hl 0 rfl) ?_
      refine lv_iload hx hb dX3_weigh_55 (lv_at hl 5 rfl) ?_
      refine lv_iload hx hb dX3_weigh_57 (lv_at hl 4 rfl) ?_
      refine kI (rV (q0 := 6) (ci := 3) hx hb hml hown hg hN hK hP hD (c_leaves l D cI cJ ad co fl ra li re wa p_2 (nI i_2) (imin k1 k2)) mw_284 mw_285 mw_286 mw_287 mw_234 pdv_X3_leaves ⟨Nat.le_of_ble_eq_true rfl, Nat.le_of_ble_eq_true rfl⟩ rfl rfl rfl hl.1 rfl (Nat.le_of_ble_eq_true rfl) dX3_weigh_59 ⟨Nat.le_of_ble_eq_true rfl, Nat.le_of_ble_eq_true rfl⟩) hD hS hA (fun r_7 u_7 H locs hp hP hD hS => ?_)
      obtain ⟨er, eu⟩ := hp
      obtain rfl := er.symm
      obtain rfl := eu.symm
      refine lv_if_eq (tgt := 134) hx hb dX3_weigh_62 (by decide) (fun c_62 => ?_) (fun c_62 => ?_)
      · have c_62 : ¬ (leaves wa p_2 (nI i_2) (imin k1 k2)) = true := b2i_0 c_62
        refine lv_iinc (v := (nI (i_2 + 1))) (lv' := [(5, .int (nI (i_2 + 1))), (0, .ref (ad 6)), (1, .int k1), (2, .int k2), (3, .int k3), (4, .int (imin k1 k2))]) hx hb dX3_weigh_134 hl (k := 5) rfl (nI_1 i_2) (by decide) rfl (fun ls hl => ?_)
        refine lv_goto (tgt := 45) hx hb dX3_weigh_137 (by decide) ?_
        exact ih_2 p_2 H locs ls ⟨((show p_2 = (weB wa k1 k2 (imin k1 k2)) i_2 p_2 from (by first | (simp only [weB, weSpot, if_neg c_62, bf_of c_62, gi_sl, gi_sA, gi_sB, gi_si_s, gi_si_n, gl_si, gl_sA, gl_sB, gl_sl_s, gl_sl_n, gA_si, gA_sl, gA_sB, gA_sA_s, gA_sA_n, gB_si, gB_sl, gB_sA, gB_sB_s, gB_sB_n, Nat.reduceBEq, if_true, if_false, eq_self, Bool.false_eq_true, reduceCtorEq, not_true_eq_false, not_false_eq_true, decide_true, decide_false, cond_true, cond_false, Bool.true_and, Bool.false_and, Bool.and_true, Bool.and_false, Bool.true_or, Bool.false_or, Bool.or_true, Bool.or_false, b2i_tt, b2i_ff]; done) | (simp only [weB, weSpot, if_neg c_62, bf_of c_62, gi_sl, gi_sA, gi_sB, gi_si_s, gi_si_n, gl_si, gl_sA, gl_sB, gl_sl_s, gl_sl_n, gA_si, gA_sl, gA_sB, gA_sA_s, gA_sA_n, gB_si, gB_sl, gB_sA, gB_sB_s, gB_sB_n, Nat.reduceBEq, if_true, if_false, eq_self, Bool.false_eq_true, reduceCtorEq, not_true_eq_false, not_false_eq_true, decide_true, decide_false, cond_true, cond_false, Bool.true_and, Bool.false_and, Bool.and_true, Bool.and_false, Bool.true_or, Bool.false_or, Bool.or_true, Bool.or_false, b2i_tt, b2i_ff]; rfl) | (simp [weB, weSpot, c_62, gi_sl, gi_sA, gi_sB, gi_si_s, gi_si_n, gl_si, gl_sA, gl_sB, gl_sl_s, gl_sl_n, gA_si, gA_sl, gA_sB, gA_sA_s, gA_sA_n, gB_si, gB_sl, gB_sA, gB_sB_s, gB_sB_n, Nat.reduceBEq]; done))).trans (lp_go h_2)), hP, hD, hS, lv_sub hl [1, 2, 3, 4, 5, 0] rfl⟩
      · have c_62 : (leaves wa p_2 (nI i_2) (imin k1 k2)) = true := b2i_1 c_62
        refine lv_aload_n hx hb dX3_weigh_65 rfl (lv_at hl 0 rfl) ?_
        refine va_get (D := D) (ci := 3) (v := .ref (ad 39)) (C := RX3) (T := TX3) (N := 16) hx hb hg inGX3 hown hK hP 6 rfl rfl 6 (by decide) (hg _ mw_255) (fun _ h9 => h9) rfl dX3_weigh_66 ?_
        refine lv_aload_n hx hb dX3_weigh_69 rfl (lv_at hl 0 rfl) ?_
        refine lv_iload hx hb dX3_weigh_70 (lv_at hl 5 rfl) ?_
        refine lv_iload_n hx hb dX3_weigh_72 rfl (lv_at hl 1 rfl) ?_
        refine kI (rV (q0 := 6) (ci := 3) hx hb hml hown hg hN hK hP hD (c_pointOn l D cI cJ ad co fl ra li re wa p_2 (nI i_2) k1) mw_257 mw_258 mw_259 mw_260 mw_234 pdv_X3_pointOn ⟨Nat.le_of_ble_eq_true rfl, Nat.le_of_ble_eq_true rfl⟩ rfl rfl rfl hl.1 rfl (Nat.le_of_ble_eq_true rfl) dX3_weigh_73 ⟨Nat.le_of_ble_eq_true rfl, Nat.le_of_ble_eq_true rfl⟩) hD hS hA (fun r_8 u_8 H locs hp hP hD hS => ?_)
        obtain ⟨er, eu⟩ := hp
        obtain rfl := er.symm
        obtain rfl := eu.symm
        refine kI (rSN hx hb hml hown hg hN hK hP hD (c_at l D cI cJ (XW ad cI cJ co fl ra li re wa p_2) 39 (ad 39) 1600 (gA p_2 5) (pointOn wa p_2 (nI i_2) k1) rfl (by decide)) mw_84 nw_96 mw_85 mw_77 pd_X7_at ⟨Nat.le_of_ble_eq_true rfl, Nat.le_of_ble_eq_true rfl⟩ rfl hl.1 rfl (Nat.le_of_ble_eq_true rfl) dX3_weigh_76 ⟨Nat.le_of_ble_eq_true rfl, Nat.le_of_ble_eq_true rfl⟩) hD hS hA (fun r_9 u_9 H locs hp hP hD hS => ?_)
        obtain ⟨er, eu⟩ := hp
        obtain rfl := er.symm
        obtain rfl := eu.symm
        refine lv_istore (lv' := [(6, .int (rd (gA p_2 5) 1600 (pointOn wa p_2 (nI i_2) k1))), (0, .ref (ad 6)), (1, .int k1), (2, .int k2), (3, .int k3), (4, .int (imin k1 k2)), (5, .int (nI i_2))]) hx hb dX3_weigh_79 hl (by decide) rfl (fun ls hl => ?_)
        refine lv_aload_n hx hb dX3_weigh_81 rfl (lv_at hl 1 rfl) ?_
        refine va_get (D := D) (ci := 3) (v := .ref (ad 41)) (C := RX3) (T := TX3) (N := 16) hx hb hg inGX3 hown hK hP 6 rfl rfl 8 (by decide) (hg _ mw_292) (fun _ h9 => h9) rfl dX3_weigh_82 ?_
        refine lv_iload hx hb dX3_weigh_85 (lv_at hl 0 rfl) ?_
        refine lv_aload_n hx hb dX3_weigh_87 rfl (lv_at hl 1 rfl) ?_
        refine va_get (D := D) (ci := 3) (v := .ref (ad 41)) (C := RX3) (T := TX3) (N := 16) hx hb hg inGX3 hown hK hP 6 rfl rfl 8 (by decide) (hg _ mw_292) (fun _ h9 => h9) rfl dX3_weigh_88 ?_
        refine lv_iload hx hb dX3_weigh_91 (lv_at hl 0 rfl) ?_
        refine kI (rSN hx hb hml hown hg hN hK hP hD (c_at l D cI cJ (XW ad cI cJ co fl ra li re wa p_2) 41 (ad 41) 120 (gA p_2 7) (rd (gA p_2 5) 1600 (pointOn wa p_2 (nI i_2) k1)) rfl (by decide)) mw_84 nw_96 mw_85 mw_77 pd_X7_at ⟨Nat.le_of_ble_eq_true rfl, Nat.le_of_ble_eq_true rfl⟩ rfl hl.1 rfl (Nat.le_of_ble_eq_true rfl) dX3_weigh_93 ⟨Nat.le_of_ble_eq_true rfl, Nat.le_of_ble_eq_true rfl⟩) hD hS hA (fun r_10 u_10 H locs hp hP hD hS => ?_)
        obtain ⟨er, eu⟩ := hp
        obtain rfl := er.symm
        obtain rfl := eu.symm
        refine lv_aload_n hx hb dX3_weigh_96 rfl (lv_at hl 1 rfl) ?_
        refine va_get (D := D) (ci := 3) (v := .ref (ad 39)) (C := RX3) (T := TX3) (N := 16) hx hb hg inGX3 hown hK hP 6 rfl rfl 6 (by decide) (hg _ mw_255) (fun _ h9 => h9) rfl dX3_weigh_97 ?_
        refine lv_aload_n hx hb dX3_weigh_100 rfl (lv_at hl 1 rfl) ?_
        refine lv_iload hx hb dX3_weigh_101 (lv_at hl 6 rfl) ?_
        refine lv_iload_n hx hb dX3_weigh_103 rfl (lv_at hl 3 rfl) ?_
        refine kI (rV (q0 := 6) (ci := 3) hx hb hml hown hg hN hK hP hD (c_pointOn l D cI cJ ad co fl ra li re wa p_2 (nI i_2) k2) mw_257 mw_258 mw_259 mw_260 mw_234 pdv_X3_pointOn ⟨Nat.le_of_ble_eq_true rfl, Nat.le_of_ble_eq_true rfl⟩ rfl rfl rfl hl.1 rfl (Nat.le_of_ble_eq_true rfl) dX3_weigh_104 ⟨Nat.le_of_ble_eq_true rfl, Nat.le_of_ble_eq_true rfl⟩) hD hS hA (fun r_11 u_11 H locs hp hP hD hS => ?_)
        obtain ⟨er, eu⟩ := hp
        obtain rfl := er.symm
        obtain rfl := eu.symm
        refine kI (rSN hx hb hml hown hg hN hK hP hD (c_at l D cI cJ (XW ad cI cJ co fl ra li re wa p_2) 39 (ad 39) 1600 (gA p_2 5) (pointOn wa p_2 (nI i_2) k2) rfl (by decide)) mw_84 nw_96 mw_85 mw_77 pd_X7_at ⟨Nat.le_of_ble_eq_true rfl, Nat.le_of_ble_eq_true rfl⟩ rfl hl.1 rfl (Nat.le_of_ble_eq_true rfl) dX3_weigh_107 ⟨Nat.le_of_ble_eq_true rfl, Nat.le_of_ble_eq_true rfl⟩) hD hS hA (fun r_12 u_12 H locs hp hP hD hS => ?_)
        obtain ⟨er, eu⟩ := hp
        obtain rfl := er.symm
        obtain rfl := eu.symm
        refine lv_iadd hx hb dX3_weigh_110 ?_
        refine kV (rSN hx hb hml hown hg hN hK hP hD (c_put l D cI cJ (XW ad cI cJ co fl ra li re wa p_2) 41 (ad 41) 120 (gA p_2 7) (rd (gA p_2 5) 1600 (pointOn wa p_2 (nI i_2) k1)) ((rd (gA p_2 7) 120 (rd (gA p_2 5) 1600 (pointOn wa p_2 (nI i_2) k1))) + (rd (gA p_2 5) 1600 (pointOn wa p_2 (nI i_2) k2))) rfl (by decide)) mw_92 nw_95 mw_93 mw_77 pd_X7_put ⟨Nat.le_of_ble_eq_true rfl, Nat.le_of_ble_eq_true rfl⟩ rfl hl.1 rfl (Nat.le_of_ble_eq_true rfl) dX3_weigh_111 ⟨Nat.le_of_ble_eq_true rfl, Nat.le_of_ble_eq_true rfl⟩) hD hS hA (fun u_13 H locs hp hP hD hS => ?_)
        obtain rfl := hp.symm
        have hP : va_P D vwCl (XW ad cI cJ co fl ra li re wa (sA p_2 7 (wr (gA p_2 7) 120 (rd (gA p_2 5) 1600 (pointOn wa p_2 (nI i_2) k1)) ((rd (gA p_2 7) 120 (rd (gA p_2 5) 1600 (pointOn wa p_2 (nI i_2) k1))) + (rd (gA p_2 5) 1600 (pointOn wa p_2 (nI i_2) k2)))))) H := hP
        have hD : va_D A (XW ad cI cJ co fl ra li re wa (sA p_2 7 (wr (gA p_2 7) 120 (rd (gA p_2 5) 1600 (pointOn wa p_2 (nI i_2) k1)) ((rd (gA p_2 7) 120 (rd (gA p_2 5) 1600 (pointOn wa p_2 (nI i_2) k1))) + (rd (gA p_2 5) 1600 (pointOn wa p_2 (nI i_2) k2)))))) := hD
        refine lv_aload_n hx hb dX3_weigh_114 rfl (lv_at hl 1 rfl) ?_
        refine va_get (D := D) (ci := 3) (v := .ref (ad 42)) (C := RX3) (T := TX3) (N := 16) hx hb hg inGX3 hown hK hP 6 rfl rfl 9 (by decide) (hg _ mw_293) (fun _ h9 => h9) rfl dX3_weigh_115 ?_
        refine lv_iload hx hb dX3_weigh_118 (lv_at hl 0 rfl) ?_
        refine lv_aload_n hx hb dX3_weigh_120 rfl (lv_at hl 1 rfl) ?_
        refine va_get (D := D) (ci := 3) (v := .ref (ad 42)) (C := RX3) (T := TX3) (N := 16) hx hb hg inGX3 hown hK hP 6 rfl rfl 9 (by decide) (hg _ mw_293) (fun _ h9 => h9) rfl dX3_weigh_121 ?_
        refine lv_iload hx hb dX3_weigh_124 (lv_at hl 0 rfl) ?_
        refine kI (rSN hx hb hml hown hg hN hK hP hD (c_at l D cI cJ (XW ad cI cJ co fl ra li re wa (sA p_2 7 (wr (gA p_2 7) 120 (rd (gA p_2 5) 1600 (pointOn wa p_2 (nI i_2) k1)) ((rd (gA p_2 7) 120 (rd (gA p_2 5) 1600 (pointOn wa p_2 (nI i_2) k1))) + (rd (gA p_2 5) 1600 (pointOn wa p_2 (nI i_2) k2)))))) 42 (ad 42) 120 (gA p_2 8) (rd (gA p_2 5) 1600 (pointOn wa p_2 (nI i_2) k1)) rfl (by decide)) mw_84 nw_96 mw_85 mw_77 pd_X7_at ⟨Nat.le_of_ble_eq_true rfl, Nat.le_of_ble_eq_true rfl⟩ rfl hl.1 rfl (Nat.le_of_ble_eq_true rfl) dX3_weigh_126 ⟨Nat.le_of_ble_eq_true rfl, Nat.le_of_ble_eq_true rfl⟩) hD hS hA (fun r_14 u_14 H locs hp hP hD hS => ?_)
        obtain ⟨er, eu⟩ := hp
        obtain rfl := er.symm
        obtain rfl := eu.symm
        refine lv_iconst (v := 1) hx hb dX3_weigh_129 (by decide) ?_
        refine lv_iadd hx hb dX3_weigh_130 ?_
        refine kV (rSN hx hb hml hown hg hN hK hP hD (c_put l D cI cJ (XW ad cI cJ co fl ra li re wa (sA p_2 7 (wr (gA p_2 7) 120 (rd (gA p_2 5) 1600 (pointOn wa p_2 (nI i_2) k1)) ((rd (gA p_2 7) 120 (rd (gA p_2 5) 1600 (pointOn wa p_2 (nI i_2) k1))) + (rd (gA p_2 5) 1600 (pointOn wa p_2 (nI i_2) k2)))))) 42 (ad 42) 120 (gA p_2 8) (rd (gA p_2 5) 1600 (pointOn wa p_2 (nI i_2) k1)) ((rd (gA p_2 8) 120 (rd (gA p_2 5) 1600 (pointOn wa p_2 (nI i_2) k1))) + 1) rfl (by decide)) mw_92 nw_95 mw_93 mw_77 pd_X7_put ⟨Nat.le_of_ble_eq_true rfl, Nat.le_of_ble_eq_true rfl⟩ rfl hl.1 rfl (Nat.le_of_ble_eq_true rfl) dX3_weigh_131 ⟨Nat.le_of_ble_eq_true rfl, Nat.le_of_ble_eq_true rfl⟩) hD hS hA (fun u_15 H locs hp hP hD hS => ?_)
        obtain rfl := hp.symm
        have hP : va_P D vwCl (XW ad cI cJ co fl ra li re wa (sA (sA p_2 7 (wr (gA p_2 7) 120 (rd (gA p_2 5) 1600 (pointOn wa p_2 (nI i_2) k1)) ((rd (gA p_2 7) 120 (rd (gA p_2 5) 1600 (pointOn wa p_2 (nI i_2) k1))) + (rd (gA p_2 5) 1600 (pointOn wa p_2 (nI i_2) k2))))) 8 (wr (gA p_2 8) 120 (rd (gA p_2 5) 1600 (pointOn wa p_2 (nI i_2) k1)) ((rd (gA p_2 8) 120 (rd (gA p_2 5) 1600 (pointOn wa p_2 (nI i_2) k1))) + 1)))) H := hP
        have hD : va_D A (XW ad cI cJ co fl ra li re wa (sA (sA p_2 7 (wr (gA p_2 7) 120 (rd (gA p_2 5) 1600 (pointOn wa p_2 (nI i_2) k1)) ((rd (gA p_2 7) 120 (rd (gA p_2 5) 1600 (pointOn wa p_2 (nI i_2) k1))) + (rd (gA p_2 5) 1600 (pointOn wa p_2 (nI i_2) k2))))) 8 (wr (gA p_2 8) 120 (rd (gA p_2 5) 1600 (pointOn wa p_2 (nI i_2) k1)) ((rd (gA p_2 8) 120 (rd (gA p_2 5) 1600 (pointOn wa p_2 (nI i_2) k1))) + 1)))) := hD
        refine lv_iinc (v := (nI (i_2 + 1))) (lv' := [(5, .int (nI (i_2 + 1))), (6, .int (rd (gA p_2 5) 1600 (pointOn wa p_2 (nI i_2) k1))), (0, .ref (ad 6)), (1, .int k1), (2, .int k2), (3, .int k3), (4, .int (imin k1 k2))]) hx hb dX3_weigh_134 hl (k := 6) rfl (nI_1 i_2) (by decide) rfl (fun ls hl => ?_)
        refine lv_goto (tgt := 45) hx hb dX3_weigh_137 (by decide) ?_
        exact ih_2 (sA (sA p_2 7 (wr (gA p_2 7) 120 (rd (gA p_2 5) 1600 (pointOn wa p_2 (nI i_2) k1)) ((rd (gA p_2 7) 120 (rd (gA p_2 5) 1600 (pointOn wa p_2 (nI i_2) k1))) + (rd (gA p_2 5) 1600 (pointOn wa p_2 (nI i_2) k2))))) 8 (wr (gA p_2 8) 120 (rd (gA p_2 5) 1600 (pointOn wa p_2 (nI i_2) k1)) ((rd (gA p_2 8) 120 (rd (gA p_2 5) 1600 (pointOn wa p_2 (nI i_2) k1))) + 1))) H locs ls ⟨((show (sA (sA p_2 7 (wr (gA p_2 7) 120 (rd (gA p_2 5) 1600 (pointOn wa p_2 (nI i_2) k1)) ((rd (gA p_2 7) 120 (rd (gA p_2 5) 1600 (pointOn wa p_2 (nI i_2) k1))) + (rd (gA p_2 5) 1600 (pointOn wa p_2 (nI i_2) k2))))) 8 (wr (gA p_2 8) 120 (rd (gA p_2 5) 1600 (pointOn wa p_2 (nI i_2) k1)) ((rd (gA p_2 8) 120 (rd (gA p_2 5) 1600 (pointOn wa p_2 (nI i_2) k1))) + 1))) = (weB wa k1 k2 (imin k1 k2)) i_2 p_2 from (by first | (simp only [weB, weSpot, if_pos c_62, c_62, gi_sl, gi_sA, gi_sB, gi_si_s, gi_si_n, gl_si, gl_sA, gl_sB, gl_sl_s, gl_sl_n, gA_si, gA_sl, gA_sB, gA_sA_s, gA_sA_n, gB_si, gB_sl, gB_sA, gB_sB_s, gB_sB_n, Nat.reduceBEq, if_true, if_false, eq_self, Bool.false_eq_true, reduceCtorEq, not_true_eq_false, not_false_eq_true, decide_true, decide_false, cond_true, cond_false, Bool.true_and, Bool.false_and, Bool.and_true, Bool.and_false, Bool.true_or, Bool.false_or, Bool.or_true, Bool.or_false, b2i_tt, b2i_ff]; done) | (simp only [weB, weSpot, if_pos c_62, c_62, gi_sl, gi_sA, gi_sB, gi_si_s, gi_si_n, gl_si, gl_sA, gl_sB, gl_sl_s, gl_sl_n, gA_si, gA_sl, gA_sB, gA_sA_s, gA_sA_n, gB_si, gB_sl, gB_sA, gB_sB_s, gB_sB_n, Nat.reduceBEq, if_true, if_false, eq_self, Bool.false_eq_true, reduceCtorEq, not_true_eq_false, not_false_eq_true, decide_true, decide_false, cond_true, cond_false, Bool.true_and, Bool.false_and, Bool.and_true, Bool.and_false, Bool.true_or, Bool.false_or, Bool.or_true, Bool.or_false, b2i_tt, b2i_ff]; rfl) | (simp [weB, weSpot, c_62, gi_sl, gi_sA, gi_sB, gi_si_s, gi_si_n, gl_si, gl_sA, gl_sB, gl_sl_s, gl_sl_n, gA_si, gA_sl, gA_sB, gA_sA_s, gA_sA_n, gB_si, gB_sl, gB_sA, gB_sB_s, gB_sB_n, Nat.reduceBEq]; done))).trans (lp_go h_2)), hP, hD, hS, lv_sub hl [2, 3, 4, 5, 6, 0] rfl⟩
  · obtain ⟨h_1, hP, hD, hS, hl⟩ := hI
    have hP : va_P D vwCl (XW ad cI cJ co fl ra li re wa p_1) H := hP
    have hD : va_D A (XW ad cI cJ co fl ra li re wa p_1) := hD
    have hl : lv_has ls 7 [(0, .ref (ad 6)), (1, .int k1), (2, .int k2), (3, .int k3), (4, .int (nI i_1))] := hl
    refine lv_iload hx hb dX3_weigh_3 (lv_at hl 4 rfl) ?_
    refine lv_iload_n hx hb dX3_weigh_5 rfl (lv_at hl 3 rfl) ?_
    refine lv_icmp_ge (tgt := 35) hx hb dX3_weigh_6 (by decide) (fun c_6 => absurd c_6 (lp_in hi_1)) (fun _ => ?_)
    refine lv_aload_n hx hb dX3_weigh_9 rfl (lv_at hl 0 rfl) ?_
    refine va_get (D := D) (ci := 3) (v := .ref (ad 41)) (C := RX3) (T := TX3) (N := 16) hx hb hg inGX3 hown hK hP 6 rfl rfl 8 (by decide) (hg _ mw_292) (fun _ h9 => h9) rfl dX3_weigh_10 ?_
    refine lv_iload hx hb dX3_weigh_13 (lv_at hl 4 rfl) ?_
    refine lv_iconst (v := 0) hx hb dX3_weigh_15 (by decide) ?_
    refine kV (rSN hx hb hml hown hg hN hK hP hD (c_put l D cI cJ (XW ad cI cJ co fl ra li re wa p_1) 41 (ad 41) 120 (gA p_1 7) (nI i_1) 0 rfl (by decide)) mw_92 nw_95 mw_93 mw_77 pd_X7_put ⟨Nat.le_of_ble_eq_true rfl, Nat.le_of_ble_eq_true rfl⟩ rfl hl.1 rfl (Nat.le_of_ble_eq_true rfl) dX3_weigh_16 ⟨Nat.le_of_ble_eq_true rfl, Nat.le_of_ble_eq_true rfl⟩) hD hS hA (fun u_16 H locs hp hP hD hS => ?_)
    obtain rfl := hp.symm
    have hP : va_P D vwCl (XW ad cI cJ co fl ra li re wa (sA p_1 7 (wr (gA p_1 7) 120 (nI i_1) 0))) H := hP
    have hD : va_D A (XW ad cI cJ co fl ra li re wa (sA p_1 7 (wr (gA p_1 7) 120 (nI i_1) 0))) := hD
    refine lv_aload_n hx hb dX3_weigh_19 rfl (lv_at hl 0 rfl) ?_
    refine va_get (D := D) (ci := 3) (v := .ref (ad 42)) (C := RX3) (T := TX3) (N := 16) hx hb hg inGX3 hown hK hP 6 rfl rfl 9 (by decide) (hg _ mw_293) (fun _ h9 => h9) rfl dX3_weigh_20 ?_
    refine lv_iload hx hb dX3_weigh_23 (lv_at hl 4 rfl) ?_
    refine lv_iconst (v := 0) hx hb dX3_weigh_25 (by decide) ?_
    refine kV (rSN hx hb hml hown hg hN hK hP hD (c_put l D cI cJ (XW ad cI cJ co fl ra li re wa (sA p_1 7 (wr (gA p_1 7) 120 (nI i_1) 0))) 42 (ad 42) 120 (gA p_1 8) (nI i_1) 0 rfl (by decide)) mw_92 nw_95 mw_93 mw_77 pd_X7_put ⟨Nat.le_of_ble_eq_true rfl, Nat.le_of_ble_eq_true rfl⟩ rfl hl.1 rfl (Nat.le_of_ble_eq_true rfl) dX3_weigh_26 ⟨Nat.le_of_ble_eq_true rfl, Nat.le_of_ble_eq_true rfl⟩) hD hS hA (fun u_17 H locs hp hP hD hS => ?_)
    obtain rfl := hp.symm
    have hP : va_P D vwCl (XW ad cI cJ co fl ra li re wa (sA (sA p_1 7 (wr (gA p_1 7) 120 (nI i_1) 0)) 8 (wr (gA p_1 8) 120 (nI i_1) 0))) H := hP
    have hD : va_D A (XW ad cI cJ co fl ra li re wa (sA (sA p_1 7 (wr (gA p_1 7) 120 (nI i_1) 0)) 8 (wr (gA p_1 8) 120 (nI i_1) 0))) := hD
    refine lv_iinc (v := (nI (i_1 + 1))) (lv' := [(4, .int (nI (i_1 + 1))), (0, .ref (ad 6)), (1, .int k1), (2, .int k2), (3, .int k3)]) hx hb dX3_weigh_29 hl (k := 4) rfl (nI_1 i_1) (by decide) rfl (fun ls hl => ?_)
    refine lv_goto (tgt := 3) hx hb dX3_weigh_32 (by decide) ?_
    exact ih_1 (sA (sA p_1 7 (wr (gA p_1 7) 120 (nI i_1) 0)) 8 (wr (gA p_1 8) 120 (nI i_1) 0)) H locs ls ⟨((show (sA (sA p_1 7 (wr (gA p_1 7) 120 (nI i_1) 0)) 8 (wr (gA p_1 8) 120 (nI i_1) 0)) = weA i_1 p_1 from (by first | with_reducible rfl | (simp only [weA, gi_sl, gi_sA, gi_sB, gi_si_s, gi_si_n, gl_si, gl_sA, gl_sB, gl_sl_s, gl_sl_n, gA_si, gA_sl, gA_sB, gA_sA_s, gA_sA_n, gB_si, gB_sl, gB_sA, gB_sB_s, gB_sB_n, Nat.reduceBEq, if_true, if_false, eq_self, Bool.false_eq_true, reduceCtorEq, not_true_eq_false, not_false_eq_true, decide_true, decide_false, cond_true, cond_false, Bool.true_and, Bool.false_and, Bool.and_true, Bool.and_false, Bool.true_or, Bool.false_or, Bool.or_true, Bool.or_false, b2i_tt, b2i_ff]; done) | rfl)).trans (lp_go h_1)), hP, hD, hS, lv_sub hl [1, 2, 3, 4, 0] rfl⟩
set_option maxHeartbeats 4000000 in
set_option maxRecDepth 100000 in
theorem c_arrange (l : Launch) (D : va_G) (cI cJ : ClassId) (ad : Nat → Nat) (co fl ra li re wa pi : Ob) (k1 : Int32) (k2 : Int32) : CT l D (TY cI cJ) yX3_arrange (.code yX3_arrange cX3_arrange 8 (none : Option FieldType)) 4 0 0 (XW ad cI cJ co fl ra li re wa pi) [.ref (ad 6), .int k1, .int k2] (QV D (TY cI cJ) (fun u => u = (XW ad cI cJ co fl ra li re wa (arrange wa pi k1 k2)))) := by
  refine ent (by decide) (Nat.le_of_ble_eq_true rfl) ?_
  intro p e s m below meth c ls A hx hb hr hg hown hml hlocks hnm hP hK hD hS hA hN hl
  have hl : lv_has ls 8 [(0, .ref (ad 6)), (1, .int k1), (2, .int k2)] := hl
  refine lv_aload_n hx hb dX3_arrange_0 rfl (lv_at hl 0 rfl) ?_
  refine va_get (D := D) (ci := 3) (v := .ref (ad 35)) (C := RX3) (T := TX3) (N := 16) hx hb hg inGX3 hown hK hP 6 rfl rfl 2 (by decide) (hg _ mw_256) (fun _ h9 => h9) rfl dX3_arrange_1 ?_
  refine lv_iload_n hx hb dX3_arrange_4 rfl (lv_at hl 1 rfl) ?_
  refine kI (rSN hx hb hml hown hg hN hK hP hD (c_at l D cI cJ (XW ad cI cJ co fl ra li re wa pi) 35 (ad 35) 41 (gA pi 1) k1 rfl (by decide)) mw_84 nw_96 mw_85 mw_77 pd_X7_at ⟨Nat.le_of_ble_eq_true rfl, Nat.le_of_ble_eq_true rfl⟩ rfl hl.1 rfl (Nat.le_of_ble_eq_true rfl) dX3_arrange_5 ⟨Nat.le_of_ble_eq_true rfl, Nat.le_of_ble_eq_true rfl⟩) hD hS hA (fun r_1 u_1 H locs hp hP hD hS => ?_)
  obtain ⟨er, eu⟩ := hp
  obtain rfl := er.symm
  obtain rfl := eu.symm
  refine lv_istore_n (lv' := [(3, .int (rd (gA pi 1) 41 k1)), (0, .ref (ad 6)), (1, .int k1), (2, .int k2)]) hx hb dX3_arrange_8 rfl hl (by decide) rfl (fun ls hl => ?_)
  refine lv_aload_n hx hb dX3_arrange_9 rfl (lv_at hl 1 rfl) ?_
  refine lv_iload_n hx hb dX3_arrange_10 rfl (lv_at hl 2 rfl) ?_
  refine kI (rV (q0 := 6) (ci := 3) hx hb hml hown hg hN hK hP hD (c_sizeOf l D cI cJ ad co fl ra li re wa pi k1) mw_297 mw_298 mw_299 mw_300 mw_234 pdv_X3_sizeOf ⟨Nat.le_of_ble_eq_true rfl, Nat.le_of_ble_eq_true rfl⟩ rfl rfl rfl hl.1 rfl (Nat.le_of_ble_eq_true rfl) dX3_arrange_11 ⟨Nat.le_of_ble_eq_true rfl, Nat.le_of_ble_eq_true rfl⟩) hD hS hA (fun r_2 u_2 H locs hp hP hD hS => ?_)
  obtain ⟨er, eu⟩ := hp
  obtain rfl := er.symm
  obtain rfl := eu.symm
  refine lv_istore (lv' := [(4, .int (sizeOf pi k1)), (3, .int (rd (gA pi 1) 41 k1)), (0, .ref (ad 6)), (1, .int k1), (2, .int k2)]) hx hb dX3_arrange_14 hl (by decide) rfl (fun ls hl => ?_)
  refine lv_aload_n hx hb dX3_arrange_16 rfl (lv_at hl 2 rfl) ?_
  refine lv_iload_n hx hb dX3_arrange_17 rfl (lv_at hl 3 rfl) ?_
  refine lv_iload_n hx hb dX3_arrange_18 rfl (lv_at hl 4 rfl) ?_
  refine lv_iload hx hb dX3_arrange_19 (lv_at hl 0 rfl) ?_
  refine kV (rV (q0 := 6) (ci := 3) hx hb hml hown hg hN hK hP hD (c_weigh l D cI cJ ad co fl ra li re wa pi k1 k2 (sizeOf pi k1)) mw_301 mw_302 mw_303 mw_304 mw_234 pdv_X3_weigh ⟨Nat.le_of_ble_eq_true rfl, Nat.le_of_ble_eq_true rfl⟩ rfl rfl rfl hl.1 rfl (Nat.le_of_ble_eq_true rfl) dX3_arrange_21 ⟨Nat.le_of_ble_eq_true rfl, Nat.le_of_ble_eq_true rfl⟩) hD hS hA (fun u_3 H locs hp hP hD hS => ?_)
  obtain rfl := hp.symm
  have hP : va_P D vwCl (XW ad cI cJ co fl ra li re wa (weigh wa pi k1 k2 (sizeOf pi k1))) H := hP
  have hD : va_D A (XW ad cI cJ co fl ra li re wa (weigh wa pi k1 k2 (sizeOf pi k1))) := hD
  refine lv_iconst (v := 1) hx hb dX3_arrange_24 (by decide) ?_
  refine lv_istore (lv' := [(5, .int 1), (4, .int (sizeOf pi k1)), (3, .int (rd (gA pi 1) 41 k1)), (0, .ref (ad 6)), (1, .int k1), (2, .int k2)]) hx hb dX3_arrange_25 hl (by decide) rfl (fun ls hl => ?_)
  refine w_loop (σ := Ob) (fun (i_4 : Nat) (p_4 : Ob) (H : Heap) (locs : List Loc) (ls : Array Slot) => p_4 = (lp (arStep (rd (gA pi 1) 41 k1)) i_4 (weigh wa pi k1 k2 (sizeOf pi k1))) ∧ va_P D vwCl (XW ad cI cJ co fl ra li re wa p_4) H ∧ va_D A (XW ad cI cJ co fl ra li re wa p_4) ∧ va_S A s.heap H locs ∧ lv_has ls 8 [(0, .ref (ad 6)), (1, .int k1), (2, .int k2), (3, .int (rd (gA pi 1) 41 k1)), (4, .int (sizeOf pi k1)), (5, .int (nI (i_4 + 1)))]) (nN (sizeOf pi k1) - 1) (fun p_4 H locs ls hI => ?_) (fun i_4 p_4 H locs ls hi_4 hI ih_4 => ?_) 0 (weigh wa pi k1 k2 (sizeOf pi k1)) (Nat.zero_le _) ⟨rfl, hP, hD, hS, (by rw [nI_01]; exact lv_sub hl [3, 4, 5, 2, 1, 0] rfl)⟩
  · obtain ⟨h_4, hP, hD, hS, hl⟩ := hI
    have h_4 := h_4.symm
    subst h_4
    have hP : va_P D vwCl (XW ad cI cJ co fl ra li re wa ((lp (arStep (rd (gA pi 1) 41 k1)) (nN (sizeOf pi k1) - 1) (weigh wa pi k1 k2 (sizeOf pi k1))))) H := hP
    have hD : va_D A (XW ad cI cJ co fl ra li re wa ((lp (arStep (rd (gA pi 1) 41 k1)) (nN (sizeOf pi k1) - 1) (weigh wa pi k1 k2 (sizeOf pi k1))))) := hD
    have hl : lv_has ls 8 [(0, .ref (ad 6)), (1, .int k1), (2, .int k2), (3, .int (rd (gA pi 1) 41 k1)), (4, .int (sizeOf pi k1)), (5, .int (nI ((nN (sizeOf pi k1) - 1) + 1)))] := hl
    refine lv_iload hx hb dX3_arrange_27 (lv_at hl 5 rfl) ?_
    refine lv_iload hx hb dX3_arrange_29 (lv_at hl 4 rfl) ?_
    refine lv_icmp_ge (tgt := 127) hx hb dX3_arrange_31 (by decide) (fun _ => ?_) (fun c_31 => absurd (n1_out _) c_31)
    refine lv_iconst (v := 0) hx hb dX3_arrange_127 (by decide) ?_
    refine lv_istore (lv' := [(5, .int 0), (0, .ref (ad 6)), (1, .int k1), (2, .int k2), (3, .int (rd (gA pi 1) 41 k1)), (4, .int (sizeOf pi k1))]) hx hb dX3_arrange_128 hl (by decide) rfl (fun ls hl => ?_)
    refine w_loop (σ := Ob) (fun (i_5 : Nat) (p_5 : Ob) (H : Heap) (locs : List Loc) (ls : Array Slot) => p_5 = (lp (arPut k1 (rd (gA pi 1) 41 k1)) i_5 ((lp (arStep (rd (gA pi 1) 41 k1)) (nN (sizeOf pi k1) - 1) (weigh wa pi k1 k2 (sizeOf pi k1))))) ∧ va_P D vwCl (XW ad cI cJ co fl ra li re wa p_5) H ∧ va_D A (XW ad cI cJ co fl ra li re wa p_5) ∧ va_S A s.heap H locs ∧ lv_has ls 8 [(0, .ref (ad 6)), (1, .int k1), (2, .int k2), (3, .int (rd (gA pi 1) 41 k1)), (4, .int (sizeOf pi k1)), (5, .int (nI i_5))]) (nN (sizeOf pi k1)) (fun p_5 H locs ls hI => ?_) (fun i_5 p_5 H locs ls hi_5 hI ih_5 => ?_) 0 ((lp (arStep (rd (gA pi 1) 41 k1)) (nN (sizeOf pi k1) - 1) (weigh wa pi k1 k2 (sizeOf pi k1)))) (Nat.zero_le _) ⟨rfl, hP, hD, hS, (by rw [nI_0]; exact lv_sub hl [1, 2, 3, 4, 5, 0] rfl)⟩
    · obtain ⟨h_5, hP, hD, hS, hl⟩ := hI
      have h_5 := h_5.symm
      subst h_5
      have hP : va_P D vwCl (XW ad cI cJ co fl ra li re wa ((lp (arPut k1 (rd (gA pi 1) 41 k1)) (nN (sizeOf pi k1)) ((lp (arStep (rd (gA pi 1) 41 k1)) (nN (sizeOf pi k1) - 1) (weigh wa pi k1 k2 (sizeOf pi k1))))))) H := hP
      have hD : va_D A (XW ad cI cJ co fl ra li re wa ((lp (arPut k1 (rd (gA pi 1) 41 k1)) (nN (sizeOf pi k1)) ((lp (arStep (rd (gA pi 1) 41 k1)) (nN (sizeOf pi k1) - 1) (weigh wa pi k1 k2 (sizeOf pi k1))))))) := hD
      have hl : lv_has ls 8 [(0, .ref (ad 6)), (1, .int k1), (2, .int k2), (3, .int (rd (gA pi 1) 41 k1)), (4, .int (sizeOf pi k1)), (5, .int (nI ((nN (sizeOf pi k1)))))] := hl
      refine lv_iload hx hb dX3_arrange_130 (lv_at hl 5 rfl) ?_
      refine lv_iload hx hb dX3_arrange_132 (lv_at hl 4 rfl) ?_
      refine lv_icmp_ge (tgt := 163) hx hb dX3_arrange_134 (by decide) (fun _ => ?_) (fun c_134 => absurd (lp_out _) c_134)
      exact W.vret hx hb hr (fun t ht hW => ⟨⟨(XW ad cI cJ co fl ra li re wa ((lp (arPut k1 (rd (gA pi 1) 41 k1)) (nN (sizeOf pi k1)) ((lp (arStep (rd (gA pi 1) 41 k1)) (nN (sizeOf pi k1) - 1) (weigh wa pi k1 k2 (sizeOf pi k1))))))), rfl, xw_eq rfl rfl rfl rfl rfl rfl (show ((lp (arPut k1 (rd (gA pi 1) 41 k1)) (nN (sizeOf pi k1)) ((lp (arStep (rd (gA pi 1) 41 k1)) (nN (sizeOf pi k1) - 1) (weigh wa pi k1 k2 (sizeOf pi k1)))))) = (arrange wa pi k1 k2) from (by first | with_reducible rfl | (simp only [arrange, gi_sl, gi_sA, gi_sB, gi_si_s, gi_si_n, gl_si, gl_sA, gl_sB, gl_sl_s, gl_sl_n, gA_si, gA_sl, gA_sB, gA_sA_s, gA_sA_n, gB_si, gB_sl, gB_sA, gB_sB_s, gB_sB_n, Nat.reduceBEq, if_true, if_false, eq_self, Bool.false_eq_true, reduceCtorEq, not_true_eq_false, not_false_eq_true, decide_true, decide_false, cond_true, cond_false, Bool.true_and, Bool.false_and, Bool.and_true, Bool.and_false, Bool.true_or, Bool.false_or, Bool.or_true, Bool.or_false, b2i_tt, b2i_ff]; done) | rfl)), ⟨by rw [ht]; exact hP, va_K.moved hW.alike hK, hD⟩⟩, hS.F ht⟩) hS.2.2 dX3_arrange_163
    · obtain ⟨h_5, hP, hD, hS, hl⟩ := hI
      have hP : va_P D vwCl (XW ad cI cJ co fl ra li re wa p_5) H := hP
      have hD : va_D A (XW ad cI cJ co fl ra li re wa p_5) := hD
      have hl : lv_has ls 8 [(0, .ref (ad 6)), (1, .int k1), (2, .int k2), (3, .int (rd (gA pi 1) 41 k1)), (4, .int (sizeOf pi k1)), (5, .int (nI i_5))] := hl
      refine lv_iload hx hb dX3_arrange_130 (lv_at hl 5 rfl) ?_
      refine lv_iload hx hb dX3_arrange_132 (lv_at hl 4 rfl) ?_
      refine lv_icmp_ge (tgt := 163) hx hb dX3_arrange_134 (by decide) (fun c_134 => absurd c_134 (lp_in hi_5)) (fun _ => ?_)
      refine lv_aload_n hx hb dX3_arrange_137 rfl (lv_at hl 0 rfl) ?_
      refine lv_iload_n hx hb dX3_arrange_138 rfl (lv_at hl 1 rfl) ?_
      refine lv_iload_n hx hb dX3_arrange_139 rfl (lv_at hl 3 rfl) ?_
      refine lv_iload hx hb dX3_arrange_140 (lv_at hl 5 rfl) ?_
      refine lv_iadd hx hb dX3_arrange_142 ?_
      refine lv_aload_n hx hb dX3_arrange_143 rfl (lv_at hl 0 rfl) ?_
      refine va_get (D := D) (ci := 3) (v := .ref (ad 38)) (C := RX3) (T := TX3) (N := 16) hx hb hg inGX3 hown hK hP 6 rfl rfl 5 (by decide) (hg _ mw_254) (fun _ h9 => h9) rfl dX3_arrange_144 ?_
      refine lv_iload_n hx hb dX3_arrange_147 rfl (lv_at hl 3 rfl) ?_
      refine lv_iload hx hb dX3_arrange_148 (lv_at hl 5 rfl) ?_
      refine lv_iadd hx hb dX3_arrange_150 ?_
      refine kI (rSN hx hb hml hown hg hN hK hP hD (c_at l D cI cJ (XW ad cI cJ co fl ra li re wa p_5) 38 (ad 38) 1600 (gA p_5 4) ((rd (gA pi 1) 41 k1) + (nI i_5)) rfl (by decide)) mw_84 nw_96 mw_85 mw_77 pd_X7_at ⟨Nat.le_of_ble_eq_true rfl, Nat.le_of_ble_eq_true rfl⟩ rfl hl.1 rfl (Nat.le_of_ble_eq_true rfl) dX3_arrange_151 ⟨Nat.le_of_ble_eq_true rfl, Nat.le_of_ble_eq_true rfl⟩) hD hS hA (fun r_6 u_6 H locs hp hP hD hS => ?_)
      obtain ⟨er, eu⟩ := hp
      obtain rfl := er.symm
      obtain rfl := eu.symm
      refine kV (rV (q0 := 6) (ci := 3) hx hb hml hown hg hN hK hP hD (c_putPoint l D cI cJ ad co fl ra li re wa p_5 k1 ((rd (gA pi 1) 41 k1) + (nI i_5)) (rd (gA p_5 4) 1600 ((rd (gA pi 1) 41 k1) + (nI i_5)))) mw_261 mw_262 mw_263 mw_264 mw_234 pdv_X3_putPoint ⟨Nat.le_of_ble_eq_true rfl, Nat.le_of_ble_eq_true rfl⟩ rfl rfl rfl hl.1 rfl (Nat.le_of_ble_eq_true rfl) dX3_arrange_154 ⟨Nat.le_of_ble_eq_true rfl, Nat.le_of_ble_eq_true rfl⟩) hD hS hA (fun u_7 H locs hp hP hD hS => ?_)
      obtain rfl := hp.symm
      have hP : va_P D vwCl (XW ad cI cJ co fl ra li re wa (putPoint p_5 k1 ((rd (gA pi 1) 41 k1) + (nI i_5)) (rd (gA p_5 4) 1600 ((rd (gA pi 1) 41 k1) + (nI i_5))))) H := hP
      have hD : va_D A (XW ad cI cJ co fl ra li re wa (putPoint p_5 k1 ((rd (gA pi 1) 41 k1) + (nI i_5)) (rd (gA p_5 4) 1600 ((rd (gA pi 1) 41 k1) + (nI i_5))))) := hD
      refine lv_iinc (v := (nI (i_5 + 1))) (lv' := [(5, .int (nI (i_5 + 1))), (0, .ref (ad 6)), (1, .int k1), (2, .int k2), (3, .int (rd (gA pi 1) 41 k1)), (4, .int (sizeOf pi k1))]) hx hb dX3_arrange_157 hl (k := 5) rfl (nI_1 i_5) (by decide) rfl (fun ls hl => ?_)
      refine lv_goto (tgt := 130) hx hb dX3_arrange_160 (by decide) ?_
      exact ih_5 (putPoint p_5 k1 ((rd (gA pi 1) 41 k1) + (nI i_5)) (rd (gA p_5 4) 1600 ((rd (gA pi 1) 41 k1) + (nI i_5)))) H locs ls ⟨((show (putPoint p_5 k1 ((rd (gA pi 1) 41 k1) + (nI i_5)) (rd (gA p_5 4) 1600 ((rd (gA pi 1) 41 k1) + (nI i_5)))) = (arPut k1 (rd (gA pi 1) 41 k1)) i_5 p_5 from (by first | with_reducible rfl | (simp only [arPut, gi_sl, gi_sA, gi_sB, gi_si_s, gi_si_n, gl_si, gl_sA, gl_sB, gl_sl_s, gl_sl_n, gA_si, gA_sl, gA_sB, gA_sA_s, gA_sA_n, gB_si, gB_sl, gB_sA, gB_sB_s, gB_sB_n, Nat.reduceBEq, if_true, if_false, eq_self, Bool.false_eq_true, reduceCtorEq, not_true_eq_false, not_false_eq_true, decide_true, decide_false, cond_true, cond_false, Bool.true_and, Bool.false_and, Bool.and_true, Bool.and_false, Bool.true_or, Bool.false_or, Bool.or_true, Bool.or_false, b2i_tt, b2i_ff]; done) | rfl)).trans (lp_go h_5)), hP, hD, hS, lv_sub hl [1, 2, 3, 4, 5, 0] rfl⟩
  · obtain ⟨h_4, hP, hD, hS, hl⟩ := hI
    have hP : va_P D vwCl (XW ad cI cJ co fl ra li re wa p_4) H := hP
    have hD : va_D A (XW ad cI cJ co fl ra li re wa p_4) := hD
    have hl : lv_has ls 8 [(0, .ref (ad 6)), (1, .int k1), (2, .int k2), (3, .int (rd (gA pi 1) 41 k1)), (4, .int (sizeOf pi k1)), (5, .int (nI (i_4 + 1)))] := hl
    refine lv_iload hx hb dX3_arrange_27 (lv_at hl 5 rfl) ?_
    refine lv_iload hx hb dX3_arrange_29 (lv_at hl 4 rfl) ?_
    refine lv_icmp_ge (tgt := 127) hx hb dX3_arrange_31 (by decide) (fun c_31 => absurd c_31 (n1_in hi_4)) (fun _ => ?_)
    refine lv_aload_n hx hb dX3_arrange_34 rfl (lv_at hl 0 rfl) ?_
    refine va_get (D := D) (ci := 3) (v := .ref (ad 38)) (C := RX3) (T := TX3) (N := 16) hx hb hg inGX3 hown hK hP 6 rfl rfl 5 (by decide) (hg _ mw_254) (fun _ h9 => h9) rfl dX3_arrange_35 ?_
    refine lv_iload_n hx hb dX3_arrange_38 rfl (lv_at hl 3 rfl) ?_
    refine lv_iload hx hb dX3_arrange_39 (lv_at hl 5 rfl) ?_
    refine lv_iadd hx hb dX3_arrange_41 ?_
    refine kI (rSN hx hb hml hown hg hN hK hP hD (c_at l D cI cJ (XW ad cI cJ co fl ra li re wa p_4) 38 (ad 38) 1600 (gA p_4 4) ((rd (gA pi 1) 41 k1) + (nI (i_4 + 1))) rfl (by decide)) mw_84 nw_96 mw_85 mw_77 pd_X7_at ⟨Nat.le_of_ble_eq_true rfl, Nat.le_of_ble_eq_true rfl⟩ rfl hl.1 rfl (Nat.le_of_ble_eq_true rfl) dX3_arrange_42 ⟨Nat.le_of_ble_eq_true rfl, Nat.le_of_ble_eq_true rfl⟩) hD hS hA (fun r_8 u_8 H locs hp hP hD hS => ?_)
    obtain ⟨er, eu⟩ := hp
    obtain rfl := er.symm
    obtain rfl := eu.symm
    refine lv_istore (lv' := [(6, .int (rd (gA p_4 4) 1600 ((rd (gA pi 1) 41 k1) + (nI (i_4 + 1))))), (0, .ref (ad 6)), (1, .int k1), (2, .int k2), (3, .int (rd (gA pi 1) 41 k1)), (4, .int (sizeOf pi k1)), (5, .int (nI (i_4 + 1)))]) hx hb dX3_arrange_45 hl (by decide) rfl (fun ls hl => ?_)
    refine lv_iload hx hb dX3_arrange_47 (lv_at hl 6 rfl) ?_
    refine lv_istore (lv' := [(7, .int (nI (i_4 + 1))), (6, .int (rd (gA p_4 4) 1600 ((rd (gA pi 1) 41 k1) + (nI (i_4 + 1))))), (0, .ref (ad 6)), (1, .int k1), (2, .int k2), (3, .int (rd (gA pi 1) 41 k1)), (4, .int (sizeOf pi k1)), (5, .int (nI (i_4 + 1)))]) hx hb dX3_arrange_49 hl (by decide) rfl (fun ls hl => ?_)
    refine w_loop (σ := Ob × Nat) (fun (i_9 : Nat) (p_9 : Ob × Nat) (H : Heap) (locs : List Loc) (ls : Array Slot) => p_9 = (lpW (slC (rd (gA pi 1) 41 k1) (rd (gA p_4 4) 1600 ((rd (gA pi 1) 41 k1) + (nI (i_4 + 1))))) (slF (rd (gA pi 1) 41 k1)) i_9 (p_4, ((i_4 + 1)))) ∧ ((lpW (slC (rd (gA pi 1) 41 k1) (rd (gA p_4 4) 1600 ((rd (gA pi 1) 41 k1) + (nI (i_4 + 1))))) (slF (rd (gA pi 1) 41 k1)) i_9 (p_4, ((i_4 + 1)))).2 + i_9 = i_4 + 1) ∧ va_P D vwCl (XW ad cI cJ co fl ra li re wa p_9.1) H ∧ va_D A (XW ad cI cJ co fl ra li re wa p_9.1) ∧ va_S A s.heap H locs ∧ lv_has ls 8 [(0, .ref (ad 6)), (1, .int k1), (2, .int k2), (3, .int (rd (gA pi 1) 41 k1)), (4, .int (sizeOf pi k1)), (5, .int (nI (i_4 + 1))), (6, .int (rd (gA p_4 4) 1600 ((rd (gA pi 1) 41 k1) + (nI (i_4 + 1))))), (7, .int (nI p_9.2))]) (i_4 + 1) (fun p_9 H locs ls hI => ?_) (fun i_9 p_9 H locs ls hi_9 hI ih_9 => ?_) 0 (p_4, ((i_4 + 1))) (Nat.zero_le _) ⟨rfl, rfl, hP, hD, hS, lv_sub hl [2, 3, 4, 5, 6, 7, 1, 0] rfl⟩
    · obtain ⟨h_9, hf_9, hP, hD, hS, hl⟩ := hI
      have h_9 := h_9.symm
      subst h_9
      have hP : va_P D vwCl (XW ad cI cJ co fl ra li re wa ((lpW (slC (rd (gA pi 1) 41 k1) (rd (gA p_4 4) 1600 ((rd (gA pi 1) 41 k1) + (nI (i_4 + 1))))) (slF (rd (gA pi 1) 41 k1)) (i_4 + 1) (p_4, ((i_4 + 1)))).1)) H := hP
      have hD : va_D A (XW ad cI cJ co fl ra li re wa ((lpW (slC (rd (gA pi 1) 41 k1) (rd (gA p_4 4) 1600 ((rd (gA pi 1) 41 k1) + (nI (i_4 + 1))))) (slF (rd (gA pi 1) 41 k1)) (i_4 + 1) (p_4, ((i_4 + 1)))).1)) := hD
      have hl : lv_has ls 8 [(0, .ref (ad 6)), (1, .int k1), (2, .int k2), (3, .int (rd (gA pi 1) 41 k1)), (4, .int (sizeOf pi k1)), (5, .int (nI (i_4 + 1))), (6, .int (rd (gA p_4 4) 1600 ((rd (gA pi 1) 41 k1) + (nI (i_4 + 1))))), (7, .int (nI ((lpW (slC (rd (gA pi 1) 41 k1) (rd (gA p_4 4) 1600 ((rd (gA pi 1) 41 k1) + (nI (i_4 + 1))))) (slF (rd (gA pi 1) 41 k1)) (i_4 + 1) (p_4, ((i_4 + 1)))).2)))] := hl
      refine lv_iload hx hb dX3_arrange_51 (lv_at hl 7 rfl) ?_
      refine lv_if_le (tgt := 108) hx hb dX3_arrange_53 (by decide) (fun _ => ?_) (fun c_53 => absurd (le0 hf_9) c_53)
      refine lv_aload_n hx hb dX3_arrange_108 rfl (lv_at hl 0 rfl) ?_
      refine va_get (D := D) (ci := 3) (v := .ref (ad 38)) (C := RX3) (T := TX3) (N := 16) hx hb hg inGX3 hown hK hP 6 rfl rfl 5 (by decide) (hg _ mw_254) (fun _ h9 => h9) rfl dX3_arrange_109 ?_
      refine lv_iload_n hx hb dX3_arrange_112 rfl (lv_at hl 3 rfl) ?_
      refine lv_iload hx hb dX3_arrange_113 (lv_at hl 7 rfl) ?_
      refine lv_iadd hx hb dX3_arrange_115 ?_
      refine lv_iload hx hb dX3_arrange_116 (lv_at hl 6 rfl) ?_
      refine kV (rSN hx hb hml hown hg hN hK hP hD (c_put l D cI cJ (XW ad cI cJ co fl ra li re wa ((lpW (slC (rd (gA pi 1) 41 k1) (rd (gA p_4 4) 1600 ((rd (gA pi 1) 41 k1) + (nI (i_4 + 1))))) (slF (rd (gA pi 1) 41 k1)) (i_4 + 1) (p_4, ((i_4 + 1)))).1)) 38 (ad 38) 1600 (gA ((lpW (slC (rd (gA pi 1) 41 k1) (rd (gA p_4 4) 1600 ((rd (gA pi 1) 41 k1) + (nI (i_4 + 1))))) (slF (rd (gA pi 1) 41 k1)) (i_4 + 1) (p_4, ((i_4 + 1)))).1) 4) ((rd (gA pi 1) 41 k1) + (nI ((lpW (slC (rd (gA pi 1) 41 k1) (rd (gA p_4 4) 1600 ((rd (gA pi 1) 41 k1) + (nI (i_4 + 1))))) (slF (rd (gA pi 1) 41 k1)) (i_4 + 1) (p_4, ((i_4 + 1)))).2))) (rd (gA p_4 4) 1600 ((rd (gA pi 1) 41 k1) + (nI (i_4 + 1)))) rfl (by decide)) mw_92 nw_95 mw_93 mw_77 pd_X7_put ⟨Nat.le_of_ble_eq_true rfl, Nat.le_of_ble_eq_true rfl⟩ rfl hl.1 rfl (Nat.le_of_ble_eq_true rfl) dX3_arrange_118 ⟨Nat.le_of_ble_eq_true rfl, Nat.le_of_ble_eq_true rfl⟩) hD hS hA (fun u_10 H locs hp hP hD hS => ?_)
      obtain rfl := hp.symm
      have hP : va_P D vwCl (XW ad cI cJ co fl ra li re wa (sA ((lpW (slC (rd (gA pi 1) 41 k1) (rd (gA p_4 4) 1600 ((rd (gA pi 1) 41 k1) + (nI (i_4 + 1))))) (slF (rd (gA pi 1) 41 k1)) (i_4 + 1) (p_4, ((i_4 + 1)))).1) 4 (wr (gA ((lpW (slC (rd (gA pi 1) 41 k1) (rd (gA p_4 4) 1600 ((rd (gA pi 1) 41 k1) + (nI (i_4 + 1))))) (slF (rd (gA pi 1) 41 k1)) (i_4 + 1) (p_4, ((i_4 + 1)))).1) 4) 1600 ((rd (gA pi 1) 41 k1) + (nI ((lpW (slC (rd (gA pi 1) 41 k1) (rd (gA p_4 4) 1600 ((rd (gA pi 1) 41 k1) + (nI (i_4 + 1))))) (slF (rd (gA pi 1) 41 k1)) (i_4 + 1) (p_4, ((i_4 + 1)))).2))) (rd (gA p_4 4) 1600 ((rd (gA pi 1) 41 k1) + (nI (i_4 + 1))))))) H := hP
      have hD : va_D A (XW ad cI cJ co fl ra li re wa (sA ((lpW (slC (rd (gA pi 1) 41 k1) (rd (gA p_4 4) 1600 ((rd (gA pi 1) 41 k1) + (nI (i_4 + 1))))) (slF (rd (gA pi 1) 41 k1)) (i_4 + 1) (p_4, ((i_4 + 1)))).1) 4 (wr (gA ((lpW (slC (rd (gA pi 1) 41 k1) (rd (gA p_4 4) 1600 ((rd (gA pi 1) 41 k1) + (nI (i_4 + 1))))) (slF (rd (gA pi 1) 41 k1)) (i_4 + 1) (p_4, ((i_4 + 1)))).1) 4) 1600 ((rd (gA pi 1) 41 k1) + (nI ((lpW (slC (rd (gA pi 1) 41 k1) (rd (gA p_4 4) 1600 ((rd (gA pi 1) 41 k1) + (nI (i_4 + 1))))) (slF (rd (gA pi 1) 41 k1)) (i_4 + 1) (p_4, ((i_4 + 1)))).2))) (rd (gA p_4 4) 1600 ((rd (gA pi 1) 41 k1) + (nI (i_4 + 1))))))) := hD
      refine lv_iinc (v := (nI (i_4 + 1 + 1))) (lv' := [(5, .int (nI (i_4 + 1 + 1))), (0, .ref (ad 6)), (1, .int k1), (2, .int k2), (3, .int (rd (gA pi 1) 41 k1)), (4, .int (sizeOf pi k1)), (6, .int (rd (gA p_4 4) 1600 ((rd (gA pi 1) 41 k1) + (nI (i_4 + 1))))), (7, .int (nI ((lpW (slC (rd (gA pi 1) 41 k1) (rd (gA p_4 4) 1600 ((rd (gA pi 1) 41 k1) + (nI (i_4 + 1))))) (slF (rd (gA pi 1) 41 k1)) (i_4 + 1) (p_4, ((i_4 + 1)))).2)))]) hx hb dX3_arrange_121 hl (k := 5) rfl (nI_1 (i_4 + 1)) (by decide) rfl (fun ls hl => ?_)
      refine lv_goto (tgt := 27) hx hb dX3_arrange_124 (by decide) ?_
      exact ih_4 (sA ((lpW (slC (rd (gA pi 1) 41 k1) (rd (gA p_4 4) 1600 ((rd (gA pi 1) 41 k1) + (nI (i_4 + 1))))) (slF (rd (gA pi 1) 41 k1)) (i_4 + 1) (p_4, ((i_4 + 1)))).1) 4 (wr (gA ((lpW (slC (rd (gA pi 1) 41 k1) (rd (gA p_4 4) 1600 ((rd (gA pi 1) 41 k1) + (nI (i_4 + 1))))) (slF (rd (gA pi 1) 41 k1)) (i_4 + 1) (p_4, ((i_4 + 1)))).1) 4) 1600 ((rd (gA pi 1) 41 k1) + (nI ((lpW (slC (rd (gA pi 1) 41 k1) (rd (gA p_4 4) 1600 ((rd (gA pi 1) 41 k1) + (nI (i_4 + 1))))) (slF (rd (gA pi 1) 41 k1)) (i_4 + 1) (p_4, ((i_4 + 1)))).2))) (rd (gA p_4 4) 1600 ((rd (gA pi 1) 41 k1) + (nI (i_4 + 1)))))) H locs ls ⟨((show (sA ((lpW (slC (rd (gA pi 1) 41 k1) (rd (gA p_4 4) 1600 ((rd (gA pi 1) 41 k1) + (nI (i_4 + 1))))) (slF (rd (gA pi 1) 41 k1)) (i_4 + 1) (p_4, ((i_4 + 1)))).1) 4 (wr (gA ((lpW (slC (rd (gA pi 1) 41 k1) (rd (gA p_4 4) 1600 ((rd (gA pi 1) 41 k1) + (nI (i_4 + 1))))) (slF (rd (gA pi 1) 41 k1)) (i_4 + 1) (p_4, ((i_4 + 1)))).1) 4) 1600 ((rd (gA pi 1) 41 k1) + (nI ((lpW (slC (rd (gA pi 1) 41 k1) (rd (gA p_4 4) 1600 ((rd (gA pi 1) 41 k1) + (nI (i_4 + 1))))) (slF (rd (gA pi 1) 41 k1)) (i_4 + 1) (p_4, ((i_4 + 1)))).2))) (rd (gA p_4 4) 1600 ((rd (gA pi 1) 41 k1) + (nI (i_4 + 1)))))) = (arStep (rd (gA pi 1) 41 k1)) i_4 p_4 from (by first | with_reducible rfl | (simp only [arStep, arPoint, slide_w, gi_sl, gi_sA, gi_sB, gi_si_s, gi_si_n, gl_si, gl_sA, gl_sB, gl_sl_s, gl_sl_n, gA_si, gA_sl, gA_sB, gA_sA_s, gA_sA_n, gB_si, gB_sl, gB_sA, gB_sB_s, gB_sB_n, Nat.reduceBEq, if_true, if_false, eq_self, Bool.false_eq_true, reduceCtorEq, not_true_eq_false, not_false_eq_true, decide_true, decide_false, cond_true, cond_false, Bool.true_and, Bool.false_and, Bool.and_true, Bool.and_false, Bool.true_or, Bool.false_or, Bool.or_true, Bool.or_false, b2i_tt, b2i_ff]; done) | rfl)).trans (lp_go h_4)), hP, hD, hS, lv_sub hl [1, 2, 3, 4, 5, 0] rfl⟩
    · obtain ⟨h_9, hf_9, hP, hD, hS, hl⟩ := hI
      have hP : va_P D vwCl (XW ad cI cJ co fl ra li re wa p_9.1) H := hP
      have hD : va_D A (XW ad cI cJ co fl ra li re wa p_9.1) := hD
      have hl : lv_has ls 8 [(0, .ref (ad 6)), (1, .int k1), (2, .int k2), (3, .int (rd (gA pi 1) 41 k1)), (4, .int (sizeOf pi k1)), (5, .int (nI (i_4 + 1))), (6, .int (rd (gA p_4 4) 1600 ((rd (gA pi 1) 41 k1) + (nI (i_4 + 1))))), (7, .int (nI p_9.2))] := hl
      refine lv_iload hx hb dX3_arrange_51 (lv_at hl 7 rfl) ?_
      refine lv_if_le (tgt := 108) hx hb dX3_arrange_53 (by decide) (fun c_53 => absurd c_53 (gt0' h_9 hf_9 hi_9 (by have := nN_lt (sizeOf pi k1); omega))) (fun _ => ?_)
      refine lv_aload_n hx hb dX3_arrange_56 rfl (lv_at hl 0 rfl) ?_
      refine lv_iload hx hb dX3_arrange_57 (lv_at hl 6 rfl) ?_
      refine lv_aload_n hx hb dX3_arrange_59 rfl (lv_at hl 0 rfl) ?_
      refine va_get (D := D) (ci := 3) (v := .ref (ad 38)) (C := RX3) (T := TX3) (N := 16) hx hb hg inGX3 hown hK hP 6 rfl rfl 5 (by decide) (hg _ mw_254) (fun _ h9 => h9) rfl dX3_arrange_60 ?_
      refine lv_iload_n hx hb dX3_arrange_63 rfl (lv_at hl 3 rfl) ?_
      refine lv_iload hx hb dX3_arrange_64 (lv_at hl 7 rfl) ?_
      refine lv_iadd hx hb dX3_arrange_66 ?_
      refine lv_iconst (v := 1) hx hb dX3_arrange_67 (by decide) ?_
      refine lv_isub hx hb dX3_arrange_68 ?_
      refine kI (rSN hx hb hml hown hg hN hK hP hD (c_at l D cI cJ (XW ad cI cJ co fl ra li re wa p_9.1) 38 (ad 38) 1600 (gA p_9.1 4) (((rd (gA pi 1) 41 k1) + (nI p_9.2)) - 1) rfl (by decide)) mw_84 nw_96 mw_85 mw_77 pd_X7_at ⟨Nat.le_of_ble_eq_true rfl, Nat.le_of_ble_eq_true rfl⟩ rfl hl.1 rfl (Nat.le_of_ble_eq_true rfl) dX3_arrange_69 ⟨Nat.le_of_ble_eq_true rfl, Nat.le_of_ble_eq_true rfl⟩) hD hS hA (fun r_11 u_11 H locs hp hP hD hS => ?_)
      obtain ⟨er, eu⟩ := hp
      obtain rfl := er.symm
      obtain rfl := eu.symm
      refine kI (rV (q0 := 6) (ci := 3) hx hb hml hown hg hN hK hP hD (c_isAhead l D cI cJ ad co fl ra li re wa p_9.1 (rd (gA p_4 4) 1600 ((rd (gA pi 1) 41 k1) + (nI (i_4 + 1)))) (rd (gA p_9.1 4) 1600 (((rd (gA pi 1) 41 k1) + (nI p_9.2)) - 1))) mw_305 mw_306 mw_307 mw_308 mw_234 pdv_X3_isAhead ⟨Nat.le_of_ble_eq_true rfl, Nat.le_of_ble_eq_true rfl⟩ rfl rfl rfl hl.1 rfl (Nat.le_of_ble_eq_true rfl) dX3_arrange_72 ⟨Nat.le_of_ble_eq_true rfl, Nat.le_of_ble_eq_true rfl⟩) hD hS hA (fun r_12 u_12 H locs hp hP hD hS => ?_)
      obtain ⟨er, eu⟩ := hp
      obtain rfl := er.symm
      obtain rfl := eu.symm
      refine lv_if_eq (tgt := 108) hx hb dX3_arrange_75 (by decide) (fun c_75 => ?_) (fun c_75 => ?_)
      · have c_75 : ¬ (isAhead p_9.1 (rd (gA p_4 4) 1600 ((rd (gA pi 1) 41 k1) + (nI (i_4 + 1)))) (rd (gA p_9.1 4) 1600 (((rd (gA pi 1) 41 k1) + (nI p_9.2)) - 1))) = true := b2i_0 c_75
        have h_9 : p_9 = (lpW (slC (rd (gA pi 1) 41 k1) (rd (gA p_4 4) 1600 ((rd (gA pi 1) 41 k1) + (nI (i_4 + 1))))) (slF (rd (gA pi 1) 41 k1)) (i_4 + 1) (p_4, ((i_4 + 1)))) := lpW_stop h_9 (by first | (simp only [slC, if_neg c_75, bf_of c_75, gi_sl, gi_sA, gi_sB, gi_si_s, gi_si_n, gl_si, gl_sA, gl_sB, gl_sl_s, gl_sl_n, gA_si, gA_sl, gA_sB, gA_sA_s, gA_sA_n, gB_si, gB_sl, gB_sA, gB_sB_s, gB_sB_n, Nat.reduceBEq, if_true, if_false, eq_self, Bool.false_eq_true, reduceCtorEq, not_true_eq_false, not_false_eq_true, decide_true, decide_false, cond_true, cond_false, Bool.true_and, Bool.false_and, Bool.and_true, Bool.and_false, Bool.true_or, Bool.false_or, Bool.or_true, Bool.or_false, b2i_tt, b2i_ff]; done) | (simp only [slC, if_neg c_75, bf_of c_75, gi_sl, gi_sA, gi_sB, gi_si_s, gi_si_n, gl_si, gl_sA, gl_sB, gl_sl_s, gl_sl_n, gA_si, gA_sl, gA_sB, gA_sA_s, gA_sA_n, gB_si, gB_sl, gB_sA, gB_sB_s, gB_sB_n, Nat.reduceBEq, if_true, if_false, eq_self, Bool.false_eq_true, reduceCtorEq, not_true_eq_false, not_false_eq_true, decide_true, decide_false, cond_true, cond_false, Bool.true_and, Bool.false_and, Bool.and_true, Bool.and_false, Bool.true_or, Bool.false_or, Bool.or_true, Bool.or_false, b2i_tt, b2i_ff]; rfl) | (simp [slC, c_75, gi_sl, gi_sA, gi_sB, gi_si_s, gi_si_n, gl_si, gl_sA, gl_sB, gl_sl_s, gl_sl_n, gA_si, gA_sl, gA_sB, gA_sA_s, gA_sA_n, gB_si, gB_sl, gB_sA, gB_sB_s, gB_sB_n, Nat.reduceBEq]; done)) (Nat.le_of_lt hi_9)
        have h_9 := h_9.symm
        subst h_9
        have hP : va_P D vwCl (XW ad cI cJ co fl ra li re wa ((lpW (slC (rd (gA pi 1) 41 k1) (rd (gA p_4 4) 1600 ((rd (gA pi 1) 41 k1) + (nI (i_4 + 1))))) (slF (rd (gA pi 1) 41 k1)) (i_4 + 1) (p_4, ((i_4 + 1)))).1)) H := hP
        have hD : va_D A (XW ad cI cJ co fl ra li re wa ((lpW (slC (rd (gA pi 1) 41 k1) (rd (gA p_4 4) 1600 ((rd (gA pi 1) 41 k1) + (nI (i_4 + 1))))) (slF (rd (gA pi 1) 41 k1)) (i_4 + 1) (p_4, ((i_4 + 1)))).1)) := hD
        have hl : lv_has ls 8 [(0, .ref (ad 6)), (1, .int k1), (2, .int k2), (3, .int (rd (gA pi 1) 41 k1)), (4, .int (sizeOf pi k1)), (5, .int (nI (i_4 + 1))), (6, .int (rd (gA p_4 4) 1600 ((rd (gA pi 1) 41 k1) + (nI (i_4 + 1))))), (7, .int (nI ((lpW (slC (rd (gA pi 1) 41 k1) (rd (gA p_4 4) 1600 ((rd (gA pi 1) 41 k1) + (nI (i_4 + 1))))) (slF (rd (gA pi 1) 41 k1)) (i_4 + 1) (p_4, ((i_4 + 1)))).2)))] := hl
        refine lv_aload_n hx hb dX3_arrange_108 rfl (lv_at hl 0 rfl) ?_
        refine va_get (D := D) (ci := 3) (v := .ref (ad 38)) (C := RX3) (T := TX3) (N := 16) hx hb hg inGX3 hown hK hP 6 rfl rfl 5 (by decide) (hg _ mw_254) (fun _ h9 => h9) rfl dX3_arrange_109 ?_
        refine lv_iload_n hx hb dX3_arrange_112 rfl (lv_at hl 3 rfl) ?_
        refine lv_iload hx hb dX3_arrange_113 (lv_at hl 7 rfl) ?_
        refine lv_iadd hx hb dX3_arrange_115 ?_
        refine lv_iload hx hb dX3_arrange_116 (lv_at hl 6 rfl) ?_
        refine kV (rSN hx hb hml hown hg hN hK hP hD (c_put l D cI cJ (XW ad cI cJ co fl ra li re wa ((lpW (slC (rd (gA pi 1) 41 k1) (rd (gA p_4 4) 1600 ((rd (gA pi 1) 41 k1) + (nI (i_4 + 1))))) (slF (rd (gA pi 1) 41 k1)) (i_4 + 1) (p_4, ((i_4 + 1)))).1)) 38 (ad 38) 1600 (gA ((lpW (slC (rd (gA pi 1) 41 k1) (rd (gA p_4 4) 1600 ((rd (gA pi 1) 41 k1) + (nI (i_4 + 1))))) (slF (rd (gA pi 1) 41 k1)) (i_4 + 1) (p_4, ((i_4 + 1)))).1) 4) ((rd (gA pi 1) 41 k1) + (nI ((lpW (slC (rd (gA pi 1) 41 k1) (rd (gA p_4 4) 1600 ((rd (gA pi 1) 41 k1) + (nI (i_4 + 1))))) (slF (rd (gA pi 1) 41 k1)) (i_4 + 1) (p_4, ((i_4 + 1)))).2))) (rd (gA p_4 4) 1600 ((rd (gA pi 1) 41 k1) + (nI (i_4 + 1)))) rfl (by decide)) mw_92 nw_95 mw_93 mw_77 pd_X7_put ⟨Nat.le_of_ble_eq_true rfl, Nat.le_of_ble_eq_true rfl⟩ rfl hl.1 rfl (Nat.le_of_ble_eq_true rfl) dX3_arrange_118 ⟨Nat.le_of_ble_eq_true rfl, Nat.le_of_ble_eq_true rfl⟩) hD hS hA (fun u_13 H locs hp hP hD hS => ?_)
        obtain rfl := hp.symm
        have hP : va_P D vwCl (XW ad cI cJ co fl ra li re wa (sA ((lpW (slC (rd (gA pi 1) 41 k1) (rd (gA p_4 4) 1600 ((rd (gA pi 1) 41 k1) + (nI (i_4 + 1))))) (slF (rd (gA pi 1) 41 k1)) (i_4 + 1) (p_4, ((i_4 + 1)))).1) 4 (wr (gA ((lpW (slC (rd (gA pi 1) 41 k1) (rd (gA p_4 4) 1600 ((rd (gA pi 1) 41 k1) + (nI (i_4 + 1))))) (slF (rd (gA pi 1) 41 k1)) (i_4 + 1) (p_4, ((i_4 + 1)))).1) 4) 1600 ((rd (gA pi 1) 41 k1) + (nI ((lpW (slC (rd (gA pi 1) 41 k1) (rd (gA p_4 4) 1600 ((rd (gA pi 1) 41 k1) + (nI (i_4 + 1))))) (slF (rd (gA pi 1) 41 k1)) (i_4 + 1) (p_4, ((i_4 + 1)))).2))) (rd (gA p_4 4) 1600 ((rd (gA pi 1) 41 k1) + (nI (i_4 + 1))))))) H := hP
        have hD : va_D A (XW ad cI cJ co fl ra li re wa (sA ((lpW (slC (rd (gA pi 1) 41 k1) (rd (gA p_4 4) 1600 ((rd (gA pi 1) 41 k1) + (nI (i_4 + 1))))) (slF (rd (gA pi 1) 41 k1)) (i_4 + 1) (p_4, ((i_4 + 1)))).1) 4 (wr (gA ((lpW (slC (rd (gA pi 1) 41 k1) (rd (gA p_4 4) 1600 ((rd (gA pi 1) 41 k1) + (nI (i_4 + 1))))) (slF (rd (gA pi 1) 41 k1)) (i_4 + 1) (p_4, ((i_4 + 1)))).1) 4) 1600 ((rd (gA pi 1) 41 k1) + (nI ((lpW (slC (rd (gA pi 1) 41 k1) (rd (gA p_4 4) 1600 ((rd (gA pi 1) 41 k1) + (nI (i_4 + 1))))) (slF (rd (gA pi 1) 41 k1)) (i_4 + 1) (p_4, ((i_4 + 1)))).2))) (rd (gA p_4 4) 1600 ((rd (gA pi 1) 41 k1) + (nI (i_4 + 1))))))) := hD
        refine lv_iinc (v := (nI (i_4 + 1 + 1))) (lv' := [(5, .int (nI (i_4 + 1 + 1))), (0, .ref (ad 6)), (1, .int k1), (2, .int k2), (3, .int (rd (gA pi 1) 41 k1)), (4, .int (sizeOf pi k1)), (6, .int (rd (gA p_4 4) 1600 ((rd (gA pi 1) 41 k1) + (nI (i_4 + 1))))), (7, .int (nI ((lpW (slC (rd (gA pi 1) 41 k1) (rd (gA p_4 4) 1600 ((rd (gA pi 1) 41 k1) + (nI (i_4 + 1))))) (slF (rd (gA pi 1) 41 k1)) (i_4 + 1) (p_4, ((i_4 + 1)))).2)))]) hx hb dX3_arrange_121 hl (k := 5) rfl (nI_1 (i_4 + 1)) (by decide) rfl (fun ls hl => ?_)
        refine lv_goto (tgt := 27) hx hb dX3_arrange_124 (by decide) ?_
        exact ih_4 (sA ((lpW (slC (rd (gA pi 1) 41 k1) (rd (gA p_4 4) 1600 ((rd (gA pi 1) 41 k1) + (nI (i_4 + 1))))) (slF (rd (gA pi 1) 41 k1)) (i_4 + 1) (p_4, ((i_4 + 1)))).1) 4 (wr (gA ((lpW (slC (rd (gA pi 1) 41 k1) (rd (gA p_4 4) 1600 ((rd (gA pi 1) 41 k1) + (nI (i_4 + 1))))) (slF (rd (gA pi 1) 41 k1)) (i_4 + 1) (p_4, ((i_4 + 1)))).1) 4) 1600 ((rd (gA pi 1) 41 k1) + (nI ((lpW (slC (rd (gA pi 1) 41 k1) (rd (gA p_4 4) 1600 ((rd (gA pi 1) 41 k1) + (nI (i_4 + 1))))) (slF (rd (gA pi 1) 41 k1)) (i_4 + 1) (p_4, ((i_4 + 1)))).2))) (rd (gA p_4 4) 1600 ((rd (gA pi 1) 41 k1) + (nI (i_4 + 1)))))) H locs ls ⟨((show (sA ((lpW (slC (rd (gA pi 1) 41 k1) (rd (gA p_4 4) 1600 ((rd (gA pi 1) 41 k1) + (nI (i_4 + 1))))) (slF (rd (gA pi 1) 41 k1)) (i_4 + 1) (p_4, ((i_4 + 1)))).1) 4 (wr (gA ((lpW (slC (rd (gA pi 1) 41 k1) (rd (gA p_4 4) 1600 ((rd (gA pi 1) 41 k1) + (nI (i_4 + 1))))) (slF (rd (gA pi 1) 41 k1)) (i_4 + 1) (p_4, ((i_4 + 1)))).1) 4) 1600 ((rd (gA pi 1) 41 k1) + (nI ((lpW (slC (rd (gA pi 1) 41 k1) (rd (gA p_4 4) 1600 ((rd (gA pi 1) 41 k1) + (nI (i_4 + 1))))) (slF (rd (gA pi 1) 41 k1)) (i_4 + 1) (p_4, ((i_4 + 1)))).2))) (rd (gA p_4 4) 1600 ((rd (gA pi 1) 41 k1) + (nI (i_4 + 1)))))) = (arStep (rd (gA pi 1) 41 k1)) i_4 p_4 from (by first | (simp only [arStep, arPoint, slide_w, if_neg c_75, bf_of c_75, gi_sl, gi_sA, gi_sB, gi_si_s, gi_si_n, gl_si, gl_sA, gl_sB, gl_sl_s, gl_sl_n, gA_si, gA_sl, gA_sB, gA_sA_s, gA_sA_n, gB_si, gB_sl, gB_sA, gB_sB_s, gB_sB_n, Nat.reduceBEq, if_true, if_false, eq_self, Bool.false_eq_true, reduceCtorEq, not_true_eq_false, not_false_eq_true, decide_true, decide_false, cond_true, cond_false, Bool.true_and, Bool.false_and, Bool.and_true, Bool.and_false, Bool.true_or, Bool.false_or, Bool.or_true, Bool.or_false, b2i_tt, b2i_ff]; done) | (simp only [arStep, arPoint, slide_w, if_neg c_75, bf_of c_75, gi_sl, gi_sA, gi_sB, gi_si_s, gi_si_n, gl_si, gl_sA, gl_sB, gl_sl_s, gl_sl_n, gA_si, gA_sl, gA_sB, gA_sA_s, gA_sA_n, gB_si, gB_sl, gB_sA, gB_sB_s, gB_sB_n, Nat.reduceBEq, if_true, if_false, eq_self, Bool.false_eq_true, reduceCtorEq, not_true_eq_false, not_false_eq_true, decide_true, decide_false, cond_true, cond_false, Bool.true_and, Bool.false_and, Bool.and_true, Bool.and_false, Bool.true_or, Bool.false_or, Bool.or_true, Bool.or_false, b2i_tt, b2i_ff]; rfl) | (simp [arStep, arPoint, slide_w, c_75, gi_sl, gi_sA, gi_sB, gi_si_s, gi_si_n, gl_si, gl_sA, gl_sB, gl_sl_s, gl_sl_n, gA_si, gA_sl, gA_sB, gA_sA_s, gA_sA_n, gB_si, gB_sl, gB_sA, gB_sB_s, gB_sB_n, Nat.reduceBEq]; done))).trans (lp_go h_4)), hP, hD, hS, lv_sub hl [1, 2, 3, 4, 5, 0] rfl⟩
      · have c_75 : (isAhead p_9.1 (rd (gA p_4 4) 1600 ((rd (gA pi 1) 41 k1) + (nI (i_4 + 1)))) (rd (gA p_9.1 4) 1600 (((rd (gA pi 1) 41 k1) + (nI p_9.2)) - 1))) = true := b2i_1 c_75
        refine lv_aload_n hx hb dX3_arrange_78 rfl (lv_at hl 0 rfl) ?_
        refine va_get (D := D) (ci := 3) (v := .ref (ad 38)) (C := RX3) (T := TX3) (N := 16) hx hb hg inGX3 hown hK hP 6 rfl rfl 5 (by decide) (hg _ mw_254) (fun _ h9 => h9) rfl dX3_arrange_79 ?_
        refine lv_iload_n hx hb dX3_arrange_82 rfl (lv_at hl 3 rfl) ?_
        refine lv_iload hx hb dX3_arrange_83 (lv_at hl 7 rfl) ?_
        refine lv_iadd hx hb dX3_arrange_85 ?_
        refine lv_aload_n hx hb dX3_arrange_86 rfl (lv_at hl 0 rfl) ?_
        refine va_get (D := D) (ci := 3) (v := .ref (ad 38)) (C := RX3) (T := TX3) (N := 16) hx hb hg inGX3 hown hK hP 6 rfl rfl 5 (by decide) (hg _ mw_254) (fun _ h9 => h9) rfl dX3_arrange_87 ?_
        refine lv_iload_n hx hb dX3_arrange_90 rfl (lv_at hl 3 rfl) ?_
        refine lv_iload hx hb dX3_arrange_91 (lv_at hl 7 rfl) ?_
        refine lv_iadd hx hb dX3_arrange_93 ?_
        refine lv_iconst (v := 1) hx hb dX3_arrange_94 (by decide) ?_
        refine lv_isub hx hb dX3_arrange_95 ?_
        refine kI (rSN hx hb hml hown hg hN hK hP hD (c_at l D cI cJ (XW ad cI cJ co fl ra li re wa p_9.1) 38 (ad 38) 1600 (gA p_9.1 4) (((rd (gA pi 1) 41 k1) + (nI p_9.2)) - 1) rfl (by decide)) mw_84 nw_96 mw_85 mw_77 pd_X7_at ⟨Nat.le_of_ble_eq_true rfl, Nat.le_of_ble_eq_true rfl⟩ rfl hl.1 rfl (Nat.le_of_ble_eq_true rfl) dX3_arrange_96 ⟨Nat.le_of_ble_eq_true rfl, Nat.le_of_ble_eq_true rfl⟩) hD hS hA (fun r_14 u_14 H locs hp hP hD hS => ?_)
        obtain ⟨er, eu⟩ := hp
        obtain rfl := er.symm
        obtain rfl := eu.symm
        refine kV (rSN hx hb hml hown hg hN hK hP hD (c_put l D cI cJ (XW ad cI cJ co fl ra li re wa p_9.1) 38 (ad 38) 1600 (gA p_9.1 4) ((rd (gA pi 1) 41 k1) + (nI p_9.2)) (rd (gA p_9.1 4) 1600 (((rd (gA pi 1) 41 k1) + (nI p_9.2)) - 1)) rfl (by decide)) mw_92 nw_95 mw_93 mw_77 pd_X7_put ⟨Nat.le_of_ble_eq_true rfl, Nat.le_of_ble_eq_true rfl⟩ rfl hl.1 rfl (Nat.le_of_ble_eq_true rfl) dX3_arrange_99 ⟨Nat.le_of_ble_eq_true rfl, Nat.le_of_ble_eq_true rfl⟩) hD hS hA (fun u_15 H locs hp hP hD hS => ?_)
        obtain rfl := hp.symm
        have hP : va_P D vwCl (XW ad cI cJ co fl ra li re wa (sA p_9.1 4 (wr (gA p_9.1 4) 1600 ((rd (gA pi 1) 41 k1) + (nI p_9.2)) (rd (gA p_9.1 4) 1600 (((rd (gA pi 1) 41 k1) + (nI p_9.2)) - 1))))) H := hP
        have hD : va_D A (XW ad cI cJ co fl ra li re wa (sA p_9.1 4 (wr (gA p_9.1 4) 1600 ((rd (gA pi 1) 41 k1) + (nI p_9.2)) (rd (gA p_9.1 4) 1600 (((rd (gA pi 1) 41 k1) + (nI p_9.2)) - 1))))) := hD
        refine lv_iinc (v := (nI (p_9.2 - 1))) (lv' := [(7, .int (nI (p_9.2 - 1))), (0, .ref (ad 6)), (1, .int k1), (2, .int k2), (3, .int (rd (gA pi 1) 41 k1)), (4, .int (sizeOf pi k1)), (5, .int (nI (i_4 + 1))), (6, .int (rd (gA p_4 4) 1600 ((rd (gA pi 1) 41 k1) + (nI (i_4 + 1)))))]) hx hb dX3_arrange_102 hl (k := 7) rfl (sb_m1 (gt0 h_9 hf_9 hi_9)) (by decide) rfl (fun ls hl => ?_)
        refine lv_goto (tgt := 51) hx hb dX3_arrange_105 (by decide) ?_
        exact ih_9 ((sA p_9.1 4 (wr (gA p_9.1 4) 1600 ((rd (gA pi 1) 41 k1) + (nI p_9.2)) (rd (gA p_9.1 4) 1600 (((rd (gA pi 1) 41 k1) + (nI p_9.2)) - 1)))), ((p_9.2 - 1))) H locs ls ⟨((show ((sA p_9.1 4 (wr (gA p_9.1 4) 1600 ((rd (gA pi 1) 41 k1) + (nI p_9.2)) (rd (gA p_9.1 4) 1600 (((rd (gA pi 1) 41 k1) + (nI p_9.2)) - 1)))), ((p_9.2 - 1))) = (slF (rd (gA pi 1) 41 k1)) p_9 from (by first | (simp only [slF, slidePut, Nat.add_sub_cancel, if_pos c_75, c_75, gi_sl, gi_sA, gi_sB, gi_si_s, gi_si_n, gl_si, gl_sA, gl_sB, gl_sl_s, gl_sl_n, gA_si, gA_sl, gA_sB, gA_sA_s, gA_sA_n, gB_si, gB_sl, gB_sA, gB_sB_s, gB_sB_n, Nat.reduceBEq, if_true, if_false, eq_self, Bool.false_eq_true, reduceCtorEq, not_true_eq_false, not_false_eq_true, decide_true, decide_false, cond_true, cond_false, Bool.true_and, Bool.false_and, Bool.and_true, Bool.and_false, Bool.true_or, Bool.false_or, Bool.or_true, Bool.or_false, b2i_tt, b2i_ff]; done) | (simp only [slF, slidePut, Nat.add_sub_cancel, if_pos c_75, c_75, gi_sl, gi_sA, gi_sB, gi_si_s, gi_si_n, gl_si, gl_sA, gl_sB, gl_sl_s, gl_sl_n, gA_si, gA_sl, gA_sB, gA_sA_s, gA_sA_n, gB_si, gB_sl, gB_sA, gB_sB_s, gB_sB_n, Nat.reduceBEq, if_true, if_false, eq_self, Bool.false_eq_true, reduceCtorEq, not_true_eq_false, not_false_eq_true, decide_true, decide_false, cond_true, cond_false, Bool.true_and, Bool.false_and, Bool.and_true, Bool.and_false, Bool.true_or, Bool.false_or, Bool.or_true, Bool.or_false, b2i_tt, b2i_ff]; rfl) | (simp [slF, slidePut, Nat.add_sub_cancel, c_75, gi_sl, gi_sA, gi_sB, gi_si_s, gi_si_n, gl_si, gl_sA, gl_sB, gl_sl_s, gl_sl_n, gA_si, gA_sl, gA_sB, gA_sA_s, gA_sA_n, gB_si, gB_sl, gB_sA, gB_sB_s, gB_sB_n, Nat.reduceBEq]; done))).trans (lpW_go h_9 (by first | (simp only [slC, if_pos c_75, c_75, gi_sl, gi_sA, gi_sB, gi_si_s, gi_si_n, gl_si, gl_sA, gl_sB, gl_sl_s, gl_sl_n, gA_si, gA_sl, gA_sB, gA_sA_s, gA_sA_n, gB_si, gB_sl, gB_sA, gB_sB_s, gB_sB_n, Nat.reduceBEq, if_true, if_false, eq_self, Bool.false_eq_true, reduceCtorEq, not_true_eq_false, not_false_eq_true, decide_true, decide_false, cond_true, cond_false, Bool.true_and, Bool.false_and, Bool.and_true, Bool.and_false, Bool.true_or, Bool.false_or, Bool.or_true, Bool.or_false, b2i_tt, b2i_ff]; done) | (simp only [slC, if_pos c_75, c_75, gi_sl, gi_sA, gi_sB, gi_si_s, gi_si_n, gl_si, gl_sA, gl_sB, gl_sl_s, gl_sl_n, gA_si, gA_sl, gA_sB, gA_sA_s, gA_sA_n, gB_si, gB_sl, gB_sA, gB_sB_s, gB_sB_n, Nat.reduceBEq, if_true, if_false, eq_self, Bool.false_eq_true, reduceCtorEq, not_true_eq_false, not_false_eq_true, decide_true, decide_false, cond_true, cond_false, Bool.true_and, Bool.false_and, Bool.and_true, Bool.and_false, Bool.true_or, Bool.false_or, Bool.or_true, Bool.or_false, b2i_tt, b2i_ff]; rfl) | (simp [slC, c_75, gi_sl, gi_sA, gi_sB, gi_si_s, gi_si_n, gl_si, gl_sA, gl_sB, gl_sl_s, gl_sl_n, gA_si, gA_sl, gA_sB, gA_sA_s, gA_sA_n, gB_si, gB_sl, gB_sA, gB_sB_s, gB_sB_n, Nat.reduceBEq]; done)))), (sl_fact h_9 (by first | (simp only [slC, decide_eq_true (gt0 h_9 hf_9 hi_9), if_pos c_75, c_75, gi_sl, gi_sA, gi_sB, gi_si_s, gi_si_n, gl_si, gl_sA, gl_sB, gl_sl_s, gl_sl_n, gA_si, gA_sl, gA_sB, gA_sA_s, gA_sA_n, gB_si, gB_sl, gB_sA, gB_sB_s, gB_sB_n, Nat.reduceBEq, if_true, if_false, eq_self, Bool.false_eq_true, reduceCtorEq, not_true_eq_false, not_false_eq_true, decide_true, decide_false, cond_true, cond_false, Bool.true_and, Bool.false_and, Bool.and_true, Bool.and_false, Bool.true_or, Bool.false_or, Bool.or_true, Bool.or_false, b2i_tt, b2i_ff]; done) | (simp only [slC, decide_eq_true (gt0 h_9 hf_9 hi_9), if_pos c_75, c_75, gi_sl, gi_sA, gi_sB, gi_si_s, gi_si_n, gl_si, gl_sA, gl_sB, gl_sl_s, gl_sl_n, gA_si, gA_sl, gA_sB, gA_sA_s, gA_sA_n, gB_si, gB_sl, gB_sA, gB_sB_s, gB_sB_n, Nat.reduceBEq, if_true, if_false, eq_self, Bool.false_eq_true, reduceCtorEq, not_true_eq_false, not_false_eq_true, decide_true, decide_false, cond_true, cond_false, Bool.true_and, Bool.false_and, Bool.and_true, Bool.and_false, Bool.true_or, Bool.false_or, Bool.or_true, Bool.or_false, b2i_tt, b2i_ff]; rfl) | (simp [slC, decide_eq_true (gt0 h_9 hf_9 hi_9), c_75, gi_sl, gi_sA, gi_sB, gi_si_s, gi_si_n, gl_si, gl_sA, gl_sB, gl_sl_s, gl_sl_n, gA_si, gA_sl, gA_sB, gA_sA_s, gA_sA_n, gB_si, gB_sl, gB_sA, gB_sB_s, gB_sB_n, Nat.reduceBEq]; done)) hf_9 hi_9), hP, hD, hS, lv_sub hl [1, 2, 3, 4, 5, 6, 7, 0] rfl⟩
set_option maxHeartbeats 4000000 in
set_option maxRecDepth 100000 in
theorem c_sweepOften (l : Launch) (D : va_G) (cI cJ : ClassId) (ad : Nat → Nat) (co fl ra li re wa pi : Ob) (k1 : Int32) : CT l D (TY cI cJ) yX3_sweepOften (.code yX3_sweepOften cX3_sweepOften 5 (none : Option FieldType)) 5 0 0 (XW ad cI cJ co fl ra li re wa pi) [.ref (ad 6), .int k1] (QV D (TY cI cJ) (fun u => u = (XW ad cI cJ co fl ra li re wa (sweepOften wa pi k1)))) := by
  refine ent (by decide) (Nat.le_of_ble_eq_true rfl) ?_
  intro p e s m below meth c ls A hx hb hr hg hown hml hlocks hnm hP hK hD hS hA hN hl
  have hl : lv_has ls 5 [(0, .ref (ad 6)), (1, .int k1)] := hl
  refine lv_iconst (v := 0) hx hb dX3_sweepOften_0 (by decide) ?_
  refine lv_istore_n (lv' := [(2, .int 0), (0, .ref (ad 6)), (1, .int k1)]) hx hb dX3_sweepOften_1 rfl hl (by decide) rfl (fun ls hl => ?_)
  refine w_loop (σ := Ob) (fun (i_1 : Nat) (p_1 : Ob) (H : Heap) (locs : List Loc) (ls : Array Slot) => p_1 = (lp (soStep wa) i_1 pi) ∧ va_P D vwCl (XW ad cI cJ co fl ra li re wa p_1) H ∧ va_D A (XW ad cI cJ co fl ra li re wa p_1) ∧ va_S A s.heap H locs ∧ lv_has ls 5 [(0, .ref (ad 6)), (1, .int k1), (2, .int (nI i_1))]) (nN k1) (fun p_1 H locs ls hI => ?_) (fun i_1 p_1 H locs ls hi_1 hI ih_1 => ?_) 0 pi (Nat.zero_le _) ⟨rfl, hP, hD, hS, (by rw [nI_0]; exact lv_sub hl [1, 2, 0] rfl)⟩
  · obtain ⟨h_1, hP, hD, hS, hl⟩ := hI
    have h_1 := h_1.symm
    subst h_1
    have hP : va_P D vwCl (XW ad cI cJ co fl ra li re wa ((lp (soStep wa) (nN k1) pi))) H := hP
    have hD : va_D A (XW ad cI cJ co fl ra li re wa ((lp (soStep wa) (nN k1) pi))) := hD
    have hl : lv_has ls 5 [(0, .ref (ad 6)), (1, .int k1), (2, .int (nI ((nN k1))))] := hl
    refine lv_iload_n hx hb dX3_sweepOften_2 rfl (lv_at hl 2 rfl) ?_
    refine lv_iload_n hx hb dX3_sweepOften_3 rfl (lv_at hl 1 rfl) ?_
    refine lv_icmp_ge (tgt := 93) hx hb dX3_sweepOften_4 (by decide) (fun _ => ?_) (fun c_4 => absurd (lp_out _) c_4)
    exact W.vret hx hb hr (fun t ht hW => ⟨⟨(XW ad cI cJ co fl ra li re wa ((lp (soStep wa) (nN k1) pi))), rfl, xw_eq rfl rfl rfl rfl rfl rfl (show ((lp (soStep wa) (nN k1) pi)) = (sweepOften wa pi k1) from (by first | with_reducible rfl | (simp only [sweepOften, gi_sl, gi_sA, gi_sB, gi_si_s, gi_si_n, gl_si, gl_sA, gl_sB, gl_sl_s, gl_sl_n, gA_si, gA_sl, gA_sB, gA_sA_s, gA_sA_n, gB_si, gB_sl, gB_sA, gB_sB_s, gB_sB_n, Nat.reduceBEq, if_true, if_false, eq_self, Bool.false_eq_true, reduceCtorEq, not_true_eq_false, not_false_eq_true, decide_true, decide_false, cond_true, cond_false, Bool.true_and, Bool.false_and, Bool.and_true, Bool.and_false, Bool.true_or, Bool.false_or, Bool.or_true, Bool.or_false, b2i_tt, b2i_ff]; done) | rfl)), ⟨by rw [ht]; exact hP, va_K.moved hW.alike hK, hD⟩⟩, hS.F ht⟩) hS.2.2 dX3_sweepOften_93
  · obtain ⟨h_1, hP, hD, hS, hl⟩ := hI
    have hP : va_P D vwCl (XW ad cI cJ co fl ra li re wa p_1) H := hP
    have hD : va_D A (XW ad cI cJ co fl ra li re wa p_1) := hD
    have hl : lv_has ls 5 [(0, .ref (ad 6)), (1, .int k1), (2, .int (nI i_1))] := hl
    refine lv_iload_n hx hb dX3_sweepOften_2 rfl (lv_at hl 2 rfl) ?_
    refine lv_iload_n hx hb dX3_sweepOften_3 rfl (lv_at hl 1 rfl) ?_
    refine lv_icmp_ge (tgt := 93) hx hb dX3_sweepOften_4 (by decide) (fun c_4 => absurd c_4 (lp_in hi_1)) (fun _ => ?_)
    refine lv_aload_n hx hb dX3_sweepOften_7 rfl (lv_at hl 0 rfl) ?_
    refine va_get (D := D) (ci := 3) (v := .int (gi p_1 2)) (C := RX3) (T := TX3) (N := 16) hx hb hg inGX3 hown hK hP 6 rfl rfl 14 (by decide) (hg _ mw_265) (fun _ h9 => h9) rfl dX3_sweepOften_8 ?_
    refine lv_iconst (v := 1) hx hb dX3_sweepOften_11 (by decide) ?_
    refine lv_iand hx hb dX3_sweepOften_12 ?_
    refine lv_if_ne (tgt := 20) hx hb dX3_sweepOften_13 (by decide) (fun c_13 => ?_) (fun c_13 => ?_)
    · refine lv_iconst (v := 0) hx hb dX3_sweepOften_20 (by decide) ?_
      refine lv_istore_n (lv' := [(3, .int 0), (0, .ref (ad 6)), (1, .int k1), (2, .int (nI i_1))]) hx hb dX3_sweepOften_21 rfl hl (by decide) rfl (fun ls hl => ?_)
      refine lv_iconst (v := 1) hx hb dX3_sweepOften_22 (by decide) ?_
      refine lv_istore (lv' := [(4, .int 1), (3, .int 0), (0, .ref (ad 6)), (1, .int k1), (2, .int (nI i_1))]) hx hb dX3_sweepOften_23 hl (by decide) rfl (fun ls hl => ?_)
      refine w_loop (σ := Ob) (fun (i_2 : Nat) (p_2 : Ob) (H : Heap) (locs : List Loc) (ls : Array Slot) => p_2 = (lp (soK wa (soDown p_1)) i_2 p_1) ∧ va_P D vwCl (XW ad cI cJ co fl ra li re wa p_2) H ∧ va_D A (XW ad cI cJ co fl ra li re wa p_2) ∧ va_S A s.heap H locs ∧ lv_has ls 5 [(0, .ref (ad 6)), (1, .int k1), (2, .int (nI i_1)), (3, .int 0), (4, .int (nI (i_2 + 1)))]) (nN (gi p_1 1) - 1) (fun p_2 H locs ls hI => ?_) (fun i_2 p_2 H locs ls hi_2 hI ih_2 => ?_) 0 p_1 (Nat.zero_le _) ⟨rfl, hP, hD, hS, (by rw [nI_01]; exact lv_sub hl [2, 3, 4, 1, 0] rfl)⟩
      · obtain ⟨h_2, hP, hD, hS, hl⟩ := hI
        have h_2 := h_2.symm
        subst h_2
        have hP : va_P D vwCl (XW ad cI cJ co fl ra li re wa ((lp (soK wa (soDown p_1)) (nN (gi p_1 1) - 1) p_1))) H := hP
        have hD : va_D A (XW ad cI cJ co fl ra li re wa ((lp (soK wa (soDown p_1)) (nN (gi p_1 1) - 1) p_1))) := hD
        have hl : lv_has ls 5 [(0, .ref (ad 6)), (1, .int k1), (2, .int (nI i_1)), (3, .int 0), (4, .int (nI ((nN (gi p_1 1) - 1) + 1)))] := hl
        refine lv_iload hx hb dX3_sweepOften_25 (lv_at hl 4 rfl) ?_
        refine lv_aload_n hx hb dX3_sweepOften_27 rfl (lv_at hl 0 rfl) ?_
        refine va_get (D := D) (ci := 3) (v := .int (gi ((lp (soK wa (soDown p_1)) (nN (gi p_1 1) - 1) p_1)) 1)) (C := RX3) (T := TX3) (N := 16) hx hb hg inGX3 hown hK hP 6 rfl rfl 13 (by decide) (hg _ mw_235) (fun _ h9 => h9) rfl dX3_sweepOften_28 ?_
        refine lv_icmp_ge (tgt := 77) hx hb dX3_sweepOften_31 (by decide) (fun _ => ?_) (fun c_31 => absurd (by rw [k_soL]; exact n1_out _) c_31)
        refine lv_aload_n hx hb dX3_sweepOften_77 rfl (lv_at hl 0 rfl) ?_
        refine lv_dup hx hb dX3_sweepOften_78 rfl ?_
        refine va_get (D := D) (ci := 3) (v := .int (gi ((lp (soK wa (soDown p_1)) (nN (gi p_1 1) - 1) p_1)) 2)) (C := RX3) (T := TX3) (N := 16) hx hb hg inGX3 hown hK hP 6 rfl rfl 14 (by decide) (hg _ mw_265) (fun _ h9 => h9) rfl dX3_sweepOften_79 ?_
        refine lv_iconst (v := 1) hx hb dX3_sweepOften_82 (by decide) ?_
        refine lv_iadd hx hb dX3_sweepOften_83 ?_
        refine va_put (D := D) (ci := 3) (v := .int ((gi ((lp (soK wa (soDown p_1)) (nN (gi p_1 1) - 1) p_1)) 2) + 1)) (C := RX3) (T := TX3) (N := 16) hx hb hg inGX3 tyX3 tyX3_ok nmX3 hown hK hP hD hS 6 rfl rfl 14 (by decide) (hg _ mw_265) (fun _ h9 => h9) rfl (tyX3_ok 14 (by decide)) rfl rfl (Nat.le_of_ble_eq_true rfl) dX3_sweepOften_84 (fun H locs hP hD hS => ?_)
        have hP : va_P D vwCl (XW ad cI cJ co fl ra li re wa (si ((lp (soK wa (soDown p_1)) (nN (gi p_1 1) - 1) p_1)) 2 ((gi ((lp (soK wa (soDown p_1)) (nN (gi p_1 1) - 1) p_1)) 2) + 1))) H := hP
        have hD : va_D A (XW ad cI cJ co fl ra li re wa (si ((lp (soK wa (soDown p_1)) (nN (gi p_1 1) - 1) p_1)) 2 ((gi ((lp (soK wa (soDown p_1)) (nN (gi p_1 1) - 1) p_1)) 2) + 1))) := hD
        refine lv_iinc (v := (nI (i_1 + 1))) (lv' := [(2, .int (nI (i_1 + 1))), (0, .ref (ad 6)), (1, .int k1), (3, .int 0), (4, .int (nI ((nN (gi p_1 1) - 1) + 1)))]) hx hb dX3_sweepOften_87 hl (k := 2) rfl (nI_1 i_1) (by decide) rfl (fun ls hl => ?_)
        refine lv_goto (tgt := 2) hx hb dX3_sweepOften_90 (by decide) ?_
        exact ih_1 (si ((lp (soK wa (soDown p_1)) (nN (gi p_1 1) - 1) p_1)) 2 ((gi ((lp (soK wa (soDown p_1)) (nN (gi p_1 1) - 1) p_1)) 2) + 1)) H locs ls ⟨((show (si ((lp (soK wa (soDown p_1)) (nN (gi p_1 1) - 1) p_1)) 2 ((gi ((lp (soK wa (soDown p_1)) (nN (gi p_1 1) - 1) p_1)) 2) + 1)) = (soStep wa) i_1 p_1 from (by first | (simp only [soStep, soAll, soDown, if_neg c_13, decide_eq_false c_13, decide_eq_true c_13, if_pos c_13, gi_sl, gi_sA, gi_sB, gi_si_s, gi_si_n, gl_si, gl_sA, gl_sB, gl_sl_s, gl_sl_n, gA_si, gA_sl, gA_sB, gA_sA_s, gA_sA_n, gB_si, gB_sl, gB_sA, gB_sB_s, gB_sB_n, Nat.reduceBEq, if_true, if_false, eq_self, Bool.false_eq_true, reduceCtorEq, not_true_eq_false, not_false_eq_true, decide_true, decide_false, cond_true, cond_false, Bool.true_and, Bool.false_and, Bool.and_true, Bool.and_false, Bool.true_or, Bool.false_or, Bool.or_true, Bool.or_false, b2i_tt, b2i_ff]; done) | (simp only [soStep, soAll, soDown, if_neg c_13, decide_eq_false c_13, decide_eq_true c_13, if_pos c_13, gi_sl, gi_sA, gi_sB, gi_si_s, gi_si_n, gl_si, gl_sA, gl_sB, gl_sl_s, gl_sl_n, gA_si, gA_sl, gA_sB, gA_sA_s, gA_sA_n, gB_si, gB_sl, gB_sA, gB_sB_s, gB_sB_n, Nat.reduceBEq, if_true, if_false, eq_self, Bool.false_eq_true, reduceCtorEq, not_true_eq_false, not_false_eq_true, decide_true, decide_false, cond_true, cond_false, Bool.true_and, Bool.false_and, Bool.and_true, Bool.and_false, Bool.true_or, Bool.false_or, Bool.or_true, Bool.or_false, b2i_tt, b2i_ff]; rfl) | (simp [soStep, soAll, soDown, c_13, gi_sl, gi_sA, gi_sB, gi_si_s, gi_si_n, gl_si, gl_sA, gl_sB, gl_sl_s, gl_sl_n, gA_si, gA_sl, gA_sB, gA_sA_s, gA_sA_n, gB_si, gB_sl, gB_sA, gB_sB_s, gB_sB_n, Nat.reduceBEq]; done))).trans (lp_go h_1)), hP, hD, hS, lv_sub hl [1, 2, 0] rfl⟩
      · obtain ⟨h_2, hP, hD, hS, hl⟩ := hI
        have hP : va_P D vwCl (XW ad cI cJ co fl ra li re wa p_2) H := hP
        have hD : va_D A (XW ad cI cJ co fl ra li re wa p_2) := hD
        have hl : lv_has ls 5 [(0, .ref (ad 6)), (1, .int k1), (2, .int (nI i_1)), (3, .int 0), (4, .int (nI (i_2 + 1)))] := hl
        refine lv_iload hx hb dX3_sweepOften_25 (lv_at hl 4 rfl) ?_
        refine lv_aload_n hx hb dX3_sweepOften_27 rfl (lv_at hl 0 rfl) ?_
        refine va_get (D := D) (ci := 3) (v := .int (gi p_2 1)) (C := RX3) (T := TX3) (N := 16) hx hb hg inGX3 hown hK hP 6 rfl rfl 13 (by decide) (hg _ mw_235) (fun _ h9 => h9) rfl dX3_sweepOften_28 ?_
        refine lv_icmp_ge (tgt := 77) hx hb dX3_sweepOften_31 (by decide) (fun c_31 => absurd c_31 (by rw [h_2, k_soL]; exact n1_in hi_2)) (fun _ => ?_)
        refine lv_iload_n hx hb dX3_sweepOften_34 rfl (lv_at hl 3 rfl) ?_
        refine lv_if_eq (tgt := 51) hx hb dX3_sweepOften_35 (by decide) (fun _ => ?_) (fun c_35 => absurd (by decide) c_35)
        refine lv_aload_n hx hb dX3_sweepOften_51 rfl (lv_at hl 0 rfl) ?_
        refine lv_aload_n hx hb dX3_sweepOften_52 rfl (lv_at hl 0 rfl) ?_
        refine va_get (D := D) (ci := 3) (v := .int (gi p_2 1)) (C := RX3) (T := TX3) (N := 16) hx hb hg inGX3 hown hK hP 6 rfl rfl 13 (by decide) (hg _ mw_235) (fun _ h9 => h9) rfl dX3_sweepOften_53 ?_
        refine lv_iconst (v := 1) hx hb dX3_sweepOften_56 (by decide) ?_
        refine lv_isub hx hb dX3_sweepOften_57 ?_
        refine lv_iload hx hb dX3_sweepOften_58 (lv_at hl 4 rfl) ?_
        refine lv_isub hx hb dX3_sweepOften_60 ?_
        refine lv_aload_n hx hb dX3_sweepOften_61 rfl (lv_at hl 0 rfl) ?_
        refine va_get (D := D) (ci := 3) (v := .int (gi p_2 1)) (C := RX3) (T := TX3) (N := 16) hx hb hg inGX3 hown hK hP 6 rfl rfl 13 (by decide) (hg _ mw_235) (fun _ h9 => h9) rfl dX3_sweepOften_62 ?_
        refine lv_iload hx hb dX3_sweepOften_65 (lv_at hl 4 rfl) ?_
        refine lv_isub hx hb dX3_sweepOften_67 ?_
        refine kV (rV (q0 := 6) (ci := 3) hx hb hml hown hg hN hK hP hD (c_arrange l D cI cJ ad co fl ra li re wa p_2 (((gi p_2 1) - 1) - (nI (i_2 + 1))) ((gi p_2 1) - (nI (i_2 + 1)))) mw_309 mw_310 mw_311 mw_312 mw_234 pdv_X3_arrange ⟨Nat.le_of_ble_eq_true rfl, Nat.le_of_ble_eq_true rfl⟩ rfl rfl rfl hl.1 rfl (Nat.le_of_ble_eq_true rfl) dX3_sweepOften_68 ⟨Nat.le_of_ble_eq_true rfl, Nat.le_of_ble_eq_true rfl⟩) hD hS hA (fun u_3 H locs hp hP hD hS => ?_)
        obtain rfl := hp.symm
        have hP : va_P D vwCl (XW ad cI cJ co fl ra li re wa (arrange wa p_2 (((gi p_2 1) - 1) - (nI (i_2 + 1))) ((gi p_2 1) - (nI (i_2 + 1))))) H := hP
        have hD : va_D A (XW ad cI cJ co fl ra li re wa (arrange wa p_2 (((gi p_2 1) - 1) - (nI (i_2 + 1))) ((gi p_2 1) - (nI (i_2 + 1))))) := hD
        refine lv_iinc (v := (nI (i_2 + 1 + 1))) (lv' := [(4, .int (nI (i_2 + 1 + 1))), (0, .ref (ad 6)), (1, .int k1), (2, .int (nI i_1)), (3, .int 0)]) hx hb dX3_sweepOften_71 hl (k := 4) rfl (nI_1 (i_2 + 1)) (by decide) rfl (fun ls hl => ?_)
        refine lv_goto (tgt := 25) hx hb dX3_sweepOften_74 (by decide) ?_
        exact ih_2 (arrange wa p_2 (((gi p_2 1) - 1) - (nI (i_2 + 1))) ((gi p_2 1) - (nI (i_2 + 1)))) H locs ls ⟨((show (arrange wa p_2 (((gi p_2 1) - 1) - (nI (i_2 + 1))) ((gi p_2 1) - (nI (i_2 + 1)))) = (soK wa (soDown p_1)) i_2 p_2 from (by first | (simp only [soK, soDown, if_neg c_13, decide_eq_false c_13, decide_eq_true c_13, if_pos c_13, gi_sl, gi_sA, gi_sB, gi_si_s, gi_si_n, gl_si, gl_sA, gl_sB, gl_sl_s, gl_sl_n, gA_si, gA_sl, gA_sB, gA_sA_s, gA_sA_n, gB_si, gB_sl, gB_sA, gB_sB_s, gB_sB_n, Nat.reduceBEq, if_true, if_false, eq_self, Bool.false_eq_true, reduceCtorEq, not_true_eq_false, not_false_eq_true, decide_true, decide_false, cond_true, cond_false, Bool.true_and, Bool.false_and, Bool.and_true, Bool.and_false, Bool.true_or, Bool.false_or, Bool.or_true, Bool.or_false, b2i_tt, b2i_ff]; done) | (simp only [soK, soDown, if_neg c_13, decide_eq_false c_13, decide_eq_true c_13, if_pos c_13, gi_sl, gi_sA, gi_sB, gi_si_s, gi_si_n, gl_si, gl_sA, gl_sB, gl_sl_s, gl_sl_n, gA_si, gA_sl, gA_sB, gA_sA_s, gA_sA_n, gB_si, gB_sl, gB_sA, gB_sB_s, gB_sB_n, Nat.reduceBEq, if_true, if_false, eq_self, Bool.false_eq_true, reduceCtorEq, not_true_eq_false, not_false_eq_true, decide_true, decide_false, cond_true, cond_false, Bool.true_and, Bool.false_and, Bool.and_true, Bool.and_false, Bool.true_or, Bool.false_or, Bool.or_true, Bool.or_false, b2i_tt, b2i_ff]; rfl) | (simp [soK, soDown, c_13, gi_sl, gi_sA, gi_sB, gi_si_s, gi_si_n, gl_si, gl_sA, gl_sB, gl_sl_s, gl_sl_n, gA_si, gA_sl, gA_sB, gA_sA_s, gA_sA_n, gB_si, gB_sl, gB_sA, gB_sB_s, gB_sB_n, Nat.reduceBEq]; done))).trans (lp_go h_2)), hP, hD, hS, lv_sub hl [1, 2, 3, 4, 0] rfl⟩
    · refine lv_iconst (v := 1) hx hb dX3_sweepOften_16 (by decide) ?_
      refine lv_goto (tgt := 21) hx hb dX3_sweepOften_17 (by decide) ?_
      refine lv_istore_n (lv' := [(3, .int 1), (0, .ref (ad 6)), (1, .int k1), (2, .int (nI i_1))]) hx hb dX3_sweepOften_21 rfl hl (by decide) rfl (fun ls hl => ?_)
      refine lv_iconst (v := 1) hx hb dX3_sweepOften_22 (by decide) ?_
      refine lv_istore (lv' := [(4, .int 1), (3, .int 1), (0, .ref (ad 6)), (1, .int k1), (2, .int (nI i_1))]) hx hb dX3_sweepOften_23 hl (by decide) rfl (fun ls hl => ?_)
      refine w_loop (σ := Ob) (fun (i_4 : Nat) (p_4 : Ob) (H : Heap) (locs : List Loc) (ls : Array Slot) => p_4 = (lp (soK wa (soDown p_1)) i_4 p_1) ∧ va_P D vwCl (XW ad cI cJ co fl ra li re wa p_4) H ∧ va_D A (XW ad cI cJ co fl ra li re wa p_4) ∧ va_S A s.heap H locs ∧ lv_has ls 5 [(0, .ref (ad 6)), (1, .int k1), (2, .int (nI i_1)), (3, .int 1), (4, .int (nI (i_4 + 1)))]) (nN (gi p_1 1) - 1) (fun p_4 H locs ls hI => ?_) (fun i_4 p_4 H locs ls hi_4 hI ih_4 => ?_) 0 p_1 (Nat.zero_le _) ⟨rfl, hP, hD, hS, (by rw [nI_01]; exact lv_sub hl [2, 3, 4, 1, 0] rfl)⟩
      · obtain ⟨h_4, hP, hD, hS, hl⟩ := hI
        have h_4 := h_4.symm
        subst h_4
        have hP : va_P D vwCl (XW ad cI cJ co fl ra li re wa ((lp (soK wa (soDown p_1)) (nN (gi p_1 1) - 1) p_1))) H := hP
        have hD : va_D A (XW ad cI cJ co fl ra li re wa ((lp (soK wa (soDown p_1)) (nN (gi p_1 1) - 1) p_1))) := hD
        have hl : lv_has ls 5 [(0, .ref (ad 6)), (1, .int k1), (2, .int (nI i_1)), (3, .int 1), (4, .int (nI ((nN (gi p_1 1) - 1) + 1)))] := hl
        refine lv_iload hx hb dX3_sweepOften_25 (lv_at hl 4 rfl) ?_
        refine lv_aload_n hx hb dX3_sweepOften_27 rfl (lv_at hl 0 rfl) ?_
        refine va_get (D := D) (ci := 3) (v := .int (gi ((lp (soK wa (soDown p_1)) (nN (gi p_1 1) - 1) p_1)) 1)) (C := RX3) (T := TX3) (N := 16) hx hb hg inGX3 hown hK hP 6 rfl rfl 13 (by decide) (hg _ mw_235) (fun _ h9 => h9) rfl dX3_sweepOften_28 ?_
        refine lv_icmp_ge (tgt := 77) hx hb dX3_sweepOften_31 (by decide) (fun _ => ?_) (fun c_31 => absurd (by rw [k_soL]; exact n1_out _) c_31)
        refine lv_aload_n hx hb dX3_sweepOften_77 rfl (lv_at hl 0 rfl) ?_
        refine lv_dup hx hb dX3_sweepOften_78 rfl ?_
        refine va_get (D := D) (ci := 3) (v := .int (gi ((lp (soK wa (soDown p_1)) (nN (gi p_1 1) - 1) p_1)) 2)) (C := RX3) (T := TX3) (N := 16) hx hb hg inGX3 hown hK hP 6 rfl rfl 14 (by decide) (hg _ mw_265) (fun _ h9 => h9) rfl dX3_sweepOften_79 ?_
        refine lv_iconst (v := 1) hx hb dX3_sweepOften_82 (by decide) ?_
        refine lv_iadd hx hb dX3_sweepOften_83 ?_
        refine va_put (D := D) (ci := 3) (v := .int ((gi ((lp (soK wa (soDown p_1)) (nN (gi p_1 1) - 1) p_1)) 2) + 1)) (C := RX3) (T := TX3) (N := 16) hx hb hg inGX3 tyX3 tyX3_ok nmX3 hown hK hP hD hS 6 rfl rfl 14 (by decide) (hg _ mw_265) (fun _ h9 => h9) rfl (tyX3_ok 14 (by decide)) rfl rfl (Nat.le_of_ble_eq_true rfl) dX3_sweepOften_84 (fun H locs hP hD hS => ?_)
        have hP : va_P D vwCl (XW ad cI cJ co fl ra li re wa (si ((lp (soK wa (soDown p_1)) (nN (gi p_1 1) - 1) p_1)) 2 ((gi ((lp (soK wa (soDown p_1)) (nN (gi p_1 1) - 1) p_1)) 2) + 1))) H := hP
        have hD : va_D A (XW ad cI cJ co fl ra li re wa (si ((lp (soK wa (soDown p_1)) (nN (gi p_1 1) - 1) p_1)) 2 ((gi ((lp (soK wa (soDown p_1)) (nN (gi p_1 1) - 1) p_1)) 2) + 1))) := hD
        refine lv_iinc (v := (nI (i_1 + 1))) (lv' := [(2, .int (nI (i_1 + 1))), (0, .ref (ad 6)), (1, .int k1), (3, .int 1), (4, .int (nI ((nN (gi p_1 1) - 1) + 1)))]) hx hb dX3_sweepOften_87 hl (k := 2) rfl (nI_1 i_1) (by decide) rfl (fun ls hl => ?_)
        refine lv_goto (tgt := 2) hx hb dX3_sweepOften_90 (by decide) ?_
        exact ih_1 (si ((lp (soK wa (soDown p_1)) (nN (gi p_1 1) - 1) p_1)) 2 ((gi ((lp (soK wa (soDown p_1)) (nN (gi p_1 1) - 1) p_1)) 2) + 1)) H locs ls ⟨((show (si ((lp (soK wa (soDown p_1)) (nN (gi p_1 1) - 1) p_1)) 2 ((gi ((lp (soK wa (soDown p_1)) (nN (gi p_1 1) - 1) p_1)) 2) + 1)) = (soStep wa) i_1 p_1 from (by first | (simp only [soStep, soAll, soDown, if_pos c_13, decide_eq_true c_13, decide_eq_false (not_not_intro c_13), gi_sl, gi_sA, gi_sB, gi_si_s, gi_si_n, gl_si, gl_sA, gl_sB, gl_sl_s, gl_sl_n, gA_si, gA_sl, gA_sB, gA_sA_s, gA_sA_n, gB_si, gB_sl, gB_sA, gB_sB_s, gB_sB_n, Nat.reduceBEq, if_true, if_false, eq_self, Bool.false_eq_true, reduceCtorEq, not_true_eq_false, not_false_eq_true, decide_true, decide_false, cond_true, cond_false, Bool.true_and, Bool.false_and, Bool.and_true, Bool.and_false, Bool.true_or, Bool.false_or, Bool.or_true, Bool.or_false, b2i_tt, b2i_ff]; done) | (simp only [soStep, soAll, soDown, if_pos c_13, decide_eq_true c_13, decide_eq_false (not_not_intro c_13), gi_sl, gi_sA, gi_sB, gi_si_s, gi_si_n, gl_si, gl_sA, gl_sB, gl_sl_s, gl_sl_n, gA_si, gA_sl, gA_sB, gA_sA_s, gA_sA_n, gB_si, gB_sl, gB_sA, gB_sB_s, gB_sB_n, Nat.reduceBEq, if_true, if_false, eq_self, Bool.false_eq_true, reduceCtorEq, not_true_eq_false, not_false_eq_true, decide_true, decide_false, cond_true, cond_false, Bool.true_and, Bool.false_and, Bool.and_true, Bool.and_false, Bool.true_or, Bool.false_or, Bool.or_true, Bool.or_false, b2i_tt, b2i_ff]; rfl) | (simp [soStep, soAll, soDown, c_13, gi_sl, gi_sA, gi_sB, gi_si_s, gi_si_n, gl_si, gl_sA, gl_sB, gl_sl_s, gl_sl_n, gA_si, gA_sl, gA_sB, gA_sA_s, gA_sA_n, gB_si, gB_sl, gB_sA, gB_sB_s, gB_sB_n, Nat.reduceBEq]; done))).trans (lp_go h_1)), hP, hD, hS, lv_sub hl [1, 2, 0] rfl⟩
      · obtain ⟨h_4, hP, hD, hS, hl⟩ := hI
        have hP : va_P D vwCl (XW ad cI cJ co fl ra li re wa p_4) H := hP
        have hD : va_D A (XW ad cI cJ co fl ra li re wa p_4) := hD
        have hl : lv_has ls 5 [(0, .ref (ad 6)), (1, .int k1), (2, .int (nI i_1)), (3, .int 1), (4, .int (nI (i_4 + 1)))] := hl
        refine lv_iload hx hb dX3_sweepOften_25 (lv_at hl 4 rfl) ?_
        refine lv_aload_n hx hb dX3_sweepOften_27 rfl (lv_at hl 0 rfl) ?_
        refine va_get (D := D) (ci := 3) (v := .int (gi p_4 1)) (C := RX3) (T := TX3) (N := 16) hx hb hg inGX3 hown hK hP 6 rfl rfl 13 (by decide) (hg _ mw_235) (fun _ h9 => h9) rfl dX3_sweepOften_28 ?_
        refine lv_icmp_ge (tgt := 77) hx hb dX3_sweepOften_31 (by decide) (fun c_31 => absurd c_31 (by rw [h_4, k_soL]; exact n1_in hi_4)) (fun _ => ?_)
        refine lv_iload_n hx hb dX3_sweepOften_34 rfl (lv_at hl 3 rfl) ?_
        refine lv_if_eq (tgt := 51) hx hb dX3_sweepOften_35 (by decide) (fun c_35 => absurd c_35 (by decide)) (fun _ => ?_)
        refine lv_aload_n hx hb dX3_sweepOften_38 rfl (lv_at hl 0 rfl) ?_
        refine lv_iload hx hb dX3_sweepOften_39 (lv_at hl 4 rfl) ?_
        refine lv_iload hx hb dX3_sweepOften_41 (lv_at hl 4 rfl) ?_
        refine lv_iconst (v := 1) hx hb dX3_sweepOften_43 (by decide) ?_
        refine lv_isub hx hb dX3_sweepOften_44 ?_
        refine kV (rV (q0 := 6) (ci := 3) hx hb hml hown hg hN hK hP hD (c_arrange l D cI cJ ad co fl ra li re wa p_4 (nI (i_4 + 1)) ((nI (i_4 + 1)) - 1)) mw_309 mw_310 mw_311 mw_312 mw_234 pdv_X3_arrange ⟨Nat.le_of_ble_eq_true rfl, Nat.le_of_ble_eq_true rfl⟩ rfl rfl rfl hl.1 rfl (Nat.le_of_ble_eq_true rfl) dX3_sweepOften_45 ⟨Nat.le_of_ble_eq_true rfl, Nat.le_of_ble_eq_true rfl⟩) hD hS hA (fun u_5 H locs hp hP hD hS => ?_)
        obtain rfl := hp.symm
        have hP : va_P D vwCl (XW ad cI cJ co fl ra li re wa (arrange wa p_4 (nI (i_4 + 1)) ((nI (i_4 + 1)) - 1))) H := hP
        have hD : va_D A (XW ad cI cJ co fl ra li re wa (arrange wa p_4 (nI (i_4 + 1)) ((nI (i_4 + 1)) - 1))) := hD
        refine lv_goto (tgt := 71) hx hb dX3_sweepOften_48 (by decide) ?_
        refine lv_iinc (v := (nI (i_4 + 1 + 1))) (lv' := [(4, .int (nI (i_4 + 1 + 1))), (0, .ref (ad 6)), (1, .int k1), (2, .int (nI i_1)), (3, .int 1)]) hx hb dX3_sweepOften_71 hl (k := 4) rfl (nI_1 (i_4 + 1)) (by decide) rfl (fun ls hl => ?_)
        refine lv_goto (tgt := 25) hx hb dX3_sweepOften_74 (by decide) ?_
        exact ih_4 (arrange wa p_4 (nI (i_4 + 1)) ((nI (i_4 + 1)) - 1)) H locs ls ⟨((show (arrange wa p_4 (nI (i_4 + 1)) ((nI (i_4 + 1)) - 1)) = (soK wa (soDown p_1)) i_4 p_4 from (by first | (simp only [soK, soDown, if_pos c_13, decide_eq_true c_13, decide_eq_false (not_not_intro c_13), gi_sl, gi_sA, gi_sB, gi_si_s, gi_si_n, gl_si, gl_sA, gl_sB, gl_sl_s, gl_sl_n, gA_si, gA_sl, gA_sB, gA_sA_s, gA_sA_n, gB_si, gB_sl, gB_sA, gB_sB_s, gB_sB_n, Nat.reduceBEq, if_true, if_false, eq_self, Bool.false_eq_true, reduceCtorEq, not_true_eq_false, not_false_eq_true, decide_true, decide_false, cond_true, cond_false, Bool.true_and, Bool.false_and, Bool.and_true, Bool.and_false, Bool.true_or, Bool.false_or, Bool.or_true, Bool.or_false, b2i_tt, b2i_ff]; done) | (simp only [soK, soDown, if_pos c_13, decide_eq_true c_13, decide_eq_false (not_not_intro c_13), gi_sl, gi_sA, gi_sB, gi_si_s, gi_si_n, gl_si, gl_sA, gl_sB, gl_sl_s, gl_sl_n, gA_si, gA_sl, gA_sB, gA_sA_s, gA_sA_n, gB_si, gB_sl, gB_sA, gB_sB_s, gB_sB_n, Nat.reduceBEq, if_true, if_false, eq_self, Bool.false_eq_true, reduceCtorEq, not_true_eq_false, not_false_eq_true, decide_true, decide_false, cond_true, cond_false, Bool.true_and, Bool.false_and, Bool.and_true, Bool.and_false, Bool.true_or, Bool.false_or, Bool.or_true, Bool.or_false, b2i_tt, b2i_ff]; rfl) | (simp [soK, soDown, c_13, gi_sl, gi_sA, gi_sB, gi_si_s, gi_si_n, gl_si, gl_sA, gl_sB, gl_sl_s, gl_sl_n, gA_si, gA_sl, gA_sB, gA_sA_s, gA_sA_n, gB_si, gB_sl, gB_sA, gB_sB_s, gB_sB_n, Nat.reduceBEq]; done))).trans (lp_go h_4)), hP, hD, hS, lv_sub hl [1, 2, 3, 4, 0] rfl⟩
set_option maxHeartbeats 4000000 in
set_option maxRecDepth 100000 in
theorem c_tryOut (l : Launch) (D : va_G) (cI cJ : ClassId) (ad : Nat → Nat) (co fl ra li re wa pi : Ob) (k1 : Int32) : CT l D (TY cI cJ) yX3_tryOut (.code yX3_tryOut cX3_tryOut 7 (some Jvm.ClassFile.FieldType.int)) 6 0 0 (XW ad cI cJ co fl ra li re wa pi) [.ref (ad 6), .int k1] (QI D (TY cI cJ) (fun r u => r = (toQ wa pi k1).2 ∧ u = (XW ad cI cJ co fl ra li re wa (tryOut wa pi k1)))) := by
  refine ent (by decide) (Nat.le_of_ble_eq_true rfl) ?_
  intro p e s m below meth c ls A hx hb hr hg hown hml hlocks hnm hP hK hD hS hA hN hl
  have hl : lv_has ls 7 [(0, .ref (ad 6)), (1, .int k1)] := hl
  refine lv_aload_n hx hb dX3_tryOut_0 rfl (lv_at hl 0 rfl) ?_
  refine va_get (D := D) (ci := 3) (v := .int (gi pi 2)) (C := RX3) (T := TX3) (N := 16) hx hb hg inGX3 hown hK hP 6 rfl rfl 14 (by decide) (hg _ mw_265) (fun _ h9 => h9) rfl dX3_tryOut_1 ?_
  refine lv_istore_n (lv' := [(2, .int (gi pi 2)), (0, .ref (ad 6)), (1, .int k1)]) hx hb dX3_tryOut_4 rfl hl (by decide) rfl (fun ls hl => ?_)
  refine lv_aload_n hx hb dX3_tryOut_5 rfl (lv_at hl 1 rfl) ?_
  refine va_get (D := D) (ci := 3) (v := .ref (ad 35)) (C := RX3) (T := TX3) (N := 16) hx hb hg inGX3 hown hK hP 6 rfl rfl 2 (by decide) (hg _ mw_256) (fun _ h9 => h9) rfl dX3_tryOut_6 ?_
  refine lv_aload_n hx hb dX3_tryOut_9 rfl (lv_at hl 1 rfl) ?_
  refine va_get (D := D) (ci := 3) (v := .int (gi pi 1)) (C := RX3) (T := TX3) (N := 16) hx hb hg inGX3 hown hK hP 6 rfl rfl 13 (by decide) (hg _ mw_235) (fun _ h9 => h9) rfl dX3_tryOut_10 ?_
  refine kI (rSN hx hb hml hown hg hN hK hP hD (c_at l D cI cJ (XW ad cI cJ co fl ra li re wa pi) 35 (ad 35) 41 (gA pi 1) (gi pi 1) rfl (by decide)) mw_84 nw_96 mw_85 mw_77 pd_X7_at ⟨Nat.le_of_ble_eq_true rfl, Nat.le_of_ble_eq_true rfl⟩ rfl hl.1 rfl (Nat.le_of_ble_eq_true rfl) dX3_tryOut_13 ⟨Nat.le_of_ble_eq_true rfl, Nat.le_of_ble_eq_true rfl⟩) hD hS hA (fun r_1 u_1 H locs hp hP hD hS => ?_)
  obtain ⟨er, eu⟩ := hp
  obtain rfl := er.symm
  obtain rfl := eu.symm
  refine lv_istore_n (lv' := [(3, .int (rd (gA pi 1) 41 (gi pi 1))), (2, .int (gi pi 2)), (0, .ref (ad 6)), (1, .int k1)]) hx hb dX3_tryOut_16 rfl hl (by decide) rfl (fun ls hl => ?_)
  refine lv_iconst (v := 0) hx hb dX3_tryOut_17 (by decide) ?_
  refine lv_istore (lv' := [(4, .int 0), (3, .int (rd (gA pi 1) 41 (gi pi 1))), (2, .int (gi pi 2)), (0, .ref (ad 6)), (1, .int k1)]) hx hb dX3_tryOut_18 hl (by decide) rfl (fun ls hl => ?_)
  refine w_loop (σ := Ob) (fun (i_2 : Nat) (p_2 : Ob) (H : Heap) (locs : List Loc) (ls : Array Slot) => p_2 = (lp toKeep i_2 pi) ∧ va_P D vwCl (XW ad cI cJ co fl ra li re wa p_2) H ∧ va_D A (XW ad cI cJ co fl ra li re wa p_2) ∧ va_S A s.heap H locs ∧ lv_has ls 7 [(0, .ref (ad 6)), (1, .int k1), (2, .int (gi pi 2)), (3, .int (rd (gA pi 1) 41 (gi pi 1))), (4, .int (nI i_2))]) (nN (rd (gA pi 1) 41 (gi pi 1))) (fun p_2 H locs ls hI => ?_) (fun i_2 p_2 H locs ls hi_2 hI ih_2 => ?_) 0 pi (Nat.zero_le _) ⟨rfl, hP, hD, hS, (by rw [nI_0]; exact lv_sub hl [3, 4, 2, 1, 0] rfl)⟩
  · obtain ⟨h_2, hP, hD, hS, hl⟩ := hI
    have h_2 := h_2.symm
    subst h_2
    have hP : va_P D vwCl (XW ad cI cJ co fl ra li re wa ((lp toKeep (nN (rd (gA pi 1) 41 (gi pi 1))) pi))) H := hP
    have hD : va_D A (XW ad cI cJ co fl ra li re wa ((lp toKeep (nN (rd (gA pi 1) 41 (gi pi 1))) pi))) := hD
    have hl : lv_has ls 7 [(0, .ref (ad 6)), (1, .int k1), (2, .int (gi pi 2)), (3, .int (rd (gA pi 1) 41 (gi pi 1))), (4, .int (nI ((nN (rd (gA pi 1) 41 (gi pi 1))))))] := hl
    refine lv_iload hx hb dX3_tryOut_20 (lv_at hl 4 rfl) ?_
    refine lv_iload_n hx hb dX3_tryOut_22 rfl (lv_at hl 3 rfl) ?_
    refine lv_icmp_ge (tgt := 50) hx hb dX3_tryOut_23 (by decide) (fun _ => ?_) (fun c_23 => absurd (lp_out _) c_23)
    refine lv_aload_n hx hb dX3_tryOut_50 rfl (lv_at hl 0 rfl) ?_
    refine lv_iload_n hx hb dX3_tryOut_51 rfl (lv_at hl 1 rfl) ?_
    refine kV (rV (q0 := 6) (ci := 3) hx hb hml hown hg hN hK hP hD (c_sweepOften l D cI cJ ad co fl ra li re wa ((lp toKeep (nN (rd (gA pi 1) 41 (gi pi 1))) pi)) k1) mw_313 mw_314 mw_315 mw_316 mw_234 pdv_X3_sweepOften ⟨Nat.le_of_ble_eq_true rfl, Nat.le_of_ble_eq_true rfl⟩ rfl rfl rfl hl.1 rfl (Nat.le_of_ble_eq_true rfl) dX3_tryOut_52 ⟨Nat.le_of_ble_eq_true rfl, Nat.le_of_ble_eq_true rfl⟩) hD hS hA (fun u_3 H locs hp hP hD hS => ?_)
    obtain rfl := hp.symm
    have hP : va_P D vwCl (XW ad cI cJ co fl ra li re wa (sweepOften wa ((lp toKeep (nN (rd (gA pi 1) 41 (gi pi 1))) pi)) k1)) H := hP
    have hD : va_D A (XW ad cI cJ co fl ra li re wa (sweepOften wa ((lp toKeep (nN (rd (gA pi 1) 41 (gi pi 1))) pi)) k1)) := hD
    refine lv_aload_n hx hb dX3_tryOut_55 rfl (lv_at hl 0 rfl) ?_
    refine kI (rV (q0 := 6) (ci := 3) hx hb hml hown hg hN hK hP hD (c_countCross l D cI cJ ad co fl ra li re wa (sweepOften wa ((lp toKeep (nN (rd (gA pi 1) 41 (gi pi 1))) pi)) k1)) mw_317 mw_318 mw_319 mw_320 mw_234 pdv_X3_countCrossings ⟨Nat.le_of_ble_eq_true rfl, Nat.le_of_ble_eq_true rfl⟩ rfl rfl rfl hl.1 rfl (Nat.le_of_ble_eq_true rfl) dX3_tryOut_56 ⟨Nat.le_of_ble_eq_true rfl, Nat.le_of_ble_eq_true rfl⟩) hD hS hA (fun r_4 u_4 H locs hp hP hD hS => ?_)
    obtain ⟨er, eu⟩ := hp
    obtain rfl := er.symm
    obtain rfl := eu.symm
    have hP : va_P D vwCl (XW ad cI cJ co fl ra li re wa (countCross wa (sweepOften wa ((lp toKeep (nN (rd (gA pi 1) 41 (gi pi 1))) pi)) k1)).1) H := hP
    have hD : va_D A (XW ad cI cJ co fl ra li re wa (countCross wa (sweepOften wa ((lp toKeep (nN (rd (gA pi 1) 41 (gi pi 1))) pi)) k1)).1) := hD
    refine lv_istore (lv' := [(4, .int (countCross wa (sweepOften wa ((lp toKeep (nN (rd (gA pi 1) 41 (gi pi 1))) pi)) k1)).2), (0, .ref (ad 6)), (1, .int k1), (2, .int (gi pi 2)), (3, .int (rd (gA pi 1) 41 (gi pi 1)))]) hx hb dX3_tryOut_59 hl (by decide) rfl (fun ls hl => ?_)
    refine lv_iconst (v := 0) hx hb dX3_tryOut_61 (by decide) ?_
    refine lv_istore (lv' := [(5, .int 0), (4, .int (countCross wa (sweepOften wa ((lp toKeep (nN (rd (gA pi 1) 41 (gi pi 1))) pi)) k1)).2), (0, .ref (ad 6)), (1, .int k1), (2, .int (gi pi 2)), (3, .int (rd (gA pi 1) 41 (gi pi 1)))]) hx hb dX3_tryOut_62 hl (by decide) rfl (fun ls hl => ?_)
    refine w_loop (σ := Ob) (fun (i_5 : Nat) (p_5 : Ob) (H : Heap) (locs : List Loc) (ls : Array Slot) => p_5 = (lp toL i_5 (countCross wa (sweepOften wa ((lp toKeep (nN (rd (gA pi 1) 41 (gi pi 1))) pi)) k1)).1) ∧ va_P D vwCl (XW ad cI cJ co fl ra li re wa p_5) H ∧ va_D A (XW ad cI cJ co fl ra li re wa p_5) ∧ va_S A s.heap H locs ∧ lv_has ls 7 [(0, .ref (ad 6)), (1, .int k1), (2, .int (gi pi 2)), (3, .int (rd (gA pi 1) 41 (gi pi 1))), (4, .int (countCross wa (sweepOften wa ((lp toKeep (nN (rd (gA pi 1) 41 (gi pi 1))) pi)) k1)).2), (5, .int (nI i_5))]) (nN (gi (countCross wa (sweepOften wa ((lp toKeep (nN (rd (gA pi 1) 41 (gi pi 1))) pi)) k1)).1 1)) (fun p_5 H locs ls hI => ?_) (fun i_5 p_5 H locs ls hi_5 hI ih_5 => ?_) 0 (countCross wa (sweepOften wa ((lp toKeep (nN (rd (gA pi 1) 41 (gi pi 1))) pi)) k1)).1 (Nat.zero_le _) ⟨rfl, hP, hD, hS, (by rw [nI_0]; exact lv_sub hl [2, 3, 4, 5, 1, 0] rfl)⟩
    · obtain ⟨h_5, hP, hD, hS, hl⟩ := hI
      have h_5 := h_5.symm
      subst h_5
      have hP : va_P D vwCl (XW ad cI cJ co fl ra li re wa ((lp toL (nN (gi (countCross wa (sweepOften wa ((lp toKeep (nN (rd (gA pi 1) 41 (gi pi 1))) pi)) k1)).1 1)) (countCross wa (sweepOften wa ((lp toKeep (nN (rd (gA pi 1) 41 (gi pi 1))) pi)) k1)).1))) H := hP
      have hD : va_D A (XW ad cI cJ co fl ra li re wa ((lp toL (nN (gi (countCross wa (sweepOften wa ((lp toKeep (nN (rd (gA pi 1) 41 (gi pi 1))) pi)) k1)).1 1)) (countCross wa (sweepOften wa ((lp toKeep (nN (rd (gA pi 1) 41 (gi pi 1))) pi)) k1)).1))) := hD
      have hl : lv_has ls 7 [(0, .ref (ad 6)), (1, .int k1), (2, .int (gi pi 2)), (3, .int (rd (gA pi 1) 41 (gi pi 1))), (4, .int (countCross wa (sweepOften wa ((lp toKeep (nN (rd (gA pi 1) 41 (gi pi 1))) pi)) k1)).2), (5, .int (nI ((nN (gi (countCross wa (sweepOften wa ((lp toKeep (nN (rd (gA pi 1) 41 (gi pi 1))) pi)) k1)).1 1)))))] := hl
      refine lv_iload hx hb dX3_tryOut_64 (lv_at hl 5 rfl) ?_
      refine lv_aload_n hx hb dX3_tryOut_66 rfl (lv_at hl 0 rfl) ?_
      refine va_get (D := D) (ci := 3) (v := .int (gi ((lp toL (nN (gi (countCross wa (sweepOften wa ((lp toKeep (nN (rd (gA pi 1) 41 (gi pi 1))) pi)) k1)).1 1)) (countCross wa (sweepOften wa ((lp toKeep (nN (rd (gA pi 1) 41 (gi pi 1))) pi)) k1)).1)) 1)) (C := RX3) (T := TX3) (N := 16) hx hb hg inGX3 hown hK hP 6 rfl rfl 13 (by decide) (hg _ mw_235) (fun _ h9 => h9) rfl dX3_tryOut_67 ?_
      refine lv_icmp_ge (tgt := 129) hx hb dX3_tryOut_70 (by decide) (fun _ => ?_) (fun c_70 => absurd (by rw [k_toLL]; exact lp_out _) c_70)
      refine lv_aload_n hx hb dX3_tryOut_129 rfl (lv_at hl 0 rfl) ?_
      refine lv_iload_n hx hb dX3_tryOut_130 rfl (lv_at hl 2 rfl) ?_
      refine va_put (D := D) (ci := 3) (v := .int (gi pi 2)) (C := RX3) (T := TX3) (N := 16) hx hb hg inGX3 tyX3 tyX3_ok nmX3 hown hK hP hD hS 6 rfl rfl 14 (by decide) (hg _ mw_265) (fun _ h9 => h9) rfl (tyX3_ok 14 (by decide)) rfl rfl (Nat.le_of_ble_eq_true rfl) dX3_tryOut_131 (fun H locs hP hD hS => ?_)
      have hP : va_P D vwCl (XW ad cI cJ co fl ra li re wa (si ((lp toL (nN (gi (countCross wa (sweepOften wa ((lp toKeep (nN (rd (gA pi 1) 41 (gi pi 1))) pi)) k1)).1 1)) (countCross wa (sweepOften wa ((lp toKeep (nN (rd (gA pi 1) 41 (gi pi 1))) pi)) k1)).1)) 2 (gi pi 2))) H := hP
      have hD : va_D A (XW ad cI cJ co fl ra li re wa (si ((lp toL (nN (gi (countCross wa (sweepOften wa ((lp toKeep (nN (rd (gA pi 1) 41 (gi pi 1))) pi)) k1)).1 1)) (countCross wa (sweepOften wa ((lp toKeep (nN (rd (gA pi 1) 41 (gi pi 1))) pi)) k1)).1)) 2 (gi pi 2))) := hD
      refine lv_iload hx hb dX3_tryOut_134 (lv_at hl 4 rfl) ?_
      exact W.iret (v := (countCross wa (sweepOften wa ((lp toKeep (nN (rd (gA pi 1) 41 (gi pi 1))) pi)) k1)).2) hx hb hr (fun t ht hW => ⟨⟨(countCross wa (sweepOften wa ((lp toKeep (nN (rd (gA pi 1) 41 (gi pi 1))) pi)) k1)).2, (XW ad cI cJ co fl ra li re wa (si ((lp toL (nN (gi (countCross wa (sweepOften wa ((lp toKeep (nN (rd (gA pi 1) 41 (gi pi 1))) pi)) k1)).1 1)) (countCross wa (sweepOften wa ((lp toKeep (nN (rd (gA pi 1) 41 (gi pi 1))) pi)) k1)).1)) 2 (gi pi 2))), rfl, ⟨(show ((countCross wa (sweepOften wa ((lp toKeep (nN (rd (gA pi 1) 41 (gi pi 1))) pi)) k1)).2 : Int32) = (toQ wa pi k1).2 from (by first | with_reducible rfl | (simp only [tryOut, toQ, toAll, gi_sl, gi_sA, gi_sB, gi_si_s, gi_si_n, gl_si, gl_sA, gl_sB, gl_sl_s, gl_sl_n, gA_si, gA_sl, gA_sB, gA_sA_s, gA_sA_n, gB_si, gB_sl, gB_sA, gB_sB_s, gB_sB_n, Nat.reduceBEq, if_true, if_false, eq_self, Bool.false_eq_true, reduceCtorEq, not_true_eq_false, not_false_eq_true, decide_true, decide_false, cond_true, cond_false, Bool.true_and, Bool.false_and, Bool.and_true, Bool.and_false, Bool.true_or, Bool.false_or, Bool.or_true, Bool.or_false, b2i_tt, b2i_ff]; done) | rfl)), xw_eq rfl rfl rfl rfl rfl rfl (show (si ((lp toL (nN (gi (countCross wa (sweepOften wa ((lp toKeep (nN (rd (gA pi 1) 41 (gi pi 1))) pi)) k1)).1 1)) (countCross wa (sweepOften wa ((lp toKeep (nN (rd (gA pi 1) 41 (gi pi 1))) pi)) k1)).1)) 2 (gi pi 2)) = (tryOut wa pi k1) from (by first | with_reducible rfl | (simp only [tryOut, toQ, toAll, gi_sl, gi_sA, gi_sB, gi_si_s, gi_si_n, gl_si, gl_sA, gl_sB, gl_sl_s, gl_sl_n, gA_si, gA_sl, gA_sB, gA_sA_s, gA_sA_n, gB_si, gB_sl, gB_sA, gB_sB_s, gB_sB_n, Nat.reduceBEq, if_true, if_false, eq_self, Bool.false_eq_true, reduceCtorEq, not_true_eq_false, not_false_eq_true, decide_true, decide_false, cond_true, cond_false, Bool.true_and, Bool.false_and, Bool.and_true, Bool.and_false, Bool.true_or, Bool.false_or, Bool.or_true, Bool.or_false, b2i_tt, b2i_ff]; done) | rfl))⟩, ⟨by rw [ht]; exact hP, va_K.moved hW.alike hK, hD⟩⟩, hS.F ht⟩) hS.2.2 dX3_tryOut_136
    · obtain ⟨h_5, hP, hD, hS, hl⟩ := hI
      have hP : va_P D vwCl (XW ad cI cJ co fl ra li re wa p_5) H := hP
      have hD : va_D A (XW ad cI cJ co fl ra li re wa p_5) := hD
      have hl : lv_has ls 7 [(0, .ref (ad 6)), (1, .int k1), (2, .int (gi pi 2)), (3, .int (rd (gA pi 1) 41 (gi pi 1))), (4, .int (countCross wa (sweepOften wa ((lp toKeep (nN (rd (gA pi 1) 41 (gi pi 1))) pi)) k1)).2), (5, .int (nI i_5))] := hl
      refine lv_iload hx hb dX3_tryOut_64 (lv_at hl 5 rfl) ?_
      refine lv_aload_n hx hb dX3_tryOut_66 rfl (lv_at hl 0 rfl) ?_
      refine va_get (D := D) (ci := 3) (v := .int (gi p_5 1)) (C := RX3) (T := TX3) (N := 16) hx hb hg inGX3 hown hK hP 6 rfl rfl 13 (by decide) (hg _ mw_235) (fun _ h9 => h9) rfl dX3_tryOut_67 ?_
      refine lv_icmp_ge (tgt := 129) hx hb dX3_tryOut_70 (by decide) (fun c_70 => absurd c_70 (by rw [h_5, k_toLL]; exact lp_in hi_5)) (fun _ => ?_)
      refine lv_aload_n hx hb dX3_tryOut_73 rfl (lv_at hl 0 rfl) ?_
      refine va_get (D := D) (ci := 3) (v := .ref (ad 35)) (C := RX3) (T := TX3) (N := 16) hx hb hg inGX3 hown hK hP 6 rfl rfl 2 (by decide) (hg _ mw_256) (fun _ h9 => h9) rfl dX3_tryOut_74 ?_
      refine lv_iload hx hb dX3_tryOut_77 (lv_at hl 5 rfl) ?_
      refine kI (rSN hx hb hml hown hg hN hK hP hD (c_at l D cI cJ (XW ad cI cJ co fl ra li re wa p_5) 35 (ad 35) 41 (gA p_5 1) (nI i_5) rfl (by decide)) mw_84 nw_96 mw_85 mw_77 pd_X7_at ⟨Nat.le_of_ble_eq_true rfl, Nat.le_of_ble_eq_true rfl⟩ rfl hl.1 rfl (Nat.le_of_ble_eq_true rfl) dX3_tryOut_79 ⟨Nat.le_of_ble_eq_true rfl, Nat.le_of_ble_eq_true rfl⟩) hD hS hA (fun r_6 u_6 H locs hp hP hD hS => ?_)
      obtain ⟨er, eu⟩ := hp
      obtain rfl := er.symm
      obtain rfl := eu.symm
      refine lv_istore (lv' := [(6, .int (rd (gA p_5 1) 41 (nI i_5))), (0, .ref (ad 6)), (1, .int k1), (2, .int (gi pi 2)), (3, .int (rd (gA pi 1) 41 (gi pi 1))), (4, .int (countCross wa (sweepOften wa ((lp toKeep (nN (rd (gA pi 1) 41 (gi pi 1))) pi)) k1)).2), (5, .int (nI i_5))]) hx hb dX3_tryOut_82 hl (by decide) rfl (fun ls hl => ?_)
      refine w_loop (σ := Ob) (fun (i_7 : Nat) (p_7 : Ob) (H : Heap) (locs : List Loc) (ls : Array Slot) => p_7 = (lp (toB (nI i_5) (rd (gA p_5 1) 41 (nI i_5))) i_7 p_5) ∧ va_P D vwCl (XW ad cI cJ co fl ra li re wa p_7) H ∧ va_D A (XW ad cI cJ co fl ra li re wa p_7) ∧ va_S A s.heap H locs ∧ lv_has ls 7 [(0, .ref (ad 6)), (1, .int k1), (2, .int (gi pi 2)), (3, .int (rd (gA pi 1) 41 (gi pi 1))), (4, .int (countCross wa (sweepOften wa ((lp toKeep (nN (rd (gA pi 1) 41 (gi pi 1))) pi)) k1)).2), (5, .int (nI i_5)), (6, .int ((rd (gA p_5 1) 41 (nI i_5)) + nI i_7))]) (((rd (gA p_5 1) 41 ((nI i_5) + 1)).toInt - (rd (gA p_5 1) 41 (nI i_5)).toInt).toNat) (fun p_7 H locs ls hI => ?_) (fun i_7 p_7 H locs ls hi_7 hI ih_7 => ?_) 0 p_5 (Nat.zero_le _) ⟨rfl, hP, hD, hS, (by rw [add_nI0]; exact lv_sub hl [1, 2, 3, 4, 5, 6, 0] rfl)⟩
      · obtain ⟨h_7, hP, hD, hS, hl⟩ := hI
        have h_7 := h_7.symm
        subst h_7
        have hP : va_P D vwCl (XW ad cI cJ co fl ra li re wa ((lp (toB (nI i_5) (rd (gA p_5 1) 41 (nI i_5))) (((rd (gA p_5 1) 41 ((nI i_5) + 1)).toInt - (rd (gA p_5 1) 41 (nI i_5)).toInt).toNat) p_5))) H := hP
        have hD : va_D A (XW ad cI cJ co fl ra li re wa ((lp (toB (nI i_5) (rd (gA p_5 1) 41 (nI i_5))) (((rd (gA p_5 1) 41 ((nI i_5) + 1)).toInt - (rd (gA p_5 1) 41 (nI i_5)).toInt).toNat) p_5))) := hD
        have hl : lv_has ls 7 [(0, .ref (ad 6)), (1, .int k1), (2, .int (gi pi 2)), (3, .int (rd (gA pi 1) 41 (gi pi 1))), (4, .int (countCross wa (sweepOften wa ((lp toKeep (nN (rd (gA pi 1) 41 (gi pi 1))) pi)) k1)).2), (5, .int (nI i_5)), (6, .int ((rd (gA p_5 1) 41 (nI i_5)) + nI ((((rd (gA p_5 1) 41 ((nI i_5) + 1)).toInt - (rd (gA p_5 1) 41 (nI i_5)).toInt).toNat))))] := hl
        refine lv_iload hx hb dX3_tryOut_84 (lv_at hl 6 rfl) ?_
        refine lv_aload_n hx hb dX3_tryOut_86 rfl (lv_at hl 0 rfl) ?_
        refine va_get (D := D) (ci := 3) (v := .ref (ad 35)) (C := RX3) (T := TX3) (N := 16) hx hb hg inGX3 hown hK hP 6 rfl rfl 2 (by decide) (hg _ mw_256) (fun _ h9 => h9) rfl dX3_tryOut_87 ?_
        refine lv_iload hx hb dX3_tryOut_90 (lv_at hl 5 rfl) ?_
        refine lv_iconst (v := 1) hx hb dX3_tryOut_92 (by decide) ?_
        refine lv_iadd hx hb dX3_tryOut_93 ?_
        refine kI (rSN hx hb hml hown hg hN hK hP hD (c_at l D cI cJ (XW ad cI cJ co fl ra li re wa ((lp (toB (nI i_5) (rd (gA p_5 1) 41 (nI i_5))) (((rd (gA p_5 1) 41 ((nI i_5) + 1)).toInt - (rd (gA p_5 1) 41 (nI i_5)).toInt).toNat) p_5))) 35 (ad 35) 41 (gA ((lp (toB (nI i_5) (rd (gA p_5 1) 41 (nI i_5))) (((rd (gA p_5 1) 41 ((nI i_5) + 1)).toInt - (rd (gA p_5 1) 41 (nI i_5)).toInt).toNat) p_5)) 1) ((nI i_5) + 1) rfl (by decide)) mw_84 nw_96 mw_85 mw_77 pd_X7_at ⟨Nat.le_of_ble_eq_true rfl, Nat.le_of_ble_eq_true rfl⟩ rfl hl.1 rfl (Nat.le_of_ble_eq_true rfl) dX3_tryOut_94 ⟨Nat.le_of_ble_eq_true rfl, Nat.le_of_ble_eq_true rfl⟩) hD hS hA (fun r_8 u_8 H locs hp hP hD hS => ?_)
        obtain ⟨er, eu⟩ := hp
        obtain rfl := er.symm
        obtain rfl := eu.symm
        refine lv_icmp_ge (tgt := 123) hx hb dX3_tryOut_97 (by decide) (fun _ => ?_) (fun c_97 => absurd (by rw [a_toBL]; exact to_out _ _) c_97)
        refine lv_iinc (v := (nI (i_5 + 1))) (lv' := [(5, .int (nI (i_5 + 1))), (0, .ref (ad 6)), (1, .int k1), (2, .int (gi pi 2)), (3, .int (rd (gA pi 1) 41 (gi pi 1))), (4, .int (countCross wa (sweepOften wa ((lp toKeep (nN (rd (gA pi 1) 41 (gi pi 1))) pi)) k1)).2), (6, .int ((rd (gA p_5 1) 41 (nI i_5)) + nI ((((rd (gA p_5 1) 41 ((nI i_5) + 1)).toInt - (rd (gA p_5 1) 41 (nI i_5)).toInt).toNat))))]) hx hb dX3_tryOut_123 hl (k := 5) rfl (nI_1 i_5) (by decide) rfl (fun ls hl => ?_)
        refine lv_goto (tgt := 64) hx hb dX3_tryOut_126 (by decide) ?_
        exact ih_5 ((lp (toB (nI i_5) (rd (gA p_5 1) 41 (nI i_5))) (((rd (gA p_5 1) 41 ((nI i_5) + 1)).toInt - (rd (gA p_5 1) 41 (nI i_5)).toInt).toNat) p_5)) H locs ls ⟨((show ((lp (toB (nI i_5) (rd (gA p_5 1) 41 (nI i_5))) (((rd (gA p_5 1) 41 ((nI i_5) + 1)).toInt - (rd (gA p_5 1) 41 (nI i_5)).toInt).toNat) p_5)) = toL i_5 p_5 from (by first | with_reducible rfl | (simp only [toL, add_nI0, gi_sl, gi_sA, gi_sB, gi_si_s, gi_si_n, gl_si, gl_sA, gl_sB, gl_sl_s, gl_sl_n, gA_si, gA_sl, gA_sB, gA_sA_s, gA_sA_n, gB_si, gB_sl, gB_sA, gB_sB_s, gB_sB_n, Nat.reduceBEq, if_true, if_false, eq_self, Bool.false_eq_true, reduceCtorEq, not_true_eq_false, not_false_eq_true, decide_true, decide_false, cond_true, cond_false, Bool.true_and, Bool.false_and, Bool.and_true, Bool.and_false, Bool.true_or, Bool.false_or, Bool.or_true, Bool.or_false, b2i_tt, b2i_ff]; done) | rfl)).trans (lp_go h_5)), hP, hD, hS, lv_sub hl [1, 2, 3, 4, 5, 0] rfl⟩
      · obtain ⟨h_7, hP, hD, hS, hl⟩ := hI
        have hP : va_P D vwCl (XW ad cI cJ co fl ra li re wa p_7) H := hP
        have hD : va_D A (XW ad cI cJ co fl ra li re wa p_7) := hD
        have hl : lv_has ls 7 [(0, .ref (ad 6)), (1, .int k1), (2, .int (gi pi 2)), (3, .int (rd (gA pi 1) 41 (gi pi 1))), (4, .int (countCross wa (sweepOften wa ((lp toKeep (nN (rd (gA pi 1) 41 (gi pi 1))) pi)) k1)).2), (5, .int (nI i_5)), (6, .int ((rd (gA p_5 1) 41 (nI i_5)) + nI i_7))] := hl
        refine lv_iload hx hb dX3_tryOut_84 (lv_at hl 6 rfl) ?_
        refine lv_aload_n hx hb dX3_tryOut_86 rfl (lv_at hl 0 rfl) ?_
        refine va_get (D := D) (ci := 3) (v := .ref (ad 35)) (C := RX3) (T := TX3) (N := 16) hx hb hg inGX3 hown hK hP 6 rfl rfl 2 (by decide) (hg _ mw_256) (fun _ h9 => h9) rfl dX3_tryOut_87 ?_
        refine lv_iload hx hb dX3_tryOut_90 (lv_at hl 5 rfl) ?_
        refine lv_iconst (v := 1) hx hb dX3_tryOut_92 (by decide) ?_
        refine lv_iadd hx hb dX3_tryOut_93 ?_
        refine kI (rSN hx hb hml hown hg hN hK hP hD (c_at l D cI cJ (XW ad cI cJ co fl ra li re wa p_7) 35 (ad 35) 41 (gA p_7 1) ((nI i_5) + 1) rfl (by decide)) mw_84 nw_96 mw_85 mw_77 pd_X7_at ⟨Nat.le_of_ble_eq_true rfl, Nat.le_of_ble_eq_true rfl⟩ rfl hl.1 rfl (Nat.le_of_ble_eq_true rfl) dX3_tryOut_94 ⟨Nat.le_of_ble_eq_true rfl, Nat.le_of_ble_eq_true rfl⟩) hD hS hA (fun r_9 u_9 H locs hp hP hD hS => ?_)
        obtain ⟨er, eu⟩ := hp
        obtain rfl := er.symm
        obtain rfl := eu.symm
        refine lv_icmp_ge (tgt := 123) hx hb dX3_tryOut_97 (by decide) (fun c_97 => absurd c_97 (by rw [h_7, a_toBL]; exact to_in hi_7)) (fun _ => ?_)
        refine lv_aload_n hx hb dX3_tryOut_100 rfl (lv_at hl 0 rfl) ?_
        refine lv_iload hx hb dX3_tryOut_101 (lv_at hl 5 rfl) ?_
        refine lv_iload hx hb dX3_tryOut_103 (lv_at hl 6 rfl) ?_
        refine lv_aload_n hx hb dX3_tryOut_105 rfl (lv_at hl 0 rfl) ?_
        refine va_get (D := D) (ci := 3) (v := .ref (ad 40)) (C := RX3) (T := TX3) (N := 16) hx hb hg inGX3 hown hK hP 6 rfl rfl 7 (by decide) (hg _ mw_321) (fun _ h9 => h9) rfl dX3_tryOut_106 ?_
        refine lv_iload hx hb dX3_tryOut_109 (lv_at hl 6 rfl) ?_
        refine kI (rSN hx hb hml hown hg hN hK hP hD (c_at l D cI cJ (XW ad cI cJ co fl ra li re wa p_7) 40 (ad 40) 1600 (gA p_7 6) ((rd (gA p_5 1) 41 (nI i_5)) + nI i_7) rfl (by decide)) mw_84 nw_96 mw_85 mw_77 pd_X7_at ⟨Nat.le_of_ble_eq_true rfl, Nat.le_of_ble_eq_true rfl⟩ rfl hl.1 rfl (Nat.le_of_ble_eq_true rfl) dX3_tryOut_111 ⟨Nat.le_of_ble_eq_true rfl, Nat.le_of_ble_eq_true rfl⟩) hD hS hA (fun r_10 u_10 H locs hp hP hD hS => ?_)
        obtain ⟨er, eu⟩ := hp
        obtain rfl := er.symm
        obtain rfl := eu.symm
        refine kV (rV (q0 := 6) (ci := 3) hx hb hml hown hg hN hK hP hD (c_putPoint l D cI cJ ad co fl ra li re wa p_7 (nI i_5) ((rd (gA p_5 1) 41 (nI i_5)) + nI i_7) (rd (gA p_7 6) 1600 ((rd (gA p_5 1) 41 (nI i_5)) + nI i_7))) mw_261 mw_262 mw_263 mw_264 mw_234 pdv_X3_putPoint ⟨Nat.le_of_ble_eq_true rfl, Nat.le_of_ble_eq_true rfl⟩ rfl rfl rfl hl.1 rfl (Nat.le_of_ble_eq_true rfl) dX3_tryOut_114 ⟨Nat.le_of_ble_eq_true rfl, Nat.le_of_ble_eq_true rfl⟩) hD hS hA (fun u_11 H locs hp hP hD hS => ?_)
        obtain rfl := hp.symm
        have hP : va_P D vwCl (XW ad cI cJ co fl ra li re wa (putPoint p_7 (nI i_5) ((rd (gA p_5 1) 41 (nI i_5)) + nI i_7) (rd (gA p_7 6) 1600 ((rd (gA p_5 1) 41 (nI i_5)) + nI i_7)))) H := hP
        have hD : va_D A (XW ad cI cJ co fl ra li re wa (putPoint p_7 (nI i_5) ((rd (gA p_5 1) 41 (nI i_5)) + nI i_7) (rd (gA p_7 6) 1600 ((rd (gA p_5 1) 41 (nI i_5)) + nI i_7)))) := hD
        refine lv_iinc (v := (((rd (gA p_5 1) 41 (nI i_5)) + nI ((((rd (gA p_5 1) 41 ((nI i_5) + 1)).toInt - (rd (gA p_5 1) 41 (nI i_5)).toInt).toNat))) + nI (i_7 + 1))) (lv' := [(6, .int (((rd (gA p_5 1) 41 (nI i_5)) + nI ((((rd (gA p_5 1) 41 ((nI i_5) + 1)).toInt - (rd (gA p_5 1) 41 (nI i_5)).toInt).toNat))) + nI (i_7 + 1))), (0, .ref (ad 6)), (1, .int k1), (2, .int (gi pi 2)), (3, .int (rd (gA pi 1) 41 (gi pi 1))), (4, .int (countCross wa (sweepOften wa ((lp toKeep (nN (rd (gA pi 1) 41 (gi pi 1))) pi)) k1)).2), (5, .int (nI i_5))]) hx hb dX3_tryOut_117 hl (k := 6) rfl (add_nI1 _ i_7) (by decide) rfl (fun ls hl => ?_)
        refine lv_goto (tgt := 84) hx hb dX3_tryOut_120 (by decide) ?_
        exact ih_7 (putPoint p_7 (nI i_5) ((rd (gA p_5 1) 41 (nI i_5)) + nI i_7) (rd (gA p_7 6) 1600 ((rd (gA p_5 1) 41 (nI i_5)) + nI i_7))) H locs ls ⟨((show (putPoint p_7 (nI i_5) ((rd (gA p_5 1) 41 (nI i_5)) + nI i_7) (rd (gA p_7 6) 1600 ((rd (gA p_5 1) 41 (nI i_5)) + nI i_7))) = (toB (nI i_5) (rd (gA p_5 1) 41 (nI i_5))) i_7 p_7 from (by first | with_reducible rfl | (simp only [toB, gi_sl, gi_sA, gi_sB, gi_si_s, gi_si_n, gl_si, gl_sA, gl_sB, gl_sl_s, gl_sl_n, gA_si, gA_sl, gA_sB, gA_sA_s, gA_sA_n, gB_si, gB_sl, gB_sA, gB_sB_s, gB_sB_n, Nat.reduceBEq, if_true, if_false, eq_self, Bool.false_eq_true, reduceCtorEq, not_true_eq_false, not_false_eq_true, decide_true, decide_false, cond_true, cond_false, Bool.true_and, Bool.false_and, Bool.and_true, Bool.and_false, Bool.true_or, Bool.false_or, Bool.or_true, Bool.or_false, b2i_tt, b2i_ff]; done) | rfl)).trans (lp_go h_7)), hP, hD, hS, lv_sub hl [1, 2, 3, 4, 5, 6, 0] rfl⟩
  · obtain ⟨h_2, hP, hD, hS, hl⟩ := hI
    have hP : va_P D vwCl (XW ad cI cJ co fl ra li re wa p_2) H := hP
    have hD : va_D A (XW ad cI cJ co fl ra li re wa p_2) := hD
    have hl : lv_has ls 7 [(0, .ref (ad 6)), (1, .int k1), (2, .int (gi pi 2)), (3, .int (rd (gA pi 1) 41 (gi pi 1))), (4, .int (nI i_2))] := hl
    refine lv_iload hx hb dX3_tryOut_20 (lv_at hl 4 rfl) ?_
    refine lv_iload_n hx hb dX3_tryOut_22 rfl (lv_at hl 3 rfl) ?_
    refine lv_icmp_ge (tgt := 50) hx hb dX3_tryOut_23 (by decide) (fun c_23 => absurd c_23 (lp_in hi_2)) (fun _ => ?_)
    refine lv_aload_n hx hb dX3_tryOut_26 rfl (lv_at hl 0 rfl) ?_
    refine va_get (D := D) (ci := 3) (v := .ref (ad 40)) (C := RX3) (T := TX3) (N := 16) hx hb hg inGX3 hown hK hP 6 rfl rfl 7 (by decide) (hg _ mw_321) (fun _ h9 => h9) rfl dX3_tryOut_27 ?_
    refine lv_iload hx hb dX3_tryOut_30 (lv_at hl 4 rfl) ?_
    refine lv_aload_n hx hb dX3_tryOut_32 rfl (lv_at hl 0 rfl) ?_
    refine va_get (D := D) (ci := 3) (v := .ref (ad 38)) (C := RX3) (T := TX3) (N := 16) hx hb hg inGX3 hown hK hP 6 rfl rfl 5 (by decide) (hg _ mw_254) (fun _ h9 => h9) rfl dX3_tryOut_33 ?_
    refine lv_iload hx hb dX3_tryOut_36 (lv_at hl 4 rfl) ?_
    refine kI (rSN hx hb hml hown hg hN hK hP hD (c_at l D cI cJ (XW ad cI cJ co fl ra li re wa p_2) 38 (ad 38) 1600 (gA p_2 4) (nI i_2) rfl (by decide)) mw_84 nw_96 mw_85 mw_77 pd_X7_at ⟨Nat.le_of_ble_eq_true rfl, Nat.le_of_ble_eq_true rfl⟩ rfl hl.1 rfl (Nat.le_of_ble_eq_true rfl) dX3_tryOut_38 ⟨Nat.le_of_ble_eq_true rfl, Nat.le_of_ble_eq_true rfl⟩) hD hS hA (fun r_12 u_12 H locs hp hP hD hS => ?_)
    obtain ⟨er, eu⟩ := hp
    obtain rfl := er.symm
    obtain rfl := eu.symm
    refine kV (rSN hx hb hml hown hg hN hK hP hD (c_put l D cI cJ (XW ad cI cJ co fl ra li re wa p_2) 40 (ad 40) 1600 (gA p_2 6) (nI i_2) (rd (gA p_2 4) 1600 (nI i_2)) rfl (by decide)) mw_92 nw_95 mw_93 mw_77 pd_X7_put ⟨Nat.le_of_ble_eq_true rfl, Nat.le_of_ble_eq_true rfl⟩ rfl hl.1 rfl (Nat.le_of_ble_eq_true rfl) dX3_tryOut_41 ⟨Nat.le_of_ble_eq_true rfl, Nat.le_of_ble_eq_true rfl⟩) hD hS hA (fun u_13 H locs hp hP hD hS => ?_)
    obtain rfl := hp.symm
    have hP : va_P D vwCl (XW ad cI cJ co fl ra li re wa (sA p_2 6 (wr (gA p_2 6) 1600 (nI i_2) (rd (gA p_2 4) 1600 (nI i_2))))) H := hP
    have hD : va_D A (XW ad cI cJ co fl ra li re wa (sA p_2 6 (wr (gA p_2 6) 1600 (nI i_2) (rd (gA p_2 4) 1600 (nI i_2))))) := hD
    refine lv_iinc (v := (nI (i_2 + 1))) (lv' := [(4, .int (nI (i_2 + 1))), (0, .ref (ad 6)), (1, .int k1), (2, .int (gi pi 2)), (3, .int (rd (gA pi 1) 41 (gi pi 1)))]) hx hb dX3_tryOut_44 hl (k := 4) rfl (nI_1 i_2) (by decide) rfl (fun ls hl => ?_)
    refine lv_goto (tgt := 20) hx hb dX3_tryOut_47 (by decide) ?_
    exact ih_2 (sA p_2 6 (wr (gA p_2 6) 1600 (nI i_2) (rd (gA p_2 4) 1600 (nI i_2)))) H locs ls ⟨((show (sA p_2 6 (wr (gA p_2 6) 1600 (nI i_2) (rd (gA p_2 4) 1600 (nI i_2)))) = toKeep i_2 p_2 from (by first | with_reducible rfl | (simp only [toKeep, gi_sl, gi_sA, gi_sB, gi_si_s, gi_si_n, gl_si, gl_sA, gl_sB, gl_sl_s, gl_sl_n, gA_si, gA_sl, gA_sB, gA_sA_s, gA_sA_n, gB_si, gB_sl, gB_sA, gB_sB_s, gB_sB_n, Nat.reduceBEq, if_true, if_false, eq_self, Bool.false_eq_true, reduceCtorEq, not_true_eq_false, not_false_eq_true, decide_true, decide_false, cond_true, cond_false, Bool.true_and, Bool.false_and, Bool.and_true, Bool.and_false, Bool.true_or, Bool.false_or, Bool.or_true, Bool.or_false, b2i_tt, b2i_ff]; done) | rfl)).trans (lp_go h_2)), hP, hD, hS, lv_sub hl [1, 2, 3, 4, 0] rfl⟩
