theorem dJ13_bitCount_95d88_0 : decode cJ13_bitCount_95d88 0 = .ok (.lload_n 0, 1) := by decide +kernel
theorem dJ13_bitCount_95d88_1 : decode cJ13_bitCount_95d88 1 = .ok (.lload_n 0, 1) := by decide +kernel
theorem dJ13_bitCount_95d88_2 : decode cJ13_bitCount_95d88 2 = .ok (.iconst 1, 1) := by decide +kernel
theorem dJ13_bitCount_95d88_3 : decode cJ13_bitCount_95d88 3 = .ok (.lushr, 1) := by decide +kernel
theorem dJ13_bitCount_95d88_4 : decode cJ13_bitCount_95d88 4 = .ok (.ldc2_w 314, 3) := by decide +kernel
theorem dJ13_bitCount_95d88_7 : decode cJ13_bitCount_95d88 7 = .ok (.land, 1) := by decide +kernel
theorem dJ13_bitCount_95d88_8 : decode cJ13_bitCount_95d88 8 = .ok (.lsub, 1) := by decide +kernel
theorem dJ13_bitCount_95d88_9 : decode cJ13_bitCount_95d88 9 = .ok (.lstore_n 0, 1) := by decide +kernel
theorem dJ13_bitCount_95d88_10 : decode cJ13_bitCount_95d88 10 = .ok (.lload_n 0, 1) := by decide +kernel
theorem dJ13_bitCount_95d88_11 : decode cJ13_bitCount_95d88 11 = .ok (.ldc2_w 316, 3) := by decide +kernel
theorem dJ13_bitCount_95d88_14 : decode cJ13_bitCount_95d88 14 = .ok (.land, 1) := by decide +kernel
theorem dJ13_bitCount_95d88_15 : decode cJ13_bitCount_95d88 15 = .ok (.lload_n 0, 1) := by decide +kernel
theorem dJ13_bitCount_95d88_16 : decode cJ13_bitCount_95d88 16 = .ok (.iconst 2, 1) := by decide +kernel
theorem dJ13_bitCount_95d88_17 : decode cJ13_bitCount_95d88 17 = .ok (.lushr, 1) := by decide +kernel
theorem dJ13_bitCount_95d88_18 : decode cJ13_bitCount_95d88 18 = .ok (.ldc2_w 316, 3) := by decide +kernel
theorem dJ13_bitCount_95d88_21 : decode cJ13_bitCount_95d88 21 = .ok (.land, 1) := by decide +kernel
theorem dJ13_bitCount_95d88_22 : decode cJ13_bitCount_95d88 22 = .ok (.ladd, 1) := by decide +kernel
theorem dJ13_bitCount_95d88_23 : decode cJ13_bitCount_95d88 23 = .ok (.lstore_n 0, 1) := by decide +kernel
theorem dJ13_bitCount_95d88_24 : decode cJ13_bitCount_95d88 24 = .ok (.lload_n 0, 1) := by decide +kernel
theorem dJ13_bitCount_95d88_25 : decode cJ13_bitCount_95d88 25 = .ok (.lload_n 0, 1) := by decide +kernel
theorem dJ13_bitCount_95d88_26 : decode cJ13_bitCount_95d88 26 = .ok (.iconst 4, 1) := by decide +kernel
theorem dJ13_bitCount_95d88_27 : decode cJ13_bitCount_95d88 27 = .ok (.lushr, 1) := by decide +kernel
theorem dJ13_bitCount_95d88_28 : decode cJ13_bitCount_95d88 28 = .ok (.ladd, 1) := by decide +kernel
theorem dJ13_bitCount_95d88_29 : decode cJ13_bitCount_95d88 29 = .ok (.ldc2_w 318, 3) := by decide +kernel
theorem dJ13_bitCount_95d88_32 : decode cJ13_bitCount_95d88 32 = .ok (.land, 1) := by decide +kernel
theorem dJ13_bitCount_95d88_33 : decode cJ13_bitCount_95d88 33 = .ok (.lstore_n 0, 1) := by decide +kernel
theorem dJ13_bitCount_95d88_34 : decode cJ13_bitCount_95d88 34 = .ok (.lload_n 0, 1) := by decide +kernel
theorem dJ13_bitCount_95d88_35 : decode cJ13_bitCount_95d88 35 = .ok (.lload_n 0, 1) := by decide +kernel
theorem dJ13_bitCount_95d88_36 : decode cJ13_bitCount_95d88 36 = .ok (.bipush 8, 2) := by decide +kernel
theorem dJ13_bitCount_95d88_38 : decode cJ13_bitCount_95d88 38 = .ok (.lushr, 1) := by decide +kernel
theorem dJ13_bitCount_95d88_39 : decode cJ13_bitCount_95d88 39 = .ok (.ladd, 1) := by decide +kernel
theorem dJ13_bitCount_95d88_40 : decode cJ13_bitCount_95d88 40 = .ok (.lstore_n 0, 1) := by decide +kernel
theorem dJ13_bitCount_95d88_41 : decode cJ13_bitCount_95d88 41 = .ok (.lload_n 0, 1) := by decide +kernel
theorem dJ13_bitCount_95d88_42 : decode cJ13_bitCount_95d88 42 = .ok (.lload_n 0, 1) := by decide +kernel
theorem dJ13_bitCount_95d88_43 : decode cJ13_bitCount_95d88 43 = .ok (.bipush 16, 2) := by decide +kernel
theorem dJ13_bitCount_95d88_45 : decode cJ13_bitCount_95d88 45 = .ok (.lushr, 1) := by decide +kernel
theorem dJ13_bitCount_95d88_46 : decode cJ13_bitCount_95d88 46 = .ok (.ladd, 1) := by decide +kernel
theorem dJ13_bitCount_95d88_47 : decode cJ13_bitCount_95d88 47 = .ok (.lstore_n 0, 1) := by decide +kernel
theorem dJ13_bitCount_95d88_48 : decode cJ13_bitCount_95d88 48 = .ok (.lload_n 0, 1) := by decide +kernel
theorem dJ13_bitCount_95d88_49 : decode cJ13_bitCount_95d88 49 = .ok (.lload_n 0, 1) := by decide +kernel
theorem dJ13_bitCount_95d88_50 : decode cJ13_bitCount_95d88 50 = .ok (.bipush 32, 2) := by decide +kernel
theorem dJ13_bitCount_95d88_52 : decode cJ13_bitCount_95d88 52 = .ok (.lushr, 1) := by decide +kernel
theorem dJ13_bitCount_95d88_53 : decode cJ13_bitCount_95d88 53 = .ok (.ladd, 1) := by decide +kernel
theorem dJ13_bitCount_95d88_54 : decode cJ13_bitCount_95d88 54 = .ok (.lstore_n 0, 1) := by decide +kernel
theorem dJ13_bitCount_95d88_55 : decode cJ13_bitCount_95d88 55 = .ok (.lload_n 0, 1) := by decide +kernel
theorem dJ13_bitCount_95d88_56 : decode cJ13_bitCount_95d88 56 = .ok (.l2i, 1) := by decide +kernel
theorem dJ13_bitCount_95d88_57 : decode cJ13_bitCount_95d88 57 = .ok (.bipush 127, 2) := by decide +kernel
theorem dJ13_bitCount_95d88_59 : decode cJ13_bitCount_95d88 59 = .ok (.iand, 1) := by decide +kernel
theorem dJ13_bitCount_95d88_60 : decode cJ13_bitCount_95d88 60 = .ok (.ireturn, 1) := by decide +kernel
theorem dX7_mix_0 : decode cX7_mix 0 = .ok (.lload_n 0, 1) := by decide +kernel
theorem dX7_mix_1 : decode cX7_mix 1 = .ok (.ldc2_w 364, 3) := by decide +kernel
theorem dX7_mix_4 : decode cX7_mix 4 = .ok (.lmul, 1) := by decide +kernel
theorem dX7_mix_5 : decode cX7_mix 5 = .ok (.iload_n 2, 1) := by decide +kernel
theorem dX7_mix_6 : decode cX7_mix 6 = .ok (.i2l, 1) := by decide +kernel
theorem dX7_mix_7 : decode cX7_mix 7 = .ok (.ladd, 1) := by decide +kernel
theorem dX7_mix_8 : decode cX7_mix 8 = .ok (.lreturn, 1) := by decide +kernel
theorem dX7_mix__0 : decode cX7_mix_ 0 = .ok (.lload_n 0, 1) := by decide +kernel
theorem dX7_mix__1 : decode cX7_mix_ 1 = .ok (.ldc2_w 364, 3) := by decide +kernel
theorem dX7_mix__4 : decode cX7_mix_ 4 = .ok (.lmul, 1) := by decide +kernel
theorem dX7_mix__5 : decode cX7_mix_ 5 = .ok (.iload_n 2, 1) := by decide +kernel
theorem dX7_mix__6 : decode cX7_mix_ 6 = .ok (.ifCond .eq 7, 3) := by decide +kernel
theorem dX7_mix__9 : decode cX7_mix_ 9 = .ok (.lconst 1, 1) := by decide +kernel
theorem dX7_mix__10 : decode cX7_mix_ 10 = .ok (.goto 4, 3) := by decide +kernel
theorem dX7_mix__13 : decode cX7_mix_ 13 = .ok (.lconst 0, 1) := by decide +kernel
theorem dX7_mix__14 : decode cX7_mix_ 14 = .ok (.ladd, 1) := by decide +kernel
theorem dX7_mix__15 : decode cX7_mix_ 15 = .ok (.lreturn, 1) := by decide +kernel
theorem dX1_countWindings_0 : decode cX1_countWindings 0 = .ok (.aload_n 0, 1) := by decide +kernel
theorem dX1_countWindings_1 : decode cX1_countWindings 1 = .ok (.getfield 51, 3) := by decide +kernel
theorem dX1_countWindings_4 : decode cX1_countWindings 4 = .ok (.ifCond .ne 5, 3) := by decide +kernel
theorem dX1_countWindings_7 : decode cX1_countWindings 7 = .ok (.iconst 0, 1) := by decide +kernel
theorem dX1_countWindings_8 : decode cX1_countWindings 8 = .ok (.ireturn, 1) := by decide +kernel
theorem dX3_countCrossings_0 : decode cX3_countCrossings 0 = .ok (.iconst 0, 1) := by decide +kernel
theorem dX3_countCrossings_1 : decode cX3_countCrossings 1 = .ok (.istore_n 1, 1) := by decide +kernel
theorem dX3_countCrossings_2 : decode cX3_countCrossings 2 = .ok (.iconst 0, 1) := by decide +kernel
theorem dX3_countCrossings_3 : decode cX3_countCrossings 3 = .ok (.istore_n 2, 1) := by decide +kernel
theorem dX3_countCrossings_4 : decode cX3_countCrossings 4 = .ok (.iload_n 2, 1) := by decide +kernel
theorem dX3_countCrossings_5 : decode cX3_countCrossings 5 = .ok (.aload_n 0, 1) := by decide +kernel
theorem dX3_countCrossings_6 : decode cX3_countCrossings 6 = .ok (.getfield 72, 3) := by decide +kernel
theorem dX3_countCrossings_9 : decode cX3_countCrossings 9 = .ok (.iconst 1, 1) := by decide +kernel
theorem dX3_countCrossings_10 : decode cX3_countCrossings 10 = .ok (.isub, 1) := by decide +kernel
theorem dX3_countCrossings_11 : decode cX3_countCrossings 11 = .ok (.if_icmp .ge 17, 3) := by decide +kernel
theorem dX3_countCrossings_28 : decode cX3_countCrossings 28 = .ok (.iload_n 1, 1) := by decide +kernel
theorem dX3_countCrossings_29 : decode cX3_countCrossings 29 = .ok (.ireturn, 1) := by decide +kernel
theorem dX3_meanSpan_0 : decode cX3_meanSpan 0 = .ok (.iconst 0, 1) := by decide +kernel
theorem dX3_meanSpan_1 : decode cX3_meanSpan 1 = .ok (.istore_n 1, 1) := by decide +kernel
theorem dX3_meanSpan_2 : decode cX3_meanSpan 2 = .ok (.iconst 0, 1) := by decide +kernel
theorem dX3_meanSpan_3 : decode cX3_meanSpan 3 = .ok (.istore_n 2, 1) := by decide +kernel
theorem dX3_meanSpan_4 : decode cX3_meanSpan 4 = .ok (.iconst 0, 1) := by decide +kernel
theorem dX3_meanSpan_5 : decode cX3_meanSpan 5 = .ok (.istore_n 3, 1) := by decide +kernel
theorem dX3_meanSpan_6 : decode cX3_meanSpan 6 = .ok (.iload_n 3, 1) := by decide +kernel
theorem dX3_meanSpan_7 : decode cX3_meanSpan 7 = .ok (.aload_n 0, 1) := by decide +kernel
theorem dX3_meanSpan_8 : decode cX3_meanSpan 8 = .ok (.getfield 58, 3) := by decide +kernel
theorem dX3_meanSpan_11 : decode cX3_meanSpan 11 = .ok (.if_icmp .ge 37, 3) := by decide +kernel
theorem dX3_meanSpan_48 : decode cX3_meanSpan 48 = .ok (.iload_n 1, 1) := by decide +kernel
theorem dX3_meanSpan_49 : decode cX3_meanSpan 49 = .ok (.ifCond .le 11, 3) := by decide +kernel
theorem dX3_meanSpan_60 : decode cX3_meanSpan 60 = .ok (.dconst 0, 1) := by decide +kernel
theorem dX3_meanSpan_61 : decode cX3_meanSpan 61 = .ok (.dreturn, 1) := by decide +kernel
theorem dX3_sweepOften_0 : decode cX3_sweepOften 0 = .ok (.iconst 0, 1) := by decide +kernel
theorem dX3_sweepOften_1 : decode cX3_sweepOften 1 = .ok (.istore_n 2, 1) := by decide +kernel
theorem dX3_sweepOften_2 : decode cX3_sweepOften 2 = .ok (.iload_n 2, 1) := by decide +kernel
theorem dX3_sweepOften_3 : decode cX3_sweepOften 3 = .ok (.iload_n 1, 1) := by decide +kernel
theorem dX3_sweepOften_4 : decode cX3_sweepOften 4 = .ok (.if_icmp .ge 89, 3) := by decide +kernel
theorem dX3_sweepOften_7 : decode cX3_sweepOften 7 = .ok (.aload_n 0, 1) := by decide +kernel
theorem dX3_sweepOften_8 : decode cX3_sweepOften 8 = .ok (.getfield 59, 3) := by decide +kernel
theorem dX3_sweepOften_11 : decode cX3_sweepOften 11 = .ok (.iconst 1, 1) := by decide +kernel
theorem dX3_sweepOften_12 : decode cX3_sweepOften 12 = .ok (.iand, 1) := by decide +kernel
theorem dX3_sweepOften_13 : decode cX3_sweepOften 13 = .ok (.ifCond .ne 7, 3) := by decide +kernel
theorem dX3_sweepOften_16 : decode cX3_sweepOften 16 = .ok (.iconst 1, 1) := by decide +kernel
theorem dX3_sweepOften_17 : decode cX3_sweepOften 17 = .ok (.goto 4, 3) := by decide +kernel
theorem dX3_sweepOften_20 : decode cX3_sweepOften 20 = .ok (.iconst 0, 1) := by decide +kernel
theorem dX3_sweepOften_21 : decode cX3_sweepOften 21 = .ok (.istore_n 3, 1) := by decide +kernel
theorem dX3_sweepOften_22 : decode cX3_sweepOften 22 = .ok (.iconst 1, 1) := by decide +kernel
theorem dX3_sweepOften_23 : decode cX3_sweepOften 23 = .ok (.istore 4, 2) := by decide +kernel
theorem dX3_sweepOften_25 : decode cX3_sweepOften 25 = .ok (.iload 4, 2) := by decide +kernel
theorem dX3_sweepOften_27 : decode cX3_sweepOften 27 = .ok (.aload_n 0, 1) := by decide +kernel
theorem dX3_sweepOften_28 : decode cX3_sweepOften 28 = .ok (.getfield 72, 3) := by decide +kernel
theorem dX3_sweepOften_31 : decode cX3_sweepOften 31 = .ok (.if_icmp .ge 46, 3) := by decide +kernel
theorem dX3_sweepOften_77 : decode cX3_sweepOften 77 = .ok (.aload_n 0, 1) := by decide +kernel
theorem dX3_sweepOften_78 : decode cX3_sweepOften 78 = .ok (.dup, 1) := by decide +kernel
theorem dX3_sweepOften_79 : decode cX3_sweepOften 79 = .ok (.getfield 59, 3) := by decide +kernel
theorem dX3_sweepOften_82 : decode cX3_sweepOften 82 = .ok (.iconst 1, 1) := by decide +kernel
theorem dX3_sweepOften_83 : decode cX3_sweepOften 83 = .ok (.iadd, 1) := by decide +kernel
theorem dX3_sweepOften_84 : decode cX3_sweepOften 84 = .ok (.putfield 59, 3) := by decide +kernel
theorem dX3_sweepOften_87 : decode cX3_sweepOften 87 = .ok (.iinc 2 1, 3) := by decide +kernel
theorem dX3_sweepOften_90 : decode cX3_sweepOften 90 = .ok (.goto (-88), 3) := by decide +kernel
theorem dX3_sweepOften_93 : decode cX3_sweepOften 93 = .ok (.return_, 1) := by decide +kernel
theorem dX3_tryOut_0 : decode cX3_tryOut 0 = .ok (.aload_n 0, 1) := by decide +kernel
theorem dX3_tryOut_1 : decode cX3_tryOut 1 = .ok (.getfield 59, 3) := by decide +kernel
theorem dX3_tryOut_4 : decode cX3_tryOut 4 = .ok (.istore_n 2, 1) := by decide +kernel
theorem dX3_tryOut_5 : decode cX3_tryOut 5 = .ok (.aload_n 0, 1) := by decide +kernel
theorem dX3_tryOut_6 : decode cX3_tryOut 6 = .ok (.getfield 22, 3) := by decide +kernel
theorem dX3_tryOut_9 : decode cX3_tryOut 9 = .ok (.aload_n 0, 1) := by decide +kernel
theorem dX3_tryOut_10 : decode cX3_tryOut 10 = .ok (.getfield 72, 3) := by decide +kernel
theorem dX3_tryOut_13 : decode cX3_tryOut 13 = .ok (.invokestatic 95, 3) := by decide +kernel
theorem dX3_tryOut_16 : decode cX3_tryOut 16 = .ok (.istore_n 3, 1) := by decide +kernel
theorem dX3_tryOut_17 : decode cX3_tryOut 17 = .ok (.iconst 0, 1) := by decide +kernel
theorem dX3_tryOut_18 : decode cX3_tryOut 18 = .ok (.istore 4, 2) := by decide +kernel
theorem dX3_tryOut_20 : decode cX3_tryOut 20 = .ok (.iload 4, 2) := by decide +kernel
theorem dX3_tryOut_22 : decode cX3_tryOut 22 = .ok (.iload_n 3, 1) := by decide +kernel
theorem dX3_tryOut_23 : decode cX3_tryOut 23 = .ok (.if_icmp .ge 27, 3) := by decide +kernel
theorem dX3_tryOut_50 : decode cX3_tryOut 50 = .ok (.aload_n 0, 1) := by decide +kernel
theorem dX3_tryOut_51 : decode cX3_tryOut 51 = .ok (.iload_n 1, 1) := by decide +kernel
theorem dX3_tryOut_52 : decode cX3_tryOut 52 = .ok (.invokevirtual 148, 3) := by decide +kernel
theorem dX3_tryOut_55 : decode cX3_tryOut 55 = .ok (.aload_n 0, 1) := by decide +kernel
theorem dX3_tryOut_56 : decode cX3_tryOut 56 = .ok (.invokevirtual 152, 3) := by decide +kernel
theorem dX3_tryOut_59 : decode cX3_tryOut 59 = .ok (.istore 4, 2) := by decide +kernel
theorem dX3_tryOut_61 : decode cX3_tryOut 61 = .ok (.iconst 0, 1) := by decide +kernel
theorem dX3_tryOut_62 : decode cX3_tryOut 62 = .ok (.istore 5, 2) := by decide +kernel
theorem dX3_tryOut_64 : decode cX3_tryOut 64 = .ok (.iload 5, 2) := by decide +kernel
theorem dX3_tryOut_66 : decode cX3_tryOut 66 = .ok (.aload_n 0, 1) := by decide +kernel
theorem dX3_tryOut_67 : decode cX3_tryOut 67 = .ok (.getfield 72, 3) := by decide +kernel
theorem dX3_tryOut_70 : decode cX3_tryOut 70 = .ok (.if_icmp .ge 59, 3) := by decide +kernel
theorem dX3_tryOut_129 : decode cX3_tryOut 129 = .ok (.aload_n 0, 1) := by decide +kernel
theorem dX3_tryOut_130 : decode cX3_tryOut 130 = .ok (.iload_n 2, 1) := by decide +kernel
theorem dX3_tryOut_131 : decode cX3_tryOut 131 = .ok (.putfield 59, 3) := by decide +kernel
theorem dX3_tryOut_134 : decode cX3_tryOut 134 = .ok (.iload 4, 2) := by decide +kernel
theorem dX3_tryOut_136 : decode cX3_tryOut 136 = .ok (.ireturn, 1) := by decide +kernel
theorem dX7_digestOfCode_0 : decode cX7_digestOfCode 0 = .ok (.lload_n 1, 1) := by decide +kernel
theorem dX7_digestOfCode_1 : decode cX7_digestOfCode 1 = .ok (.aload_n 0, 1) := by decide +kernel
theorem dX7_digestOfCode_2 : decode cX7_digestOfCode 2 = .ok (.getfield 10, 3) := by decide +kernel
theorem dX7_digestOfCode_5 : decode cX7_digestOfCode 5 = .ok (.getfield 51, 3) := by decide +kernel
theorem dX7_digestOfCode_8 : decode cX7_digestOfCode 8 = .ok (.invokestatic 308, 3) := by decide +kernel
theorem dX7_digestOfCode_11 : decode cX7_digestOfCode 11 = .ok (.lstore_n 3, 1) := by decide +kernel
theorem dX7_digestOfCode_12 : decode cX7_digestOfCode 12 = .ok (.iconst 0, 1) := by decide +kernel
theorem dX7_digestOfCode_13 : decode cX7_digestOfCode 13 = .ok (.istore 5, 2) := by decide +kernel
theorem dX7_digestOfCode_15 : decode cX7_digestOfCode 15 = .ok (.iload 5, 2) := by decide +kernel
theorem dX7_digestOfCode_17 : decode cX7_digestOfCode 17 = .ok (.aload_n 0, 1) := by decide +kernel
theorem dX7_digestOfCode_18 : decode cX7_digestOfCode 18 = .ok (.getfield 10, 3) := by decide +kernel
theorem dX7_digestOfCode_21 : decode cX7_digestOfCode 21 = .ok (.getfield 51, 3) := by decide +kernel
theorem dX7_digestOfCode_24 : decode cX7_digestOfCode 24 = .ok (.if_icmp .ge 60, 3) := by decide +kernel
theorem dX7_digestOfCode_84 : decode cX7_digestOfCode 84 = .ok (.lload_n 3, 1) := by decide +kernel
theorem dX7_digestOfCode_85 : decode cX7_digestOfCode 85 = .ok (.lreturn, 1) := by decide +kernel
theorem dX7_digestOfBlocks_0 : decode cX7_digestOfBlocks 0 = .ok (.lload_n 1, 1) := by decide +kernel
theorem dX7_digestOfBlocks_1 : decode cX7_digestOfBlocks 1 = .ok (.aload_n 0, 1) := by decide +kernel
theorem dX7_digestOfBlocks_2 : decode cX7_digestOfBlocks 2 = .ok (.getfield 19, 3) := by decide +kernel
theorem dX7_digestOfBlocks_5 : decode cX7_digestOfBlocks 5 = .ok (.getfield 127, 3) := by decide +kernel
theorem dX7_digestOfBlocks_8 : decode cX7_digestOfBlocks 8 = .ok (.invokestatic 308, 3) := by decide +kernel
theorem dX7_digestOfBlocks_11 : decode cX7_digestOfBlocks 11 = .ok (.lstore_n 3, 1) := by decide +kernel
theorem dX7_digestOfBlocks_12 : decode cX7_digestOfBlocks 12 = .ok (.iconst 0, 1) := by decide +kernel
theorem dX7_digestOfBlocks_13 : decode cX7_digestOfBlocks 13 = .ok (.istore 5, 2) := by decide +kernel
theorem dX7_digestOfBlocks_15 : decode cX7_digestOfBlocks 15 = .ok (.iload 5, 2) := by decide +kernel
theorem dX7_digestOfBlocks_17 : decode cX7_digestOfBlocks 17 = .ok (.aload_n 0, 1) := by decide +kernel
theorem dX7_digestOfBlocks_18 : decode cX7_digestOfBlocks 18 = .ok (.getfield 19, 3) := by decide +kernel
theorem dX7_digestOfBlocks_21 : decode cX7_digestOfBlocks 21 = .ok (.getfield 127, 3) := by decide +kernel
theorem dX7_digestOfBlocks_24 : decode cX7_digestOfBlocks 24 = .ok (.if_icmp .ge 156, 3) := by decide +kernel
theorem dX7_digestOfBlocks_180 : decode cX7_digestOfBlocks 180 = .ok (.lload_n 3, 1) := by decide +kernel
theorem dX7_digestOfBlocks_181 : decode cX7_digestOfBlocks 181 = .ok (.lreturn, 1) := by decide +kernel
theorem dX7_digestOfEdges_0 : decode cX7_digestOfEdges 0 = .ok (.lload_n 1, 1) := by decide +kernel
theorem dX7_digestOfEdges_1 : decode cX7_digestOfEdges 1 = .ok (.aload_n 0, 1) := by decide +kernel
theorem dX7_digestOfEdges_2 : decode cX7_digestOfEdges 2 = .ok (.getfield 19, 3) := by decide +kernel
theorem dX7_digestOfEdges_5 : decode cX7_digestOfEdges 5 = .ok (.getfield 147, 3) := by decide +kernel
theorem dX7_digestOfEdges_8 : decode cX7_digestOfEdges 8 = .ok (.invokestatic 308, 3) := by decide +kernel
theorem dX7_digestOfEdges_11 : decode cX7_digestOfEdges 11 = .ok (.lstore_n 3, 1) := by decide +kernel
theorem dX7_digestOfEdges_12 : decode cX7_digestOfEdges 12 = .ok (.iconst 0, 1) := by decide +kernel
theorem dX7_digestOfEdges_13 : decode cX7_digestOfEdges 13 = .ok (.istore 5, 2) := by decide +kernel
theorem dX7_digestOfEdges_15 : decode cX7_digestOfEdges 15 = .ok (.iload 5, 2) := by decide +kernel
theorem dX7_digestOfEdges_17 : decode cX7_digestOfEdges 17 = .ok (.aload_n 0, 1) := by decide +kernel
theorem dX7_digestOfEdges_18 : decode cX7_digestOfEdges 18 = .ok (.getfield 19, 3) := by decide +kernel
theorem dX7_digestOfEdges_21 : decode cX7_digestOfEdges 21 = .ok (.getfield 147, 3) := by decide +kernel
theorem dX7_digestOfEdges_24 : decode cX7_digestOfEdges 24 = .ok (.if_icmp .ge 96, 3) := by decide +kernel
theorem dX7_digestOfEdges_120 : decode cX7_digestOfEdges 120 = .ok (.lload_n 3, 1) := by decide +kernel
theorem dX7_digestOfEdges_121 : decode cX7_digestOfEdges 121 = .ok (.lreturn, 1) := by decide +kernel
theorem dX7_digestOfSteps_0 : decode cX7_digestOfSteps 0 = .ok (.lload_n 1, 1) := by decide +kernel
theorem dX7_digestOfSteps_1 : decode cX7_digestOfSteps 1 = .ok (.aload_n 0, 1) := by decide +kernel
theorem dX7_digestOfSteps_2 : decode cX7_digestOfSteps 2 = .ok (.getfield 40, 3) := by decide +kernel
theorem dX7_digestOfSteps_5 : decode cX7_digestOfSteps 5 = .ok (.getfield 218, 3) := by decide +kernel
theorem dX7_digestOfSteps_8 : decode cX7_digestOfSteps 8 = .ok (.invokestatic 308, 3) := by decide +kernel
theorem dX7_digestOfSteps_11 : decode cX7_digestOfSteps 11 = .ok (.lstore_n 3, 1) := by decide +kernel
theorem dX7_digestOfSteps_12 : decode cX7_digestOfSteps 12 = .ok (.iconst 0, 1) := by decide +kernel
theorem dX7_digestOfSteps_13 : decode cX7_digestOfSteps 13 = .ok (.istore 5, 2) := by decide +kernel
theorem dX7_digestOfSteps_15 : decode cX7_digestOfSteps 15 = .ok (.iload 5, 2) := by decide +kernel
theorem dX7_digestOfSteps_17 : decode cX7_digestOfSteps 17 = .ok (.aload_n 0, 1) := by decide +kernel
theorem dX7_digestOfSteps_18 : decode cX7_digestOfSteps 18 = .ok (.getfield 40, 3) := by decide +kernel
theorem dX7_digestOfSteps_21 : decode cX7_digestOfSteps 21 = .ok (.getfield 218, 3) := by decide +kernel
theorem dX7_digestOfSteps_24 : decode cX7_digestOfSteps 24 = .ok (.if_icmp .ge 43, 3) := by decide +kernel
theorem dX7_digestOfSteps_67 : decode cX7_digestOfSteps 67 = .ok (.lload_n 3, 1) := by decide +kernel
theorem dX7_digestOfSteps_68 : decode cX7_digestOfSteps 68 = .ok (.aload_n 0, 1) := by decide +kernel
theorem dX7_digestOfSteps_69 : decode cX7_digestOfSteps 69 = .ok (.getfield 40, 3) := by decide +kernel
theorem dX7_digestOfSteps_72 : decode cX7_digestOfSteps 72 = .ok (.getfield 230, 3) := by decide +kernel
theorem dX7_digestOfSteps_75 : decode cX7_digestOfSteps 75 = .ok (.invokestatic 188, 3) := by decide +kernel
theorem dX7_digestOfSteps_78 : decode cX7_digestOfSteps 78 = .ok (.invokestatic 308, 3) := by decide +kernel
theorem dX7_digestOfSteps_81 : decode cX7_digestOfSteps 81 = .ok (.lstore_n 3, 1) := by decide +kernel
theorem dX7_digestOfSteps_82 : decode cX7_digestOfSteps 82 = .ok (.lload_n 3, 1) := by decide +kernel
theorem dX7_digestOfSteps_83 : decode cX7_digestOfSteps 83 = .ok (.aload_n 0, 1) := by decide +kernel
theorem dX7_digestOfSteps_84 : decode cX7_digestOfSteps 84 = .ok (.getfield 40, 3) := by decide +kernel
theorem dX7_digestOfSteps_87 : decode cX7_digestOfSteps 87 = .ok (.getfield 230, 3) := by decide +kernel
theorem dX7_digestOfSteps_90 : decode cX7_digestOfSteps 90 = .ok (.invokestatic 188, 3) := by decide +kernel
theorem dX7_digestOfSteps_93 : decode cX7_digestOfSteps 93 = .ok (.iconst 1, 1) := by decide +kernel
theorem dX7_digestOfSteps_94 : decode cX7_digestOfSteps 94 = .ok (.if_icmp .ne 7, 3) := by decide +kernel
theorem dX7_digestOfSteps_101 : decode cX7_digestOfSteps 101 = .ok (.iconst 0, 1) := by decide +kernel
theorem dX7_digestOfSteps_102 : decode cX7_digestOfSteps 102 = .ok (.invokestatic 312, 3) := by decide +kernel
theorem dX7_digestOfSteps_105 : decode cX7_digestOfSteps 105 = .ok (.lreturn, 1) := by decide +kernel
theorem dX7_digestOfLayers_0 : decode cX7_digestOfLayers 0 = .ok (.lload_n 1, 1) := by decide +kernel
theorem dX7_digestOfLayers_1 : decode cX7_digestOfLayers 1 = .ok (.aload_n 0, 1) := by decide +kernel
theorem dX7_digestOfLayers_2 : decode cX7_digestOfLayers 2 = .ok (.getfield 47, 3) := by decide +kernel
theorem dX7_digestOfLayers_5 : decode cX7_digestOfLayers 5 = .ok (.getfield 238, 3) := by decide +kernel
theorem dX7_digestOfLayers_8 : decode cX7_digestOfLayers 8 = .ok (.invokestatic 308, 3) := by decide +kernel
theorem dX7_digestOfLayers_11 : decode cX7_digestOfLayers 11 = .ok (.lstore_n 3, 1) := by decide +kernel
theorem dX7_digestOfLayers_12 : decode cX7_digestOfLayers 12 = .ok (.iconst 0, 1) := by decide +kernel
theorem dX7_digestOfLayers_13 : decode cX7_digestOfLayers 13 = .ok (.istore 5, 2) := by decide +kernel
theorem dX7_digestOfLayers_15 : decode cX7_digestOfLayers 15 = .ok (.iload 5, 2) := by decide +kernel
theorem dX7_digestOfLayers_17 : decode cX7_digestOfLayers 17 = .ok (.aload_n 0, 1) := by decide +kernel
theorem dX7_digestOfLayers_18 : decode cX7_digestOfLayers 18 = .ok (.getfield 47, 3) := by decide +kernel
theorem dX7_digestOfLayers_21 : decode cX7_digestOfLayers 21 = .ok (.getfield 238, 3) := by decide +kernel
theorem dX7_digestOfLayers_24 : decode cX7_digestOfLayers 24 = .ok (.if_icmp .ge 59, 3) := by decide +kernel
theorem dX7_digestOfLayers_83 : decode cX7_digestOfLayers 83 = .ok (.lload_n 3, 1) := by decide +kernel
theorem dX7_digestOfLayers_84 : decode cX7_digestOfLayers 84 = .ok (.lreturn, 1) := by decide +kernel
theorem mw_231 : Cond.constantLong RJ13 314 (6148914691236517205) ∈ GW := gw_mem (inT2 _ (List.mem_of_getElem? (i := 152) rfl)) rfl
theorem mw_232 : Cond.constantLong RJ13 316 (3689348814741910323) ∈ GW := gw_mem (inT2 _ (List.mem_of_getElem? (i := 153) rfl)) rfl
theorem mw_233 : Cond.constantLong RJ13 318 (1085102592571150095) ∈ GW := gw_mem (inT2 _ (List.mem_of_getElem? (i := 154) rfl)) rfl
theorem mw_234 : Cond.constantLong RX7 364 (31) ∈ GW := gw_mem (inT3 _ (List.mem_of_getElem? (i := 171) rfl)) rfl
theorem mw_235 : Cond.code yX3_sweepOften cX3_sweepOften 5 (none : Option FieldType) ∈ GW := gw_mem (inT5 _ (List.mem_of_getElem? (i := 126) rfl)) rfl
theorem mw_236 : Cond.methodLink RX3 148 yX3_sweepOften ∈ GW := gw_mem (inT5 _ (List.mem_of_getElem? (i := 152) rfl)) rfl
theorem mw_237 : Cond.instanceMethod yX3_sweepOften ∈ GW := gw_mem (inT5 _ (List.mem_of_getElem? (i := 124) rfl)) rfl
theorem mw_238 : Cond.selects RX3 yX3_sweepOften yX3_sweepOften ∈ GW := gw_mem (inT5 _ (List.mem_of_getElem? (i := 125) rfl)) rfl
theorem mw_239 : Cond.code yX3_countCrossings cX3_countCrossings 3 (some Jvm.ClassFile.FieldType.int) ∈ GW := gw_mem (inT3 _ (List.mem_of_getElem? (i := 138) rfl)) rfl
theorem mw_240 : Cond.methodLink RX3 152 yX3_countCrossings ∈ GW := gw_mem (inT5 _ (List.mem_of_getElem? (i := 153) rfl)) rfl
theorem mw_241 : Cond.instanceMethod yX3_countCrossings ∈ GW := gw_mem (inT3 _ (List.mem_of_getElem? (i := 136) rfl)) rfl
theorem mw_242 : Cond.selects RX3 yX3_countCrossings yX3_countCrossings ∈ GW := gw_mem (inT3 _ (List.mem_of_getElem? (i := 137) rfl)) rfl
theorem mw_243 : Cond.code yX7_mix cX7_mix 3 (some Jvm.ClassFile.FieldType.long) ∈ GW := gw_mem (inT3 _ (List.mem_of_getElem? (i := 170) rfl)) rfl
theorem mw_244 : Cond.methodLink RX7 308 yX7_mix ∈ GW := gw_mem (inT3 _ (List.mem_of_getElem? (i := 168) rfl)) rfl
theorem mw_245 : Cond.static yX7_mix ∈ GW := gw_mem (inT3 _ (List.mem_of_getElem? (i := 169) rfl)) rfl
theorem mw_246 : Cond.code yJ13_bitCount_95d88 cJ13_bitCount_95d88 2 (some Jvm.ClassFile.FieldType.int) ∈ GW := gw_mem (inT2 _ (List.mem_of_getElem? (i := 151) rfl)) rfl
theorem mw_247 : Cond.methodLink RX7 188 yJ13_bitCount_95d88 ∈ GW := gw_mem (inT2 _ (List.mem_of_getElem? (i := 149) rfl)) rfl
theorem mw_248 : Cond.static yJ13_bitCount_95d88 ∈ GW := gw_mem (inT2 _ (List.mem_of_getElem? (i := 150) rfl)) rfl
theorem mw_249 : Cond.initialized RJ13 ∈ GW := gw_mem (inT1 _ (List.mem_of_getElem? (i := 18) rfl)) rfl
theorem mw_250 : Cond.code yX7_mix_ cX7_mix_ 3 (some Jvm.ClassFile.FieldType.long) ∈ GW := gw_mem (inT3 _ (List.mem_of_getElem? (i := 180) rfl)) rfl
theorem mw_251 : Cond.methodLink RX7 312 yX7_mix_ ∈ GW := gw_mem (inT3 _ (List.mem_of_getElem? (i := 178) rfl)) rfl
theorem mw_252 : Cond.static yX7_mix_ ∈ GW := gw_mem (inT3 _ (List.mem_of_getElem? (i := 179) rfl)) rfl
theorem pdv_X3_sweepOften : yX3_sweepOften.cls = RX3 ∧ yX3_sweepOften.cls ≠ "java/lang/invoke/MethodHandle" ∧ yX3_sweepOften.cls ≠ "java/lang/invoke/VarHandle" ∧ (parseMethodDescriptor yX3_sweepOften.desc).map (fun d => d.parameters.length) = some 1 := by decide +kernel
theorem pdv_X3_countCrossings : yX3_countCrossings.cls = RX3 ∧ yX3_countCrossings.cls ≠ "java/lang/invoke/MethodHandle" ∧ yX3_countCrossings.cls ≠ "java/lang/invoke/VarHandle" ∧ (parseMethodDescriptor yX3_countCrossings.desc).map (fun d => d.parameters.length) = some 0 := by decide +kernel
theorem pd_X7_mix : yX7_mix.cls ≠ "java/lang/invoke/MethodHandle" ∧ yX7_mix.cls ≠ "java/lang/invoke/VarHandle" ∧ (parseMethodDescriptor yX7_mix.desc).map (fun d => d.parameters.length) = some 2 := by decide +kernel
theorem pd_J13_bitCount_95d88 : yJ13_bitCount_95d88.cls ≠ "java/lang/invoke/MethodHandle" ∧ yJ13_bitCount_95d88.cls ≠ "java/lang/invoke/VarHandle" ∧ (parseMethodDescriptor yJ13_bitCount_95d88.desc).map (fun d => d.parameters.length) = some 1 := by decide +kernel
theorem pd_X7_mix_ : yX7_mix_.cls ≠ "java/lang/invoke/MethodHandle" ∧ yX7_mix_.cls ≠ "java/lang/invoke/VarHandle" ∧ (parseMethodDescriptor yX7_mix_.desc).map (fun d => d.parameters.length) = some 2 := by decide +kernel
theorem nn_of {k : Int32} (h : ¬ k < 1) : ¬ k < 0 := fun z => h (by
  rw [Int32.lt_iff_toInt_lt] at z ⊢
  have h0 : (0 : Int32).toInt = 0 := rfl
  have h1 : (1 : Int32).toInt = 1 := rfl
  omega)
theorem le_of_nlt0 {k : Int32} (h : ¬ k < 0) : (0 : Int32) ≤ k := by
  rw [Int32.lt_iff_toInt_lt] at h
  rw [Int32.le_iff_toInt_le]
  omega
def OKI (place kind target : Int32) : Prop := ¬ place < 0 ∧ place ≤ 0 ∧ ¬ kind < 0 ∧ kind ≤ 3 ∧ ((kind = 1 ∨ kind = 2) → ¬ target < 0 ∧ ¬ 40 < target)
theorem oki_bad {k t r1 r2 : Int32} (hj : r1 = 1 ∧ (k = 1 ∨ k = 2) ∨ r1 = 0 ∧ ¬ k = 1 ∧ ¬ k = 2) (ht : r2 = 1 ∧ ¬ t < 0 ∧ ¬ 40 < t ∨ r2 = 0 ∧ (t < 0 ∨ 40 < t)) (c1 : ¬ r1 = 0) (c2 : r2 = 0) : ¬ ((k = 1 ∨ k = 2) → ¬ t < 0 ∧ ¬ 40 < t) := by
  intro z
  rcases hj with ⟨-, hj⟩ | ⟨hj, -⟩
  · rcases ht with ⟨q, -⟩ | ⟨-, q⟩
    · rw [q] at c2; exact absurd c2 (by decide)
    · rcases q with q | q
      · exact (z hj).1 q
      · exact (z hj).2 q
  · exact c1 hj
theorem oki_no {k t r1 : Int32} (hj : r1 = 1 ∧ (k = 1 ∨ k = 2) ∨ r1 = 0 ∧ ¬ k = 1 ∧ ¬ k = 2) (c1 : r1 = 0) : ((k = 1 ∨ k = 2) → ¬ t < 0 ∧ ¬ 40 < t) := by
  intro z
  rcases hj with ⟨q, -⟩ | ⟨-, q1, q2⟩
  · rw [q] at c1; exact absurd c1 (by decide)
  · rcases z with z | z
    · exact absurd z q1
    · exact absurd z q2
theorem oki_yes {k t r2 : Int32} (ht : r2 = 1 ∧ ¬ t < 0 ∧ ¬ 40 < t ∨ r2 = 0 ∧ (t < 0 ∨ 40 < t)) (c2 : ¬ r2 = 0) : ((k = 1 ∨ k = 2) → ¬ t < 0 ∧ ¬ 40 < t) := by
  intro _
  rcases ht with ⟨-, q⟩ | ⟨q, -⟩
  · exact q
  · exact absurd q c2
set_option maxHeartbeats 4000000 in
set_option maxRecDepth 100000 in
theorem c_bitCount0 (l : Launch) (D : va_G) (cI cJ cZ : ClassId) (w : va_W) : CT l D (TY cI cJ cZ) yJ13_bitCount_95d88 (.code yJ13_bitCount_95d88 cJ13_bitCount_95d88 2 (some Jvm.ClassFile.FieldType.int)) 0 0 0 w [.long 0] (QI D (TY cI cJ cZ) (fun r u => r = 0 ∧ u = w)) := by
  refine ent (by decide) (Nat.le_of_ble_eq_true rfl) ?_
  intro p e s m below meth c ls A hx hb hr hg hown hml hlocks hnm hP hK hD hS hA hN hl
  have hl : lv_has ls 2 [(0, .long 0)] := hl
  refine lv_lload_n hx hb dJ13_bitCount_95d88_0 rfl (lv_at hl 0 rfl) ?_
  refine lv_lload_n hx hb dJ13_bitCount_95d88_1 rfl (lv_at hl 0 rfl) ?_
  refine lv_iconst (v := 1) hx hb dJ13_bitCount_95d88_2 (by decide) ?_
  refine lv_lushr (v := 0) hx hb dJ13_bitCount_95d88_3 (lushr0 _) ?_
  refine lv_ldc2 (v := 6148914691236517205) hx hb hown (hg _ mw_231) dJ13_bitCount_95d88_4 ?_
  refine lv_land hx hb dJ13_bitCount_95d88_7 ?_
  refine lv_topl (fun v_1 ev_1 => ?_)
  obtain rfl : v_1 = (0 : Int64) := ev_1.trans (by decide)
  refine lv_lsub hx hb dJ13_bitCount_95d88_8 ?_
  refine lv_topl (fun v_2 ev_2 => ?_)
  obtain rfl : v_2 = (0 : Int64) := ev_2.trans (by decide)
  refine lv_lstore_n (lv' := [(0, .long 0)]) hx hb dJ13_bitCount_95d88_9 rfl hl (by decide) rfl (fun ls hl => ?_)
  refine lv_lload_n hx hb dJ13_bitCount_95d88_10 rfl (lv_at hl 0 rfl) ?_
  refine lv_ldc2 (v := 3689348814741910323) hx hb hown (hg _ mw_232) dJ13_bitCount_95d88_11 ?_
  refine lv_land hx hb dJ13_bitCount_95d88_14 ?_
  refine lv_topl (fun v_3 ev_3 => ?_)
  obtain rfl : v_3 = (0 : Int64) := ev_3.trans (by decide)
  refine lv_lload_n hx hb dJ13_bitCount_95d88_15 rfl (lv_at hl 0 rfl) ?_
  refine lv_iconst (v := 2) hx hb dJ13_bitCount_95d88_16 (by decide) ?_
  refine lv_lushr (v := 0) hx hb dJ13_bitCount_95d88_17 (lushr0 _) ?_
  refine lv_ldc2 (v := 3689348814741910323) hx hb hown (hg _ mw_232) dJ13_bitCount_95d88_18 ?_
  refine lv_land hx hb dJ13_bitCount_95d88_21 ?_
  refine lv_topl (fun v_4 ev_4 => ?_)
  obtain rfl : v_4 = (0 : Int64) := ev_4.trans (by decide)
  refine lv_ladd hx hb dJ13_bitCount_95d88_22 ?_
  refine lv_topl (fun v_5 ev_5 => ?_)
  obtain rfl : v_5 = (0 : Int64) := ev_5.trans (by decide)
  refine lv_lstore_n (lv' := [(0, .long 0)]) hx hb dJ13_bitCount_95d88_23 rfl hl (by decide) rfl (fun ls hl => ?_)
  refine lv_lload_n hx hb dJ13_bitCount_95d88_24 rfl (lv_at hl 0 rfl) ?_
  refine lv_lload_n hx hb dJ13_bitCount_95d88_25 rfl (lv_at hl 0 rfl) ?_
  refine lv_iconst (v := 4) hx hb dJ13_bitCount_95d88_26 (by decide) ?_
  refine lv_lushr (v := 0) hx hb dJ13_bitCount_95d88_27 (lushr0 _) ?_
  refine lv_ladd hx hb dJ13_bitCount_95d88_28 ?_
  refine lv_topl (fun v_6 ev_6 => ?_)
  obtain rfl : v_6 = (0 : Int64) := ev_6.trans (by decide)
  refine lv_ldc2 (v := 1085102592571150095) hx hb hown (hg _ mw_233) dJ13_bitCount_95d88_29 ?_
  refine lv_land hx hb dJ13_bitCount_95d88_32 ?_
  refine lv_topl (fun v_7 ev_7 => ?_)
  obtain rfl : v_7 = (0 : Int64) := ev_7.trans (by decide)
  refine lv_lstore_n (lv' := [(0, .long 0)]) hx hb dJ13_bitCount_95d88_33 rfl hl (by decide) rfl (fun ls hl => ?_)
  refine lv_lload_n hx hb dJ13_bitCount_95d88_34 rfl (lv_at hl 0 rfl) ?_
  refine lv_lload_n hx hb dJ13_bitCount_95d88_35 rfl (lv_at hl 0 rfl) ?_
  refine lv_bipush (v := 8) hx hb dJ13_bitCount_95d88_36 (by decide) ?_
  refine lv_lushr (v := 0) hx hb dJ13_bitCount_95d88_38 (lushr0 _) ?_
  refine lv_ladd hx hb dJ13_bitCount_95d88_39 ?_
  refine lv_topl (fun v_8 ev_8 => ?_)
  obtain rfl : v_8 = (0 : Int64) := ev_8.trans (by decide)
  refine lv_lstore_n (lv' := [(0, .long 0)]) hx hb dJ13_bitCount_95d88_40 rfl hl (by decide) rfl (fun ls hl => ?_)
  refine lv_lload_n hx hb dJ13_bitCount_95d88_41 rfl (lv_at hl 0 rfl) ?_
  refine lv_lload_n hx hb dJ13_bitCount_95d88_42 rfl (lv_at hl 0 rfl) ?_
  refine lv_bipush (v := 16) hx hb dJ13_bitCount_95d88_43 (by decide) ?_
  refine lv_lushr (v := 0) hx hb dJ13_bitCount_95d88_45 (lushr0 _) ?_
  refine lv_ladd hx hb dJ13_bitCount_95d88_46 ?_
  refine lv_topl (fun v_9 ev_9 => ?_)
  obtain rfl : v_9 = (0 : Int64) := ev_9.trans (by decide)
  refine lv_lstore_n (lv' := [(0, .long 0)]) hx hb dJ13_bitCount_95d88_47 rfl hl (by decide) rfl (fun ls hl => ?_)
  refine lv_lload_n hx hb dJ13_bitCount_95d88_48 rfl (lv_at hl 0 rfl) ?_
  refine lv_lload_n hx hb dJ13_bitCount_95d88_49 rfl (lv_at hl 0 rfl) ?_
  refine lv_bipush (v := 32) hx hb dJ13_bitCount_95d88_50 (by decide) ?_
  refine lv_lushr (v := 0) hx hb dJ13_bitCount_95d88_52 (lushr0 _) ?_
  refine lv_ladd hx hb dJ13_bitCount_95d88_53 ?_
  refine lv_topl (fun v_10 ev_10 => ?_)
  obtain rfl : v_10 = (0 : Int64) := ev_10.trans (by decide)
  refine lv_lstore_n (lv' := [(0, .long 0)]) hx hb dJ13_bitCount_95d88_54 rfl hl (by decide) rfl (fun ls hl => ?_)
  refine lv_lload_n hx hb dJ13_bitCount_95d88_55 rfl (lv_at hl 0 rfl) ?_
  refine lv_l2i (v := 0) hx hb dJ13_bitCount_95d88_56 (by decide) ?_
  refine lv_bipush (v := 127) hx hb dJ13_bitCount_95d88_57 (by decide) ?_
  refine lv_iand hx hb dJ13_bitCount_95d88_59 ?_
  refine lv_topi (fun v_11 ev_11 => ?_)
  obtain rfl : v_11 = (0 : Int32) := ev_11.trans (by decide)
  exact W.iret (v := 0) hx hb hr (fun t ht hW => ⟨⟨0, w, rfl, ⟨rfl, rfl⟩, ⟨by rw [ht]; exact hP, va_K.moved hW.alike hK, hD⟩⟩, hS.F ht⟩) hS.2.2 dJ13_bitCount_95d88_60
set_option maxHeartbeats 4000000 in
set_option maxRecDepth 100000 in
theorem c_mix (l : Launch) (D : va_G) (cI cJ cZ : ClassId) (w : va_W) (x : Int64) (v : Int32) : CT l D (TY cI cJ cZ) yX7_mix (.code yX7_mix cX7_mix 3 (some Jvm.ClassFile.FieldType.long)) 0 0 0 w [.long x, .int v] (QL D (TY cI cJ cZ) (fun r u => r = x * 31 + v.toInt64 ∧ u = w)) := by
  refine ent (by decide) (Nat.le_of_ble_eq_true rfl) ?_
  intro p e s m below meth c ls A hx hb hr hg hown hml hlocks hnm hP hK hD hS hA hN hl
  have hl : lv_has ls 3 [(0, .long x), (2, .int v)] := hl
  refine lv_lload_n hx hb dX7_mix_0 rfl (lv_at hl 0 rfl) ?_
  refine lv_ldc2 (v := 31) hx hb hown (hg _ mw_234) dX7_mix_1 ?_
  refine lv_lmul hx hb dX7_mix_4 ?_
  refine lv_topl (fun v_1 ev_1 => ?_)
  refine lv_iload_n hx hb dX7_mix_5 rfl (lv_at hl 1 rfl) ?_
  refine lv_i2l hx hb dX7_mix_6 rfl ?_
  refine lv_ladd hx hb dX7_mix_7 ?_
  refine lv_topl (fun v_2 ev_2 => ?_)
  exact W.lret (v := v_2) hx hb hr (fun t ht hW => ⟨⟨v_2, w, rfl, ⟨by rw [ev_2, ev_1], rfl⟩, ⟨by rw [ht]; exact hP, va_K.moved hW.alike hK, hD⟩⟩, hS.F ht⟩) hS.2.2 dX7_mix_8
set_option maxHeartbeats 4000000 in
set_option maxRecDepth 100000 in
theorem c_mixZ0 (l : Launch) (D : va_G) (cI cJ cZ : ClassId) (w : va_W) (x : Int64) : CT l D (TY cI cJ cZ) yX7_mix_ (.code yX7_mix_ cX7_mix_ 3 (some Jvm.ClassFile.FieldType.long)) 0 0 0 w [.long x, .int 0] (QL D (TY cI cJ cZ) (fun r u => r = x * 31 + 0 ∧ u = w)) := by
  refine ent (by decide) (Nat.le_of_ble_eq_true rfl) ?_
  intro p e s m below meth c ls A hx hb hr hg hown hml hlocks hnm hP hK hD hS hA hN hl
  have hl : lv_has ls 3 [(0, .long x), (2, .int 0)] := hl
  refine lv_lload_n hx hb dX7_mix__0 rfl (lv_at hl 0 rfl) ?_
  refine lv_ldc2 (v := 31) hx hb hown (hg _ mw_234) dX7_mix__1 ?_
  refine lv_lmul hx hb dX7_mix__4 ?_
  refine lv_topl (fun v_1 ev_1 => ?_)
  refine lv_iload_n hx hb dX7_mix__5 rfl (lv_at hl 1 rfl) ?_
  refine lv_if_eq (tgt := 13) hx hb dX7_mix__6 (by decide) (fun c_6 => ?_) (fun c_6 => absurd (by decide) c_6)
  refine lv_lconst (v := 0) hx hb dX7_mix__13 (by decide) ?_
  refine lv_ladd hx hb dX7_mix__14 ?_
  refine lv_topl (fun v_2 ev_2 => ?_)
  exact W.lret (v := v_2) hx hb hr (fun t ht hW => ⟨⟨v_2, w, rfl, ⟨by rw [ev_2, ev_1], rfl⟩, ⟨by rw [ht]; exact hP, va_K.moved hW.alike hK, hD⟩⟩, hS.F ht⟩) hS.2.2 dX7_mix__15
set_option maxHeartbeats 4000000 in
set_option maxRecDepth 100000 in
theorem c_mixZ1 (l : Launch) (D : va_G) (cI cJ cZ : ClassId) (w : va_W) (x : Int64) : CT l D (TY cI cJ cZ) yX7_mix_ (.code yX7_mix_ cX7_mix_ 3 (some Jvm.ClassFile.FieldType.long)) 0 0 0 w [.long x, .int 1] (QL D (TY cI cJ cZ) (fun r u => r = x * 31 + 1 ∧ u = w)) := by
  refine ent (by decide) (Nat.le_of_ble_eq_true rfl) ?_
  intro p e s m below meth c ls A hx hb hr hg hown hml hlocks hnm hP hK hD hS hA hN hl
  have hl : lv_has ls 3 [(0, .long x), (2, .int 1)] := hl
  refine lv_lload_n hx hb dX7_mix__0 rfl (lv_at hl 0 rfl) ?_
  refine lv_ldc2 (v := 31) hx hb hown (hg _ mw_234) dX7_mix__1 ?_
  refine lv_lmul hx hb dX7_mix__4 ?_
  refine lv_topl (fun v_1 ev_1 => ?_)
  refine lv_iload_n hx hb dX7_mix__5 rfl (lv_at hl 1 rfl) ?_
  refine lv_if_eq (tgt := 13) hx hb dX7_mix__6 (by decide) (fun c_6 => absurd c_6 (by decide)) (fun c_6 => ?_)
  refine lv_lconst (v := 1) hx hb dX7_mix__9 (by decide) ?_
  refine lv_goto (tgt := 14) hx hb dX7_mix__10 (by decide) ?_
  refine lv_ladd hx hb dX7_mix__14 ?_
  refine lv_topl (fun v_2 ev_2 => ?_)
  exact W.lret (v := v_2) hx hb hr (fun t ht hW => ⟨⟨v_2, w, rfl, ⟨by rw [ev_2, ev_1], rfl⟩, ⟨by rw [ht]; exact hP, va_K.moved hW.alike hK, hD⟩⟩, hS.F ht⟩) hS.2.2 dX7_mix__15
set_option maxHeartbeats 4000000 in
set_option maxRecDepth 100000 in
theorem c_countWindings (l : Launch) (D : va_G) (cI cJ cZ : ClassId) (ad : Nat → Nat) (b : Nat → Int32) (F : Nat → Nat → Int32) (G : Nat → Nat → Int64) (R : va_W) : CT l D (TY cI cJ cZ) yX1_countWindings (.code yX1_countWindings cX1_countWindings 3 (some Jvm.ClassFile.FieldType.int)) 0 0 0 (XW ad cI cJ 0 b F G ++ R) [.ref (ad 2)] (QI D (TY cI cJ cZ) (fun r u => r = 0 ∧ u = XW ad cI cJ 0 b F G ++ R)) := by
  refine ent (by decide) (Nat.le_of_ble_eq_true rfl) ?_
  intro p e s m below meth c ls A hx hb hr hg hown hml hlocks hnm hP hK hD hS hA hN hl
  have hl : lv_has ls 3 [(0, .ref (ad 2))] := hl
  refine lv_aload_n hx hb dX1_countWindings_0 rfl (lv_at hl 0 rfl) ?_
  refine va_get (D := D) (ci := 1) (v := .int 0) (C := RX1) (T := TX1) (N := 11) hx hb hg inGX1 hown hK hP 2 rfl rfl 7 (by decide) (hg _ mw_97) (fun _ h9 => h9) rfl dX1_countWindings_1 ?_
  refine lv_if_ne (tgt := 9) hx hb dX1_countWindings_4 (by decide) (fun c_4 => absurd (by decide) c_4) (fun c_4 => ?_)
  refine lv_iconst (v := 0) hx hb dX1_countWindings_7 (by decide) ?_
  exact W.iret (v := 0) hx hb hr (fun t ht hW => ⟨⟨0, (XW ad cI cJ 0 b F G ++ R), rfl, ⟨rfl, rfl⟩, ⟨by rw [ht]; exact hP, va_K.moved hW.alike hK, hD⟩⟩, hS.F ht⟩) hS.2.2 dX1_countWindings_8
set_option maxHeartbeats 4000000 in
set_option maxRecDepth 100000 in
theorem c_countCrossings (l : Launch) (D : va_G) (cI cJ cZ : ClassId) (ad : Nat → Nat) (b : Nat → Int32) (F : Nat → Nat → Int32) (G : Nat → Nat → Int64) (R : va_W) : CT l D (TY cI cJ cZ) yX3_countCrossings (.code yX3_countCrossings cX3_countCrossings 3 (some Jvm.ClassFile.FieldType.int)) 0 0 0 (XW ad cI cJ 0 b F G ++ R) [.ref (ad 6)] (QI D (TY cI cJ cZ) (fun r u => r = 0 ∧ u = XW ad cI cJ 0 b F G ++ R)) := by
  refine ent (by decide) (Nat.le_of_ble_eq_true rfl) ?_
  intro p e s m below meth c ls A hx hb hr hg hown hml hlocks hnm hP hK hD hS hA hN hl
  have hl : lv_has ls 3 [(0, .ref (ad 6))] := hl
  refine lv_iconst (v := 0) hx hb dX3_countCrossings_0 (by decide) ?_
  refine lv_istore_n (lv' := [(1, .int 0), (0, .ref (ad 6))]) hx hb dX3_countCrossings_1 rfl hl (by decide) rfl (fun ls hl => ?_)
  refine lv_iconst (v := 0) hx hb dX3_countCrossings_2 (by decide) ?_
  refine lv_istore_n (lv' := [(2, .int 0), (1, .int 0), (0, .ref (ad 6))]) hx hb dX3_countCrossings_3 rfl hl (by decide) rfl (fun ls hl => ?_)
  refine lv_iload_n hx hb dX3_countCrossings_4 rfl (lv_at hl 0 rfl) ?_
  refine lv_aload_n hx hb dX3_countCrossings_5 rfl (lv_at hl 2 rfl) ?_
  refine va_get (D := D) (ci := 3) (v := .int 0) (C := RX3) (T := TX3) (N := 16) hx hb hg inGX3 hown hK hP 6 rfl rfl 13 (by decide) (hg _ mw_180) (fun _ h9 => h9) rfl dX3_countCrossings_6 ?_
  refine lv_iconst (v := 1) hx hb dX3_countCrossings_9 (by decide) ?_
  refine lv_isub hx hb dX3_countCrossings_10 ?_
  refine lv_topi (fun v_1 ev_1 => ?_)
  obtain rfl : v_1 = ((-1) : Int32) := ev_1.trans (by decide)
  refine lv_icmp_ge (tgt := 28) hx hb dX3_countCrossings_11 (by decide) (fun c_11 => ?_) (fun c_11 => absurd (by decide) c_11)
  refine lv_iload_n hx hb dX3_countCrossings_28 rfl (lv_at hl 1 rfl) ?_
  exact W.iret (v := 0) hx hb hr (fun t ht hW => ⟨⟨0, (XW ad cI cJ 0 b F G ++ R), rfl, ⟨rfl, rfl⟩, ⟨by rw [ht]; exact hP, va_K.moved hW.alike hK, hD⟩⟩, hS.F ht⟩) hS.2.2 dX3_countCrossings_29
set_option maxHeartbeats 4000000 in
set_option maxRecDepth 100000 in
theorem c_meanSpan (l : Launch) (D : va_G) (cI cJ cZ : ClassId) (ad : Nat → Nat) (b : Nat → Int32) (F : Nat → Nat → Int32) (G : Nat → Nat → Int64) (R : va_W) : CT l D (TY cI cJ cZ) yX3_meanSpan (.code yX3_meanSpan cX3_meanSpan 4 (some Jvm.ClassFile.FieldType.double)) 0 0 0 (XW ad cI cJ 0 b F G ++ R) [.ref (ad 6)] (QD D (TY cI cJ cZ) (fun r u => r = FP.dconst0 ∧ u = XW ad cI cJ 0 b F G ++ R)) := by
  refine ent (by decide) (Nat.le_of_ble_eq_true rfl) ?_
  intro p e s m below meth c ls A hx hb hr hg hown hml hlocks hnm hP hK hD hS hA hN hl
  have hl : lv_has ls 4 [(0, .ref (ad 6))] := hl
  refine lv_iconst (v := 0) hx hb dX3_meanSpan_0 (by decide) ?_
  refine lv_istore_n (lv' := [(1, .int 0), (0, .ref (ad 6))]) hx hb dX3_meanSpan_1 rfl hl (by decide) rfl (fun ls hl => ?_)
  refine lv_iconst (v := 0) hx hb dX3_meanSpan_2 (by decide) ?_
  refine lv_istore_n (lv' := [(2, .int 0), (1, .int 0), (0, .ref (ad 6))]) hx hb dX3_meanSpan_3 rfl hl (by decide) rfl (fun ls hl => ?_)
  refine lv_iconst (v := 0) hx hb dX3_meanSpan_4 (by decide) ?_
  refine lv_istore_n (lv' := [(3, .int 0), (2, .int 0), (1, .int 0), (0, .ref (ad 6))]) hx hb dX3_meanSpan_5 rfl hl (by decide) rfl (fun ls hl => ?_)
  refine lv_iload_n hx hb dX3_meanSpan_6 rfl (lv_at hl 0 rfl) ?_
  refine lv_aload_n hx hb dX3_meanSpan_7 rfl (lv_at hl 3 rfl) ?_
  refine va_get (D := D) (ci := 3) (v := .int 0) (C := RX3) (T := TX3) (N := 16) hx hb hg inGX3 hown hK hP 6 rfl rfl 12 (by decide) (hg _ mw_174) (fun _ h9 => h9) rfl dX3_meanSpan_8 ?_
  refine lv_icmp_ge (tgt := 48) hx hb dX3_meanSpan_11 (by decide) (fun c_11 => ?_) (fun c_11 => absurd (by decide) c_11)
  refine lv_iload_n hx hb dX3_meanSpan_48 rfl (lv_at hl 2 rfl) ?_
  refine lv_if_le (tgt := 60) hx hb dX3_meanSpan_49 (by decide) (fun c_49 => ?_) (fun c_49 => absurd (by decide) c_49)
  refine lv_dconst0 hx hb dX3_meanSpan_60 ?_
  exact W.dret (v := FP.dconst0) hx hb hr (fun t ht hW => ⟨⟨FP.dconst0, (XW ad cI cJ 0 b F G ++ R), rfl, ⟨rfl, rfl⟩, ⟨by rw [ht]; exact hP, va_K.moved hW.alike hK, hD⟩⟩, hS.F ht⟩) hS.2.2 dX3_meanSpan_61
set_option maxHeartbeats 4000000 in
set_option maxRecDepth 100000 in
theorem c_sweepOften (l : Launch) (D : va_G) (cI cJ cZ : ClassId) (ad : Nat → Nat) (b : Nat → Int32) (F : Nat → Nat → Int32) (G : Nat → Nat → Int64) (R : va_W) (k : Int32) (N : Nat) (hk : k = nI N) (hN31 : N < 2 ^ 31) : CT l D (TY cI cJ cZ) yX3_sweepOften (.code yX3_sweepOften cX3_sweepOften 5 (none : Option FieldType)) 0 0 0 (XW ad cI cJ 0 b F G ++ R) [.ref (ad 6), .int k] (QV D (TY cI cJ cZ) (fun u => ∃ b', u = XW ad cI cJ 0 b' F G ++ R)) := by
  refine ent (by decide) (Nat.le_of_ble_eq_true rfl) ?_
  intro p e s m below meth c ls A hx hb hr hg hown hml hlocks hnm hP hK hD hS hA hN hl
  have hl : lv_has ls 5 [(0, .ref (ad 6)), (1, .int k)] := hl
  refine lv_iconst (v := 0) hx hb dX3_sweepOften_0 (by decide) ?_
  refine lv_istore_n (lv' := [(2, .int 0), (0, .ref (ad 6)), (1, .int k)]) hx hb dX3_sweepOften_1 rfl hl (by decide) rfl (fun ls hl => ?_)
  -- the loop at 2
  refine w_loop (σ := Nat → Int32) (fun (i : Nat) (u_1 : Nat → Int32) (H : Heap) (locs : List Loc) (ls : Array Slot) => (True) ∧ va_P D vwCl (XW ad cI cJ 0 u_1 F G ++ R) H ∧ va_D A (XW ad cI cJ 0 u_1 F G ++ R) ∧ va_S A s.heap H locs ∧ lv_has ls 5 [(0, .ref (ad 6)), (1, .int k), (2, .int (nI i))]) N (fun u_1 H locs ls hI => ?_) (fun i u_1 H locs ls hi hI ih => ?_) 0 b (Nat.zero_le _) ⟨trivial, hP, hD, hS, by rw [nI_0]; exact lv_sub hl [1, 2, 0] rfl⟩
  · obtain ⟨hF_1, hP, hD, hS, hl⟩ := hI
    have hP : va_P D vwCl (XW ad cI cJ 0 u_1 F G ++ R) H := hP
    have hD : va_D A (XW ad cI cJ 0 u_1 F G ++ R) := hD
    have hl : lv_has ls 5 [(0, .ref (ad 6)), (1, .int k), (2, .int (nI N))] := hl
    refine lv_iload_n hx hb dX3_sweepOften_2 rfl (lv_at hl 2 rfl) ?_
    refine lv_iload_n hx hb dX3_sweepOften_3 rfl (lv_at hl 1 rfl) ?_
    refine lv_icmp_ge (tgt := 93) hx hb dX3_sweepOften_4 (by decide) (fun c_4 => ?_) (fun c_4 => absurd (by rw [hk]; exact Int32.le_refl _) c_4)
    exact W.vret hx hb hr (fun t ht hW => ⟨⟨(XW ad cI cJ 0 u_1 F G ++ R), rfl, ⟨_, rfl⟩, ⟨by rw [ht]; exact hP, va_K.moved hW.alike hK, hD⟩⟩, hS.F ht⟩) hS.2.2 dX3_sweepOften_93
  · obtain ⟨hF_1, hP, hD, hS, hl⟩ := hI
    have hP : va_P D vwCl (XW ad cI cJ 0 u_1 F G ++ R) H := hP
    have hD : va_D A (XW ad cI cJ 0 u_1 F G ++ R) := hD
    have hl : lv_has ls 5 [(0, .ref (ad 6)), (1, .int k), (2, .int (nI i))] := hl
    refine lv_iload_n hx hb dX3_sweepOften_2 rfl (lv_at hl 2 rfl) ?_
    refine lv_iload_n hx hb dX3_sweepOften_3 rfl (lv_at hl 1 rfl) ?_
    refine lv_icmp_ge (tgt := 93) hx hb dX3_sweepOften_4 (by decide) (fun c_4 => absurd c_4 (by rw [hk]; exact nI_ge hi hN31)) (fun c_4 => ?_)
    refine lv_aload_n hx hb dX3_sweepOften_7 rfl (lv_at hl 0 rfl) ?_
    refine va_get (D := D) (ci := 3) (v := .int (u_1 5)) (C := RX3) (T := TX3) (N := 16) hx hb hg inGX3 hown hK hP 6 rfl rfl 14 (by decide) (hg _ mw_189) (fun _ h9 => h9) rfl dX3_sweepOften_8 ?_
    refine lv_iconst (v := 1) hx hb dX3_sweepOften_11 (by decide) ?_
    refine lv_iand hx hb dX3_sweepOften_12 ?_
    refine lv_topi (fun v_2 ev_2 => ?_)
    refine lv_if_ne (tgt := 20) hx hb dX3_sweepOften_13 (by decide) (fun c_13 => ?_) (fun c_13 => ?_)
    · refine lv_iconst (v := 0) hx hb dX3_sweepOften_20 (by decide) ?_
      refine lv_istore_n (lv' := [(3, .int 0), (0, .ref (ad 6)), (1, .int k), (2, .int (nI i))]) hx hb dX3_sweepOften_21 rfl hl (by decide) rfl (fun ls hl => ?_)
      refine lv_iconst (v := 1) hx hb dX3_sweepOften_22 (by decide) ?_
      refine lv_istore (lv' := [(4, .int 1), (3, .int 0), (0, .ref (ad 6)), (1, .int k), (2, .int (nI i))]) hx hb dX3_sweepOften_23 hl (by decide) rfl (fun ls hl => ?_)
      refine lv_iload hx hb dX3_sweepOften_25 (lv_at hl 0 rfl) ?_
      refine lv_aload_n hx hb dX3_sweepOften_27 rfl (lv_at hl 2 rfl) ?_
      refine va_get (D := D) (ci := 3) (v := .int 0) (C := RX3) (T := TX3) (N := 16) hx hb hg inGX3 hown hK hP 6 rfl rfl 13 (by decide) (hg _ mw_180) (fun _ h9 => h9) rfl dX3_sweepOften_28 ?_
      refine lv_icmp_ge (tgt := 77) hx hb dX3_sweepOften_31 (by decide) (fun c_31 => ?_) (fun c_31 => absurd (by decide) c_31)
      refine lv_aload_n hx hb dX3_sweepOften_77 rfl (lv_at hl 2 rfl) ?_
      refine lv_dup hx hb dX3_sweepOften_78 rfl ?_
      refine va_get (D := D) (ci := 3) (v := .int (u_1 5)) (C := RX3) (T := TX3) (N := 16) hx hb hg inGX3 hown hK hP 6 rfl rfl 14 (by decide) (hg _ mw_189) (fun _ h9 => h9) rfl dX3_sweepOften_79 ?_
      refine lv_iconst (v := 1) hx hb dX3_sweepOften_82 (by decide) ?_
      refine lv_iadd hx hb dX3_sweepOften_83 ?_
      refine lv_topi (fun v_3 ev_3 => ?_)
      refine va_put (D := D) (ci := 3) (v := .int v_3) (C := RX3) (T := TX3) (N := 16) hx hb hg inGX3 tyX3 tyX3_ok nmX3 hown hK hP hD hS 6 rfl rfl 14 (by decide) (hg _ mw_189) (fun _ h9 => h9) rfl (tyX3_ok 14 (by decide)) rfl rfl (Nat.le_of_ble_eq_true rfl) dX3_sweepOften_84 (fun H locs hP hD hS => ?_)
      have hP : va_P D vwCl (XW ad cI cJ 0 (va_up u_1 5 v_3) F G ++ R) H := hP
      have hD : va_D A (XW ad cI cJ 0 (va_up u_1 5 v_3) F G ++ R) := hD
      refine lv_iinc (v := nI (i + 1)) (lv' := [(2, .int (nI (i + 1))), (4, .int 1), (3, .int 0), (0, .ref (ad 6)), (1, .int k)]) hx hb dX3_sweepOften_87 hl (k := 4) rfl (nI_1 i) (by decide) rfl (fun ls hl => ?_)
      refine lv_goto (tgt := 2) hx hb dX3_sweepOften_90 (by decide) ?_
      exact ih (va_up u_1 5 v_3) H locs ls ⟨trivial, hP, hD, hS, lv_sub hl [3, 4, 0] rfl⟩
    · refine lv_iconst (v := 1) hx hb dX3_sweepOften_16 (by decide) ?_
      refine lv_goto (tgt := 21) hx hb dX3_sweepOften_17 (by decide) ?_
      refine lv_istore_n (lv' := [(3, .int 1), (0, .ref (ad 6)), (1, .int k), (2, .int (nI i))]) hx hb dX3_sweepOften_21 rfl hl (by decide) rfl (fun ls hl => ?_)
      refine lv_iconst (v := 1) hx hb dX3_sweepOften_22 (by decide) ?_
      refine lv_istore (lv' := [(4, .int 1), (3, .int 1), (0, .ref (ad 6)), (1, .int k), (2, .int (nI i))]) hx hb dX3_sweepOften_23 hl (by decide) rfl (fun ls hl => ?_)
      refine lv_iload hx hb dX3_sweepOften_25 (lv_at hl 0 rfl) ?_
      refine lv_aload_n hx hb dX3_sweepOften_27 rfl (lv_at hl 2 rfl) ?_
      refine va_get (D := D) (ci := 3) (v := .int 0) (C := RX3) (T := TX3) (N := 16) hx hb hg inGX3 hown hK hP 6 rfl rfl 13 (by decide) (hg _ mw_180) (fun _ h9 => h9) rfl dX3_sweepOften_28 ?_
      refine lv_icmp_ge (tgt := 77) hx hb dX3_sweepOften_31 (by decide) (fun c_31 => ?_) (fun c_31 => absurd (by decide) c_31)
      refine lv_aload_n hx hb dX3_sweepOften_77 rfl (lv_at hl 2 rfl) ?_
      refine lv_dup hx hb dX3_sweepOften_78 rfl ?_
      refine va_get (D := D) (ci := 3) (v := .int (u_1 5)) (C := RX3) (T := TX3) (N := 16) hx hb hg inGX3 hown hK hP 6 rfl rfl 14 (by decide) (hg _ mw_189) (fun _ h9 => h9) rfl dX3_sweepOften_79 ?_
      refine lv_iconst (v := 1) hx hb dX3_sweepOften_82 (by decide) ?_
      refine lv_iadd hx hb dX3_sweepOften_83 ?_
      refine lv_topi (fun v_4 ev_4 => ?_)
      refine va_put (D := D) (ci := 3) (v := .int v_4) (C := RX3) (T := TX3) (N := 16) hx hb hg inGX3 tyX3 tyX3_ok nmX3 hown hK hP hD hS 6 rfl rfl 14 (by decide) (hg _ mw_189) (fun _ h9 => h9) rfl (tyX3_ok 14 (by decide)) rfl rfl (Nat.le_of_ble_eq_true rfl) dX3_sweepOften_84 (fun H locs hP hD hS => ?_)
      have hP : va_P D vwCl (XW ad cI cJ 0 (va_up u_1 5 v_4) F G ++ R) H := hP
      have hD : va_D A (XW ad cI cJ 0 (va_up u_1 5 v_4) F G ++ R) := hD
      refine lv_iinc (v := nI (i + 1)) (lv' := [(2, .int (nI (i + 1))), (4, .int 1), (3, .int 1), (0, .ref (ad 6)), (1, .int k)]) hx hb dX3_sweepOften_87 hl (k := 4) rfl (nI_1 i) (by decide) rfl (fun ls hl => ?_)
      refine lv_goto (tgt := 2) hx hb dX3_sweepOften_90 (by decide) ?_
      exact ih (va_up u_1 5 v_4) H locs ls ⟨trivial, hP, hD, hS, lv_sub hl [3, 4, 0] rfl⟩
set_option maxHeartbeats 4000000 in
set_option maxRecDepth 100000 in
theorem c_tryOut (l : Launch) (D : va_G) (cI cJ cZ : ClassId) (ad : Nat → Nat) (b : Nat → Int32) (F : Nat → Nat → Int32) (G : Nat → Nat → Int64) (R : va_W) (k : Int32) (N : Nat) (hk : k = nI N) (hN31 : N < 2 ^ 31) : CT l D (TY cI cJ cZ) yX3_tryOut (.code yX3_tryOut cX3_tryOut 7 (some Jvm.ClassFile.FieldType.int)) 1 0 0 (XW ad cI cJ 0 b F G ++ R) [.ref (ad 6), .int k] (QI D (TY cI cJ cZ) (fun r u => r = 0 ∧ ∃ b', u = XW ad cI cJ 0 b' F G ++ R)) := by
  refine ent (by decide) (Nat.le_of_ble_eq_true rfl) ?_
  intro p e s m below meth c ls A hx hb hr hg hown hml hlocks hnm hP hK hD hS hA hN hl
  have hl : lv_has ls 7 [(0, .ref (ad 6)), (1, .int k)] := hl
  refine lv_aload_n hx hb dX3_tryOut_0 rfl (lv_at hl 0 rfl) ?_
  refine va_get (D := D) (ci := 3) (v := .int (b 5)) (C := RX3) (T := TX3) (N := 16) hx hb hg inGX3 hown hK hP 6 rfl rfl 14 (by decide) (hg _ mw_189) (fun _ h9 => h9) rfl dX3_tryOut_1 ?_
  refine lv_istore_n (lv' := [(2, .int (b 5)), (0, .ref (ad 6)), (1, .int k)]) hx hb dX3_tryOut_4 rfl hl (by decide) rfl (fun ls hl => ?_)
  refine lv_aload_n hx hb dX3_tryOut_5 rfl (lv_at hl 1 rfl) ?_
  refine va_get (D := D) (ci := 3) (v := .ref (ad 35)) (C := RX3) (T := TX3) (N := 16) hx hb hg inGX3 hown hK hP 6 rfl rfl 2 (by decide) (hg _ mw_203) (fun _ h9 => h9) rfl dX3_tryOut_6 ?_
  refine lv_aload_n hx hb dX3_tryOut_9 rfl (lv_at hl 1 rfl) ?_
  refine va_get (D := D) (ci := 3) (v := .int 0) (C := RX3) (T := TX3) (N := 16) hx hb hg inGX3 hown hK hP 6 rfl rfl 13 (by decide) (hg _ mw_180) (fun _ h9 => h9) rfl dX3_tryOut_10 ?_
  refine kI (rSN hx hb hml hown hg hN hK hP hD (c_at l D cI cJ cZ (XW ad cI cJ 0 b F G ++ R) 35 (ad 35) 41 (fun _ => 0) 0 rfl (by decide)) mw_182 nw_96 mw_183 mw_110 pd_X7_at ⟨Nat.le_of_ble_eq_true rfl, Nat.le_of_ble_eq_true rfl⟩ rfl hl.1 rfl (Nat.le_of_ble_eq_true rfl) dX3_tryOut_13 ⟨Nat.le_of_ble_eq_true rfl, Nat.le_of_ble_eq_true rfl⟩) hD hS hA (fun r_1 u_1 H locs hp hP hD hS => ?_)
  obtain ⟨hp1, hp2, rfl⟩ := hp
  obtain rfl : r_1 = 0 := (Classical.em (vp_in 0 41)).elim hp1 hp2
  refine lv_istore_n (lv' := [(3, .int 0), (2, .int (b 5)), (0, .ref (ad 6)), (1, .int k)]) hx hb dX3_tryOut_16 rfl hl (by decide) rfl (fun ls hl => ?_)
  refine lv_iconst (v := 0) hx hb dX3_tryOut_17 (by decide) ?_
  refine lv_istore (lv' := [(4, .int 0), (3, .int 0), (2, .int (b 5)), (0, .ref (ad 6)), (1, .int k)]) hx hb dX3_tryOut_18 hl (by decide) rfl (fun ls hl => ?_)
  refine lv_iload hx hb dX3_tryOut_20 (lv_at hl 0 rfl) ?_
  refine lv_iload_n hx hb dX3_tryOut_22 rfl (lv_at hl 1 rfl) ?_
  refine lv_icmp_ge (tgt := 50) hx hb dX3_tryOut_23 (by decide) (fun c_23 => ?_) (fun c_23 => absurd (by decide) c_23)
  refine lv_aload_n hx hb dX3_tryOut_50 rfl (lv_at hl 3 rfl) ?_
  refine lv_iload_n hx hb dX3_tryOut_51 rfl (lv_at hl 4 rfl) ?_
  refine kV (rV (q0 := 6) (ci := 3) hx hb hml hown hg hN hK hP hD (c_sweepOften l D cI cJ cZ ad b F G R k N hk hN31) mw_235 mw_236 mw_237 mw_238 mw_179 pdv_X3_sweepOften ⟨Nat.le_of_ble_eq_true rfl, Nat.le_of_ble_eq_true rfl⟩ rfl rfl rfl hl.1 rfl (Nat.le_of_ble_eq_true rfl) dX3_tryOut_52 ⟨Nat.le_of_ble_eq_true rfl, Nat.le_of_ble_eq_true rfl⟩) hD hS hA (fun u_2 H locs hp hP hD hS => ?_)
  obtain ⟨b_3, rfl⟩ := hp
  refine lv_aload_n hx hb dX3_tryOut_55 rfl (lv_at hl 3 rfl) ?_
  refine kI (rV (q0 := 6) (ci := 3) hx hb hml hown hg hN hK hP hD (c_countCrossings l D cI cJ cZ ad b_3 F G R) mw_239 mw_240 mw_241 mw_242 mw_179 pdv_X3_countCrossings ⟨Nat.le_of_ble_eq_true rfl, Nat.le_of_ble_eq_true rfl⟩ rfl rfl rfl hl.1 rfl (Nat.le_of_ble_eq_true rfl) dX3_tryOut_56 ⟨Nat.le_of_ble_eq_true rfl, Nat.le_of_ble_eq_true rfl⟩) hD hS hA (fun r_6 u_6 H locs hp hP hD hS => ?_)
  obtain ⟨rfl, rfl⟩ := hp
  refine lv_istore (lv' := [(4, .int 0), (3, .int 0), (2, .int (b 5)), (0, .ref (ad 6)), (1, .int k)]) hx hb dX3_tryOut_59 hl (by decide) rfl (fun ls hl => ?_)
  refine lv_iconst (v := 0) hx hb dX3_tryOut_61 (by decide) ?_
  refine lv_istore (lv' := [(5, .int 0), (4, .int 0), (3, .int 0), (2, .int (b 5)), (0, .ref (ad 6)), (1, .int k)]) hx hb dX3_tryOut_62 hl (by decide) rfl (fun ls hl => ?_)
  refine lv_iload hx hb dX3_tryOut_64 (lv_at hl 0 rfl) ?_
  refine lv_aload_n hx hb dX3_tryOut_66 rfl (lv_at hl 4 rfl) ?_
  refine va_get (D := D) (ci := 3) (v := .int 0) (C := RX3) (T := TX3) (N := 16) hx hb hg inGX3 hown hK hP 6 rfl rfl 13 (by decide) (hg _ mw_180) (fun _ h9 => h9) rfl dX3_tryOut_67 ?_
  refine lv_icmp_ge (tgt := 129) hx hb dX3_tryOut_70 (by decide) (fun c_70 => ?_) (fun c_70 => absurd (by decide) c_70)
  refine lv_aload_n hx hb dX3_tryOut_129 rfl (lv_at hl 4 rfl) ?_
  refine lv_iload_n hx hb dX3_tryOut_130 rfl (lv_at hl 3 rfl) ?_
  refine va_put (D := D) (ci := 3) (v := .int (b 5)) (C := RX3) (T := TX3) (N := 16) hx hb hg inGX3 tyX3 tyX3_ok nmX3 hown hK hP hD hS 6 rfl rfl 14 (by decide) (hg _ mw_189) (fun _ h9 => h9) rfl (tyX3_ok 14 (by decide)) rfl rfl (Nat.le_of_ble_eq_true rfl) dX3_tryOut_131 (fun H locs hP hD hS => ?_)
  have hP : va_P D vwCl (XW ad cI cJ 0 (va_up b_3 5 (b 5)) F G ++ R) H := hP
  have hD : va_D A (XW ad cI cJ 0 (va_up b_3 5 (b 5)) F G ++ R) := hD
  refine lv_iload hx hb dX3_tryOut_134 (lv_at hl 1 rfl) ?_
  exact W.iret (v := 0) hx hb hr (fun t ht hW => ⟨⟨0, (XW ad cI cJ 0 (va_up b_3 5 (b 5)) F G ++ R), rfl, ⟨rfl, _, rfl⟩, ⟨by rw [ht]; exact hP, va_K.moved hW.alike hK, hD⟩⟩, hS.F ht⟩) hS.2.2 dX3_tryOut_136
set_option maxHeartbeats 4000000 in
set_option maxRecDepth 100000 in
theorem c_dCode (l : Launch) (D : va_G) (cI cJ cZ : ClassId) (ad : Nat → Nat) (b : Nat → Int32) (F : Nat → Nat → Int32) (G : Nat → Nat → Int64) (R : va_W) (x : Int64) : CT l D (TY cI cJ cZ) yX7_digestOfCode (.code yX7_digestOfCode cX7_digestOfCode 6 (some Jvm.ClassFile.FieldType.long)) 1 0 0 (XW ad cI cJ 0 b F G ++ R) [.ref (ad 0), .long x] (QL D (TY cI cJ cZ) (fun r u => r = x * 31 + (0 : Int32).toInt64 ∧ u = XW ad cI cJ 0 b F G ++ R)) := by
  refine ent (by decide) (Nat.le_of_ble_eq_true rfl) ?_
  intro p e s m below meth c ls A hx hb hr hg hown hml hlocks hnm hP hK hD hS hA hN hl
  have hl : lv_has ls 6 [(0, .ref (ad 0)), (1, .long x)] := hl
  refine lv_lload_n hx hb dX7_digestOfCode_0 rfl (lv_at hl 1 rfl) ?_
  refine lv_aload_n hx hb dX7_digestOfCode_1 rfl (lv_at hl 0 rfl) ?_
  refine va_get (D := D) (ci := 7) (v := .ref (ad 1)) (C := RX7) (T := TX7) (N := 6) hx hb hg inGX7 hown hK hP 0 rfl rfl 0 (by decide) (hg _ mw_113) (fun _ h9 => h9) rfl dX7_digestOfCode_2 ?_
  refine va_getN (D := D) (ci := 0) (v := .int 0) (C := RX0) (T := TX0) (N := 5) hx hb hg inGX0 hown hK hP 1 rfl rfl 4 (by decide) (hN.use nw_10) (fun _ h9 => h9) rfl dX7_digestOfCode_5 ?_
  refine kL (rS hx hb hml hown hg hN hK hP hD (c_mix l D cI cJ cZ (XW ad cI cJ 0 b F G ++ R) x 0) mw_243 mw_244 mw_245 mw_110 pd_X7_mix ⟨Nat.le_of_ble_eq_true rfl, Nat.le_of_ble_eq_true rfl⟩ rfl hl.1 rfl (Nat.le_of_ble_eq_true rfl) dX7_digestOfCode_8 ⟨Nat.le_of_ble_eq_true rfl, Nat.le_of_ble_eq_true rfl⟩) hD hS hA (fun r_1 u_1 H locs hp hP hD hS => ?_)
  obtain ⟨er_1, rfl⟩ := hp
  refine lv_lstore_n (lv' := [(3, .long r_1), (0, .ref (ad 0)), (1, .long x)]) hx hb dX7_digestOfCode_11 rfl hl (by decide) rfl (fun ls hl => ?_)
  refine lv_iconst (v := 0) hx hb dX7_digestOfCode_12 (by decide) ?_
  refine lv_istore (lv' := [(5, .int 0), (3, .long r_1), (0, .ref (ad 0)), (1, .long x)]) hx hb dX7_digestOfCode_13 hl (by decide) rfl (fun ls hl => ?_)
  refine lv_iload hx hb dX7_digestOfCode_15 (lv_at hl 0 rfl) ?_
  refine lv_aload_n hx hb dX7_digestOfCode_17 rfl (lv_at hl 2 rfl) ?_
  refine va_get (D := D) (ci := 7) (v := .ref (ad 1)) (C := RX7) (T := TX7) (N := 6) hx hb hg inGX7 hown hK hP 0 rfl rfl 0 (by decide) (hg _ mw_113) (fun _ h9 => h9) rfl dX7_digestOfCode_18 ?_
  refine va_getN (D := D) (ci := 0) (v := .int 0) (C := RX0) (T := TX0) (N := 5) hx hb hg inGX0 hown hK hP 1 rfl rfl 4 (by decide) (hN.use nw_10) (fun _ h9 => h9) rfl dX7_digestOfCode_21 ?_
  refine lv_icmp_ge (tgt := 84) hx hb dX7_digestOfCode_24 (by decide) (fun c_24 => ?_) (fun c_24 => absurd (by decide) c_24)
  refine lv_lload_n hx hb dX7_digestOfCode_84 rfl (lv_at hl 1 rfl) ?_
  exact W.lret (v := r_1) hx hb hr (fun t ht hW => ⟨⟨r_1, (XW ad cI cJ 0 b F G ++ R), rfl, ⟨by rw [er_1], rfl⟩, ⟨by rw [ht]; exact hP, va_K.moved hW.alike hK, hD⟩⟩, hS.F ht⟩) hS.2.2 dX7_digestOfCode_85
set_option maxHeartbeats 4000000 in
set_option maxRecDepth 100000 in
theorem c_dBlocks (l : Launch) (D : va_G) (cI cJ cZ : ClassId) (ad : Nat → Nat) (b : Nat → Int32) (F : Nat → Nat → Int32) (G : Nat → Nat → Int64) (R : va_W) (x : Int64) : CT l D (TY cI cJ cZ) yX7_digestOfBlocks (.code yX7_digestOfBlocks cX7_digestOfBlocks 6 (some Jvm.ClassFile.FieldType.long)) 1 0 0 (XW ad cI cJ 0 b F G ++ R) [.ref (ad 0), .long x] (QL D (TY cI cJ cZ) (fun r u => r = x * 31 + (0 : Int32).toInt64 ∧ u = XW ad cI cJ 0 b F G ++ R)) := by
  refine ent (by decide) (Nat.le_of_ble_eq_true rfl) ?_
  intro p e s m below meth c ls A hx hb hr hg hown hml hlocks hnm hP hK hD hS hA hN hl
  have hl : lv_has ls 6 [(0, .ref (ad 0)), (1, .long x)] := hl
  refine lv_lload_n hx hb dX7_digestOfBlocks_0 rfl (lv_at hl 1 rfl) ?_
  refine lv_aload_n hx hb dX7_digestOfBlocks_1 rfl (lv_at hl 0 rfl) ?_
  refine va_get (D := D) (ci := 7) (v := .ref (ad 2)) (C := RX7) (T := TX7) (N := 6) hx hb hg inGX7 hown hK hP 0 rfl rfl 1 (by decide) (hg _ mw_112) (fun _ h9 => h9) rfl dX7_digestOfBlocks_2 ?_
  refine va_getN (D := D) (ci := 1) (v := .int 0) (C := RX1) (T := TX1) (N := 11) hx hb hg inGX1 hown hK hP 2 rfl rfl 7 (by decide) (hN.use nw_28) (fun _ h9 => h9) rfl dX7_digestOfBlocks_5 ?_
  refine kL (rS hx hb hml hown hg hN hK hP hD (c_mix l D cI cJ cZ (XW ad cI cJ 0 b F G ++ R) x 0) mw_243 mw_244 mw_245 mw_110 pd_X7_mix ⟨Nat.le_of_ble_eq_true rfl, Nat.le_of_ble_eq_true rfl⟩ rfl hl.1 rfl (Nat.le_of_ble_eq_true rfl) dX7_digestOfBlocks_8 ⟨Nat.le_of_ble_eq_true rfl, Nat.le_of_ble_eq_true rfl⟩) hD hS hA (fun r_1 u_1 H locs hp hP hD hS => ?_)
  obtain ⟨er_1, rfl⟩ := hp
  refine lv_lstore_n (lv' := [(3, .long r_1), (0, .ref (ad 0)), (1, .long x)]) hx hb dX7_digestOfBlocks_11 rfl hl (by decide) rfl (fun ls hl => ?_)
  refine lv_iconst (v := 0) hx hb dX7_digestOfBlocks_12 (by decide) ?_
  refine lv_istore (lv' := [(5, .int 0), (3, .long r_1), (0, .ref (ad 0)), (1, .long x)]) hx hb dX7_digestOfBlocks_13 hl (by decide) rfl (fun ls hl => ?_)
  refine lv_iload hx hb dX7_digestOfBlocks_15 (lv_at hl 0 rfl) ?_
  refine lv_aload_n hx hb dX7_digestOfBlocks_17 rfl (lv_at hl 2 rfl) ?_
  refine va_get (D := D) (ci := 7) (v := .ref (ad 2)) (C := RX7) (T := TX7) (N := 6) hx hb hg inGX7 hown hK hP 0 rfl rfl 1 (by decide) (hg _ mw_112) (fun _ h9 => h9) rfl dX7_digestOfBlocks_18 ?_
  refine va_getN (D := D) (ci := 1) (v := .int 0) (C := RX1) (T := TX1) (N := 11) hx hb hg inGX1 hown hK hP 2 rfl rfl 7 (by decide) (hN.use nw_28) (fun _ h9 => h9) rfl dX7_digestOfBlocks_21 ?_
  refine lv_icmp_ge (tgt := 180) hx hb dX7_digestOfBlocks_24 (by decide) (fun c_24 => ?_) (fun c_24 => absurd (by decide) c_24)
  refine lv_lload_n hx hb dX7_digestOfBlocks_180 rfl (lv_at hl 1 rfl) ?_
  exact W.lret (v := r_1) hx hb hr (fun t ht hW => ⟨⟨r_1, (XW ad cI cJ 0 b F G ++ R), rfl, ⟨by rw [er_1], rfl⟩, ⟨by rw [ht]; exact hP, va_K.moved hW.alike hK, hD⟩⟩, hS.F ht⟩) hS.2.2 dX7_digestOfBlocks_181
set_option maxHeartbeats 4000000 in
set_option maxRecDepth 100000 in
theorem c_dEdges (l : Launch) (D : va_G) (cI cJ cZ : ClassId) (ad : Nat → Nat) (b : Nat → Int32) (F : Nat → Nat → Int32) (G : Nat → Nat → Int64) (R : va_W) (x : Int64) : CT l D (TY cI cJ cZ) yX7_digestOfEdges (.code yX7_digestOfEdges cX7_digestOfEdges 6 (some Jvm.ClassFile.FieldType.long)) 1 0 0 (XW ad cI cJ 0 b F G ++ R) [.ref (ad 0), .long x] (QL D (TY cI cJ cZ) (fun r u => r = x * 31 + (0 : Int32).toInt64 ∧ u = XW ad cI cJ 0 b F G ++ R)) := by
  refine ent (by decide) (Nat.le_of_ble_eq_true rfl) ?_
  intro p e s m below meth c ls A hx hb hr hg hown hml hlocks hnm hP hK hD hS hA hN hl
  have hl : lv_has ls 6 [(0, .ref (ad 0)), (1, .long x)] := hl
  refine lv_lload_n hx hb dX7_digestOfEdges_0 rfl (lv_at hl 1 rfl) ?_
  refine lv_aload_n hx hb dX7_digestOfEdges_1 rfl (lv_at hl 0 rfl) ?_
  refine va_get (D := D) (ci := 7) (v := .ref (ad 2)) (C := RX7) (T := TX7) (N := 6) hx hb hg inGX7 hown hK hP 0 rfl rfl 1 (by decide) (hg _ mw_112) (fun _ h9 => h9) rfl dX7_digestOfEdges_2 ?_
  refine va_getN (D := D) (ci := 1) (v := .int 0) (C := RX1) (T := TX1) (N := 11) hx hb hg inGX1 hown hK hP 2 rfl rfl 8 (by decide) (hN.use nw_31) (fun _ h9 => h9) rfl dX7_digestOfEdges_5 ?_
  refine kL (rS hx hb hml hown hg hN hK hP hD (c_mix l D cI cJ cZ (XW ad cI cJ 0 b F G ++ R) x 0) mw_243 mw_244 mw_245 mw_110 pd_X7_mix ⟨Nat.le_of_ble_eq_true rfl, Nat.le_of_ble_eq_true rfl⟩ rfl hl.1 rfl (Nat.le_of_ble_eq_true rfl) dX7_digestOfEdges_8 ⟨Nat.le_of_ble_eq_true rfl, Nat.le_of_ble_eq_true rfl⟩) hD hS hA (fun r_1 u_1 H locs hp hP hD hS => ?_)
  obtain ⟨er_1, rfl⟩ := hp
  refine lv_lstore_n (lv' := [(3, .long r_1), (0, .ref (ad 0)), (1, .long x)]) hx hb dX7_digestOfEdges_11 rfl hl (by decide) rfl (fun ls hl => ?_)
  refine lv_iconst (v := 0) hx hb dX7_digestOfEdges_12 (by decide) ?_
  refine lv_istore (lv' := [(5, .int 0), (3, .long r_1), (0, .ref (ad 0)), (1, .long x)]) hx hb dX7_digestOfEdges_13 hl (by decide) rfl (fun ls hl => ?_)
  refine lv_iload hx hb dX7_digestOfEdges_15 (lv_at hl 0 rfl) ?_
  refine lv_aload_n hx hb dX7_digestOfEdges_17 rfl (lv_at hl 2 rfl) ?_
  refine va_get (D := D) (ci := 7) (v := .ref (ad 2)) (C := RX7) (T := TX7) (N := 6) hx hb hg inGX7 hown hK hP 0 rfl rfl 1 (by decide) (hg _ mw_112) (fun _ h9 => h9) rfl dX7_digestOfEdges_18 ?_
  refine va_getN (D := D) (ci := 1) (v := .int 0) (C := RX1) (T := TX1) (N := 11) hx hb hg inGX1 hown hK hP 2 rfl rfl 8 (by decide) (hN.use nw_31) (fun _ h9 => h9) rfl dX7_digestOfEdges_21 ?_
  refine lv_icmp_ge (tgt := 120) hx hb dX7_digestOfEdges_24 (by decide) (fun c_24 => ?_) (fun c_24 => absurd (by decide) c_24)
  refine lv_lload_n hx hb dX7_digestOfEdges_120 rfl (lv_at hl 1 rfl) ?_
  exact W.lret (v := r_1) hx hb hr (fun t ht hW => ⟨⟨r_1, (XW ad cI cJ 0 b F G ++ R), rfl, ⟨by rw [er_1], rfl⟩, ⟨by rw [ht]; exact hP, va_K.moved hW.alike hK, hD⟩⟩, hS.F ht⟩) hS.2.2 dX7_digestOfEdges_121
set_option maxHeartbeats 4000000 in
set_option maxRecDepth 100000 in
theorem c_dSteps (l : Launch) (D : va_G) (cI cJ cZ : ClassId) (ad : Nat → Nat) (b : Nat → Int32) (F : Nat → Nat → Int32) (G : Nat → Nat → Int64) (R : va_W) (x : Int64) : CT l D (TY cI cJ cZ) yX7_digestOfSteps (.code yX7_digestOfSteps cX7_digestOfSteps 6 (some Jvm.ClassFile.FieldType.long)) 1 0 0 (XW ad cI cJ 0 b F G ++ R) [.ref (ad 0), .long x] (QL D (TY cI cJ cZ) (fun r u => r = ((x * 31 + (0 : Int32).toInt64) * 31 + (0 : Int32).toInt64) * 31 + 0 ∧ u = XW ad cI cJ 0 b F G ++ R)) := by
  refine ent (by decide) (Nat.le_of_ble_eq_true rfl) ?_
  intro p e s m below meth c ls A hx hb hr hg hown hml hlocks hnm hP hK hD hS hA hN hl
  have hl : lv_has ls 6 [(0, .ref (ad 0)), (1, .long x)] := hl
  refine lv_lload_n hx hb dX7_digestOfSteps_0 rfl (lv_at hl 1 rfl) ?_
  refine lv_aload_n hx hb dX7_digestOfSteps_1 rfl (lv_at hl 0 rfl) ?_
  refine va_get (D := D) (ci := 7) (v := .ref (ad 5)) (C := RX7) (T := TX7) (N := 6) hx hb hg inGX7 hown hK hP 0 rfl rfl 4 (by decide) (hg _ mw_209) (fun _ h9 => h9) rfl dX7_digestOfSteps_2 ?_
  refine va_getN (D := D) (ci := 5) (v := .int 0) (C := RX5) (T := TX5) (N := 8) hx hb hg inGX5 hown hK hP 5 rfl rfl 6 (by decide) (hN.use nw_51) (fun _ h9 => h9) rfl dX7_digestOfSteps_5 ?_
  refine kL (rS hx hb hml hown hg hN hK hP hD (c_mix l D cI cJ cZ (XW ad cI cJ 0 b F G ++ R) x 0) mw_243 mw_244 mw_245 mw_110 pd_X7_mix ⟨Nat.le_of_ble_eq_true rfl, Nat.le_of_ble_eq_true rfl⟩ rfl hl.1 rfl (Nat.le_of_ble_eq_true rfl) dX7_digestOfSteps_8 ⟨Nat.le_of_ble_eq_true rfl, Nat.le_of_ble_eq_true rfl⟩) hD hS hA (fun r_1 u_1 H locs hp hP hD hS => ?_)
  obtain ⟨er_1, rfl⟩ := hp
  refine lv_lstore_n (lv' := [(3, .long r_1), (0, .ref (ad 0)), (1, .long x)]) hx hb dX7_digestOfSteps_11 rfl hl (by decide) rfl (fun ls hl => ?_)
  refine lv_iconst (v := 0) hx hb dX7_digestOfSteps_12 (by decide) ?_
  refine lv_istore (lv' := [(5, .int 0), (3, .long r_1), (0, .ref (ad 0)), (1, .long x)]) hx hb dX7_digestOfSteps_13 hl (by decide) rfl (fun ls hl => ?_)
  refine lv_iload hx hb dX7_digestOfSteps_15 (lv_at hl 0 rfl) ?_
  refine lv_aload_n hx hb dX7_digestOfSteps_17 rfl (lv_at hl 2 rfl) ?_
  refine va_get (D := D) (ci := 7) (v := .ref (ad 5)) (C := RX7) (T := TX7) (N := 6) hx hb hg inGX7 hown hK hP 0 rfl rfl 4 (by decide) (hg _ mw_209) (fun _ h9 => h9) rfl dX7_digestOfSteps_18 ?_
  refine va_getN (D := D) (ci := 5) (v := .int 0) (C := RX5) (T := TX5) (N := 8) hx hb hg inGX5 hown hK hP 5 rfl rfl 6 (by decide) (hN.use nw_51) (fun _ h9 => h9) rfl dX7_digestOfSteps_21 ?_
  refine lv_icmp_ge (tgt := 67) hx hb dX7_digestOfSteps_24 (by decide) (fun c_24 => ?_) (fun c_24 => absurd (by decide) c_24)
  refine lv_lload_n hx hb dX7_digestOfSteps_67 rfl (lv_at hl 1 rfl) ?_
  refine lv_aload_n hx hb dX7_digestOfSteps_68 rfl (lv_at hl 2 rfl) ?_
  refine va_get (D := D) (ci := 7) (v := .ref (ad 5)) (C := RX7) (T := TX7) (N := 6) hx hb hg inGX7 hown hK hP 0 rfl rfl 4 (by decide) (hg _ mw_209) (fun _ h9 => h9) rfl dX7_digestOfSteps_69 ?_
  refine va_getN (D := D) (ci := 5) (v := .long 0) (C := RX5) (T := TX5) (N := 8) hx hb hg inGX5 hown hK hP 5 rfl rfl 5 (by decide) (hN.use nw_50) (fun _ h9 => h9) rfl dX7_digestOfSteps_72 ?_
  refine kI (rS hx hb hml hown hg hN hK hP hD (c_bitCount0 l D cI cJ cZ (XW ad cI cJ 0 b F G ++ R)) mw_246 mw_247 mw_248 mw_249 pd_J13_bitCount_95d88 ⟨Nat.le_of_ble_eq_true rfl, Nat.le_of_ble_eq_true rfl⟩ rfl hl.1 rfl (Nat.le_of_ble_eq_true rfl) dX7_digestOfSteps_75 ⟨Nat.le_of_ble_eq_true rfl, Nat.le_of_ble_eq_true rfl⟩) hD hS hA (fun r_2 u_2 H locs hp hP hD hS => ?_)
  obtain ⟨rfl, rfl⟩ := hp
  refine kL (rS hx hb hml hown hg hN hK hP hD (c_mix l D cI cJ cZ (XW ad cI cJ 0 b F G ++ R) r_1 0) mw_243 mw_244 mw_245 mw_110 pd_X7_mix ⟨Nat.le_of_ble_eq_true rfl, Nat.le_of_ble_eq_true rfl⟩ rfl hl.1 rfl (Nat.le_of_ble_eq_true rfl) dX7_digestOfSteps_78 ⟨Nat.le_of_ble_eq_true rfl, Nat.le_of_ble_eq_true rfl⟩) hD hS hA (fun r_3 u_3 H locs hp hP hD hS => ?_)
  obtain ⟨er_3, rfl⟩ := hp
  refine lv_lstore_n (lv' := [(3, .long r_3), (5, .int 0), (0, .ref (ad 0)), (1, .long x)]) hx hb dX7_digestOfSteps_81 rfl hl (by decide) rfl (fun ls hl => ?_)
  refine lv_lload_n hx hb dX7_digestOfSteps_82 rfl (lv_at hl 0 rfl) ?_
  refine lv_aload_n hx hb dX7_digestOfSteps_83 rfl (lv_at hl 2 rfl) ?_
  refine va_get (D := D) (ci := 7) (v := .ref (ad 5)) (C := RX7) (T := TX7) (N := 6) hx hb hg inGX7 hown hK hP 0 rfl rfl 4 (by decide) (hg _ mw_209) (fun _ h9 => h9) rfl dX7_digestOfSteps_84 ?_
  refine va_getN (D := D) (ci := 5) (v := .long 0) (C := RX5) (T := TX5) (N := 8) hx hb hg inGX5 hown hK hP 5 rfl rfl 5 (by decide) (hN.use nw_50) (fun _ h9 => h9) rfl dX7_digestOfSteps_87 ?_
  refine kI (rS hx hb hml hown hg hN hK hP hD (c_bitCount0 l D cI cJ cZ (XW ad cI cJ 0 b F G ++ R)) mw_246 mw_247 mw_248 mw_249 pd_J13_bitCount_95d88 ⟨Nat.le_of_ble_eq_true rfl, Nat.le_of_ble_eq_true rfl⟩ rfl hl.1 rfl (Nat.le_of_ble_eq_true rfl) dX7_digestOfSteps_90 ⟨Nat.le_of_ble_eq_true rfl, Nat.le_of_ble_eq_true rfl⟩) hD hS hA (fun r_4 u_4 H locs hp hP hD hS => ?_)
  obtain ⟨rfl, rfl⟩ := hp
  refine lv_iconst (v := 1) hx hb dX7_digestOfSteps_93 (by decide) ?_
  refine lv_icmp_ne (tgt := 101) hx hb dX7_digestOfSteps_94 (by decide) (fun c_94 => ?_) (fun c_94 => absurd c_94 (by decide))
  refine lv_iconst (v := 0) hx hb dX7_digestOfSteps_101 (by decide) ?_
  refine kL (rS hx hb hml hown hg hN hK hP hD (c_mixZ0 l D cI cJ cZ (XW ad cI cJ 0 b F G ++ R) r_3) mw_250 mw_251 mw_252 mw_110 pd_X7_mix_ ⟨Nat.le_of_ble_eq_true rfl, Nat.le_of_ble_eq_true rfl⟩ rfl hl.1 rfl (Nat.le_of_ble_eq_true rfl) dX7_digestOfSteps_102 ⟨Nat.le_of_ble_eq_true rfl, Nat.le_of_ble_eq_true rfl⟩) hD hS hA (fun r_5 u_5 H locs hp hP hD hS => ?_)
  obtain ⟨er_5, rfl⟩ := hp
  exact W.lret (v := r_5) hx hb hr (fun t ht hW => ⟨⟨r_5, (XW ad cI cJ 0 b F G ++ R), rfl, ⟨by rw [er_5, er_3, er_1], rfl⟩, ⟨by rw [ht]; exact hP, va_K.moved hW.alike hK, hD⟩⟩, hS.F ht⟩) hS.2.2 dX7_digestOfSteps_105
set_option maxHeartbeats 4000000 in
set_option maxRecDepth 100000 in
theorem c_dLayers (l : Launch) (D : va_G) (cI cJ cZ : ClassId) (ad : Nat → Nat) (b : Nat → Int32) (F : Nat → Nat → Int32) (G : Nat → Nat → Int64) (R : va_W) (x : Int64) : CT l D (TY cI cJ cZ) yX7_digestOfLayers (.code yX7_digestOfLayers cX7_digestOfLayers 8 (some Jvm.ClassFile.FieldType.long)) 1 0 0 (XW ad cI cJ 0 b F G ++ R) [.ref (ad 0), .long x] (QL D (TY cI cJ cZ) (fun r u => r = x * 31 + (0 : Int32).toInt64 ∧ u = XW ad cI cJ 0 b F G ++ R)) := by
  refine ent (by decide) (Nat.le_of_ble_eq_true rfl) ?_
  intro p e s m below meth c ls A hx hb hr hg hown hml hlocks hnm hP hK hD hS hA hN hl
  have hl : lv_has ls 8 [(0, .ref (ad 0)), (1, .long x)] := hl
  refine lv_lload_n hx hb dX7_digestOfLayers_0 rfl (lv_at hl 1 rfl) ?_
  refine lv_aload_n hx hb dX7_digestOfLayers_1 rfl (lv_at hl 0 rfl) ?_
  refine va_get (D := D) (ci := 7) (v := .ref (ad 6)) (C := RX7) (T := TX7) (N := 6) hx hb hg inGX7 hown hK hP 0 rfl rfl 5 (by decide) (hg _ mw_214) (fun _ h9 => h9) rfl dX7_digestOfLayers_2 ?_
  refine va_getN (D := D) (ci := 3) (v := .int 0) (C := RX3) (T := TX3) (N := 16) hx hb hg inGX3 hown hK hP 6 rfl rfl 13 (by decide) (hN.use nw_62) (fun _ h9 => h9) rfl dX7_digestOfLayers_5 ?_
  refine kL (rS hx hb hml hown hg hN hK hP hD (c_mix l D cI cJ cZ (XW ad cI cJ 0 b F G ++ R) x 0) mw_243 mw_244 mw_245 mw_110 pd_X7_mix ⟨Nat.le_of_ble_eq_true rfl, Nat.le_of_ble_eq_true rfl⟩ rfl hl.1 rfl (Nat.le_of_ble_eq_true rfl) dX7_digestOfLayers_8 ⟨Nat.le_of_ble_eq_true rfl, Nat.le_of_ble_eq_true rfl⟩) hD hS hA (fun r_1 u_1 H locs hp hP hD hS => ?_)
  obtain ⟨er_1, rfl⟩ := hp
  refine lv_lstore_n (lv' := [(3, .long r_1), (0, .ref (ad 0)), (1, .long x)]) hx hb dX7_digestOfLayers_11 rfl hl (by decide) rfl (fun ls hl => ?_)
  refine lv_iconst (v := 0) hx hb dX7_digestOfLayers_12 (by decide) ?_
  refine lv_istore (lv' := [(5, .int 0), (3, .long r_1), (0, .ref (ad 0)), (1, .long x)]) hx hb dX7_digestOfLayers_13 hl (by decide) rfl (fun ls hl => ?_)
  refine lv_iload hx hb dX7_digestOfLayers_15 (lv_at hl 0 rfl) ?_
  refine lv_aload_n hx hb dX7_digestOfLayers_17 rfl (lv_at hl 2 rfl) ?_
  refine va_get (D := D) (ci := 7) (v := .ref (ad 6)) (C := RX7) (T := TX7) (N := 6) hx hb hg inGX7 hown hK hP 0 rfl rfl 5 (by decide) (hg _ mw_214) (fun _ h9 => h9) rfl dX7_digestOfLayers_18 ?_
  refine va_getN (D := D) (ci := 3) (v := .int 0) (C := RX3) (T := TX3) (N := 16) hx hb hg inGX3 hown hK hP 6 rfl rfl 13 (by decide) (hN.use nw_62) (fun _ h9 => h9) rfl dX7_digestOfLayers_21 ?_
  refine lv_icmp_ge (tgt := 83) hx hb dX7_digestOfLayers_24 (by decide) (fun c_24 => ?_) (fun c_24 => absurd (by decide) c_24)
  refine lv_lload_n hx hb dX7_digestOfLayers_83 rfl (lv_at hl 1 rfl) ?_
  exact W.lret (v := r_1) hx hb hr (fun t ht hW => ⟨⟨r_1, (XW ad cI cJ 0 b F G ++ R), rfl, ⟨by rw [er_1], rfl⟩, ⟨by rw [ht]; exact hP, va_K.moved hW.alike hK, hD⟩⟩, hS.F ht⟩) hS.2.2 dX7_digestOfLayers_84
