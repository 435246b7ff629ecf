theorem dX4_sortEdges_0 : decode cX4_sortEdges 0 = .ok (.iconst 0, 1) := by decide +kernel
theorem dX4_sortEdges_1 : decode cX4_sortEdges 1 = .ok (.istore_n 2, 1) := by decide +kernel
theorem dX4_sortEdges_2 : decode cX4_sortEdges 2 = .ok (.iload_n 2, 1) := by decide +kernel
theorem dX4_sortEdges_3 : decode cX4_sortEdges 3 = .ok (.bipush 40, 2) := by decide +kernel
theorem dX4_sortEdges_5 : decode cX4_sortEdges 5 = .ok (.if_icmp .ge 18, 3) := by decide +kernel
theorem dX4_sortEdges_8 : decode cX4_sortEdges 8 = .ok (.aload_n 0, 1) := by decide +kernel
theorem dX4_sortEdges_9 : decode cX4_sortEdges 9 = .ok (.getfield 21, 3) := by decide +kernel
theorem dX4_sortEdges_12 : decode cX4_sortEdges 12 = .ok (.iload_n 2, 1) := by decide +kernel
theorem dX4_sortEdges_13 : decode cX4_sortEdges 13 = .ok (.lconst 0, 1) := by decide +kernel
theorem dX4_sortEdges_14 : decode cX4_sortEdges 14 = .ok (.invokestatic 38, 3) := by decide +kernel
theorem dX4_sortEdges_17 : decode cX4_sortEdges 17 = .ok (.iinc 2 1, 3) := by decide +kernel
theorem dX4_sortEdges_20 : decode cX4_sortEdges 20 = .ok (.goto (-18), 3) := by decide +kernel
theorem dX4_sortEdges_23 : decode cX4_sortEdges 23 = .ok (.iconst 0, 1) := by decide +kernel
theorem dX4_sortEdges_24 : decode cX4_sortEdges 24 = .ok (.istore_n 2, 1) := by decide +kernel
theorem dX4_sortEdges_25 : decode cX4_sortEdges 25 = .ok (.iload_n 2, 1) := by decide +kernel
theorem dX4_sortEdges_26 : decode cX4_sortEdges 26 = .ok (.aload_n 1, 1) := by decide +kernel
theorem dX4_sortEdges_27 : decode cX4_sortEdges 27 = .ok (.getfield 78, 3) := by decide +kernel
theorem dX4_sortEdges_30 : decode cX4_sortEdges 30 = .ok (.if_icmp .ge 99, 3) := by decide +kernel
theorem dX4_sortEdges_129 : decode cX4_sortEdges 129 = .ok (.return_, 1) := by decide +kernel
theorem dX4_rank_0 : decode cX4_rank 0 = .ok (.iconst 0, 1) := by decide +kernel
theorem dX4_rank_1 : decode cX4_rank 1 = .ok (.istore_n 2, 1) := by decide +kernel
theorem dX4_rank_2 : decode cX4_rank 2 = .ok (.iload_n 2, 1) := by decide +kernel
theorem dX4_rank_3 : decode cX4_rank 3 = .ok (.bipush 40, 2) := by decide +kernel
theorem dX4_rank_5 : decode cX4_rank 5 = .ok (.if_icmp .ge 55, 3) := by decide +kernel
theorem dX4_rank_8 : decode cX4_rank 8 = .ok (.aload_n 0, 1) := by decide +kernel
theorem dX4_rank_9 : decode cX4_rank 9 = .ok (.getfield 9, 3) := by decide +kernel
theorem dX4_rank_12 : decode cX4_rank 12 = .ok (.iload_n 2, 1) := by decide +kernel
theorem dX4_rank_13 : decode cX4_rank 13 = .ok (.aload_n 1, 1) := by decide +kernel
theorem dX4_rank_14 : decode cX4_rank 14 = .ok (.getfield 24, 3) := by decide +kernel
theorem dX4_rank_17 : decode cX4_rank 17 = .ok (.iload_n 2, 1) := by decide +kernel
theorem dX4_rank_18 : decode cX4_rank 18 = .ok (.invokestatic 30, 3) := by decide +kernel
theorem dX4_rank_21 : decode cX4_rank 21 = .ok (.ifCond .eq 11, 3) := by decide +kernel
theorem dX4_rank_32 : decode cX4_rank 32 = .ok (.lconst 0, 1) := by decide +kernel
theorem dX4_rank_33 : decode cX4_rank 33 = .ok (.invokestatic 38, 3) := by decide +kernel
theorem dX4_rank_36 : decode cX4_rank 36 = .ok (.aload_n 0, 1) := by decide +kernel
theorem dX4_rank_37 : decode cX4_rank 37 = .ok (.getfield 18, 3) := by decide +kernel
theorem dX4_rank_40 : decode cX4_rank 40 = .ok (.iload_n 2, 1) := by decide +kernel
theorem dX4_rank_41 : decode cX4_rank 41 = .ok (.lconst 0, 1) := by decide +kernel
theorem dX4_rank_42 : decode cX4_rank 42 = .ok (.invokestatic 38, 3) := by decide +kernel
theorem dX4_rank_45 : decode cX4_rank 45 = .ok (.aload_n 0, 1) := by decide +kernel
theorem dX4_rank_46 : decode cX4_rank 46 = .ok (.getfield 15, 3) := by decide +kernel
theorem dX4_rank_49 : decode cX4_rank 49 = .ok (.iload_n 2, 1) := by decide +kernel
theorem dX4_rank_50 : decode cX4_rank 50 = .ok (.lconst 0, 1) := by decide +kernel
theorem dX4_rank_51 : decode cX4_rank 51 = .ok (.invokestatic 38, 3) := by decide +kernel
theorem dX4_rank_54 : decode cX4_rank 54 = .ok (.iinc 2 1, 3) := by decide +kernel
theorem dX4_rank_57 : decode cX4_rank 57 = .ok (.goto (-55), 3) := by decide +kernel
theorem dX4_rank_60 : decode cX4_rank 60 = .ok (.aload_n 0, 1) := by decide +kernel
theorem dX4_rank_61 : decode cX4_rank 61 = .ok (.aload_n 1, 1) := by decide +kernel
theorem dX4_rank_62 : decode cX4_rank 62 = .ok (.invokevirtual 42, 3) := by decide +kernel
theorem dX4_rank_65 : decode cX4_rank 65 = .ok (.aload_n 0, 1) := by decide +kernel
theorem dX4_rank_66 : decode cX4_rank 66 = .ok (.iconst 0, 1) := by decide +kernel
theorem dX4_rank_67 : decode cX4_rank 67 = .ok (.putfield 46, 3) := by decide +kernel
theorem dX4_rank_70 : decode cX4_rank 70 = .ok (.aload_n 0, 1) := by decide +kernel
theorem dX4_rank_71 : decode cX4_rank 71 = .ok (.iconst 1, 1) := by decide +kernel
theorem dX4_rank_72 : decode cX4_rank 72 = .ok (.putfield 50, 3) := by decide +kernel
theorem dX4_rank_75 : decode cX4_rank 75 = .ok (.iconst 0, 1) := by decide +kernel
theorem dX4_rank_76 : decode cX4_rank 76 = .ok (.istore_n 2, 1) := by decide +kernel
theorem dX4_rank_77 : decode cX4_rank 77 = .ok (.iload_n 2, 1) := by decide +kernel
theorem dX4_rank_78 : decode cX4_rank 78 = .ok (.aload_n 1, 1) := by decide +kernel
theorem dX4_rank_79 : decode cX4_rank 79 = .ok (.getfield 54, 3) := by decide +kernel
theorem dX4_rank_82 : decode cX4_rank 82 = .ok (.if_icmp .ge 42, 3) := by decide +kernel
theorem dX4_rank_124 : decode cX4_rank 124 = .ok (.return_, 1) := by decide +kernel
theorem dX7_freshRanks_0 : decode cX7_freshRanks 0 = .ok (.aload_n 0, 1) := by decide +kernel
theorem dX7_freshRanks_1 : decode cX7_freshRanks 1 = .ok (.getfield 26, 3) := by decide +kernel
theorem dX7_freshRanks_4 : decode cX7_freshRanks 4 = .ok (.getfield 334, 3) := by decide +kernel
theorem dX7_freshRanks_7 : decode cX7_freshRanks 7 = .ok (.ifCond .ne 22, 3) := by decide +kernel
theorem dX7_freshRanks_10 : decode cX7_freshRanks 10 = .ok (.aload_n 0, 1) := by decide +kernel
theorem dX7_freshRanks_11 : decode cX7_freshRanks 11 = .ok (.getfield 26, 3) := by decide +kernel
theorem dX7_freshRanks_14 : decode cX7_freshRanks 14 = .ok (.aload_n 0, 1) := by decide +kernel
theorem dX7_freshRanks_15 : decode cX7_freshRanks 15 = .ok (.invokevirtual 123, 3) := by decide +kernel
theorem dX7_freshRanks_18 : decode cX7_freshRanks 18 = .ok (.invokevirtual 341, 3) := by decide +kernel
theorem dX7_freshRanks_21 : decode cX7_freshRanks 21 = .ok (.aload_n 0, 1) := by decide +kernel
theorem dX7_freshRanks_22 : decode cX7_freshRanks 22 = .ok (.getfield 26, 3) := by decide +kernel
theorem dX7_freshRanks_25 : decode cX7_freshRanks 25 = .ok (.iconst 1, 1) := by decide +kernel
theorem dX7_freshRanks_26 : decode cX7_freshRanks 26 = .ok (.putfield 334, 3) := by decide +kernel
theorem dX7_freshRanks_29 : decode cX7_freshRanks 29 = .ok (.aload_n 0, 1) := by decide +kernel
theorem dX7_freshRanks_30 : decode cX7_freshRanks 30 = .ok (.getfield 26, 3) := by decide +kernel
theorem dX7_freshRanks_33 : decode cX7_freshRanks 33 = .ok (.areturn, 1) := by decide +kernel
theorem dX2_passUp_0 : decode cX2_passUp 0 = .ok (.iconst 0, 1) := by decide +kernel
theorem dX2_passUp_1 : decode cX2_passUp 1 = .ok (.istore_n 3, 1) := by decide +kernel
theorem dX2_passUp_2 : decode cX2_passUp 2 = .ok (.aload_n 2, 1) := by decide +kernel
theorem dX2_passUp_3 : decode cX2_passUp 3 = .ok (.getfield 27, 3) := by decide +kernel
theorem dX2_passUp_6 : decode cX2_passUp 6 = .ok (.iconst 1, 1) := by decide +kernel
theorem dX2_passUp_7 : decode cX2_passUp 7 = .ok (.isub, 1) := by decide +kernel
theorem dX2_passUp_8 : decode cX2_passUp 8 = .ok (.istore 4, 2) := by decide +kernel
theorem dX2_passUp_10 : decode cX2_passUp 10 = .ok (.iload 4, 2) := by decide +kernel
theorem dX2_passUp_12 : decode cX2_passUp 12 = .ok (.ifCond .lt 106, 3) := by decide +kernel
theorem dX2_passUp_118 : decode cX2_passUp 118 = .ok (.iload_n 3, 1) := by decide +kernel
theorem dX2_passUp_119 : decode cX2_passUp 119 = .ok (.ireturn, 1) := by decide +kernel
theorem dX2_follow_0 : decode cX2_follow 0 = .ok (.iconst 0, 1) := by decide +kernel
theorem dX2_follow_1 : decode cX2_follow 1 = .ok (.istore_n 3, 1) := by decide +kernel
theorem dX2_follow_2 : decode cX2_follow 2 = .ok (.iload_n 3, 1) := by decide +kernel
theorem dX2_follow_3 : decode cX2_follow 3 = .ok (.bipush 40, 2) := by decide +kernel
theorem dX2_follow_5 : decode cX2_follow 5 = .ok (.if_icmp .ge 18, 3) := by decide +kernel
theorem dX2_follow_8 : decode cX2_follow 8 = .ok (.aload_n 0, 1) := by decide +kernel
theorem dX2_follow_9 : decode cX2_follow 9 = .ok (.getfield 9, 3) := by decide +kernel
theorem dX2_follow_12 : decode cX2_follow 12 = .ok (.iload_n 3, 1) := by decide +kernel
theorem dX2_follow_13 : decode cX2_follow 13 = .ok (.iconst 0, 1) := by decide +kernel
theorem dX2_follow_14 : decode cX2_follow 14 = .ok (.invokestatic 15, 3) := by decide +kernel
theorem dX2_follow_17 : decode cX2_follow 17 = .ok (.iinc 3 1, 3) := by decide +kernel
theorem dX2_follow_20 : decode cX2_follow 20 = .ok (.goto (-18), 3) := by decide +kernel
theorem dX2_follow_23 : decode cX2_follow 23 = .ok (.iconst 1, 1) := by decide +kernel
theorem dX2_follow_24 : decode cX2_follow 24 = .ok (.istore_n 3, 1) := by decide +kernel
theorem dX2_follow_25 : decode cX2_follow 25 = .ok (.iconst 0, 1) := by decide +kernel
theorem dX2_follow_26 : decode cX2_follow 26 = .ok (.istore 4, 2) := by decide +kernel
theorem dX2_follow_28 : decode cX2_follow 28 = .ok (.iload 4, 2) := by decide +kernel
theorem dX2_follow_30 : decode cX2_follow 30 = .ok (.bipush 40, 2) := by decide +kernel
theorem dX2_follow_32 : decode cX2_follow 32 = .ok (.if_icmp .gt 20, 3) := by decide +kernel
theorem dX2_follow_35 : decode cX2_follow 35 = .ok (.iload_n 3, 1) := by decide +kernel
theorem dX2_follow_36 : decode cX2_follow 36 = .ok (.ifCond .eq 16, 3) := by decide +kernel
theorem dX2_follow_39 : decode cX2_follow 39 = .ok (.aload_n 0, 1) := by decide +kernel
theorem dX2_follow_40 : decode cX2_follow 40 = .ok (.aload_n 1, 1) := by decide +kernel
theorem dX2_follow_41 : decode cX2_follow 41 = .ok (.aload_n 2, 1) := by decide +kernel
theorem dX2_follow_42 : decode cX2_follow 42 = .ok (.invokevirtual 19, 3) := by decide +kernel
theorem dX2_follow_45 : decode cX2_follow 45 = .ok (.istore_n 3, 1) := by decide +kernel
theorem dX2_follow_46 : decode cX2_follow 46 = .ok (.iinc 4 1, 3) := by decide +kernel
theorem dX2_follow_49 : decode cX2_follow 49 = .ok (.goto (-21), 3) := by decide +kernel
theorem dX2_follow_52 : decode cX2_follow 52 = .ok (.aload_n 0, 1) := by decide +kernel
theorem dX2_follow_53 : decode cX2_follow 53 = .ok (.iconst 0, 1) := by decide +kernel
theorem dX2_follow_54 : decode cX2_follow 54 = .ok (.putfield 23, 3) := by decide +kernel
theorem dX2_follow_57 : decode cX2_follow 57 = .ok (.iconst 0, 1) := by decide +kernel
theorem dX2_follow_58 : decode cX2_follow 58 = .ok (.istore 4, 2) := by decide +kernel
theorem dX2_follow_60 : decode cX2_follow 60 = .ok (.iload 4, 2) := by decide +kernel
theorem dX2_follow_62 : decode cX2_follow 62 = .ok (.aload_n 2, 1) := by decide +kernel
theorem dX2_follow_63 : decode cX2_follow 63 = .ok (.getfield 27, 3) := by decide +kernel
theorem dX2_follow_66 : decode cX2_follow 66 = .ok (.if_icmp .ge 38, 3) := by decide +kernel
theorem dX2_follow_104 : decode cX2_follow 104 = .ok (.return_, 1) := by decide +kernel
theorem dX5_findEntries_0 : decode cX5_findEntries 0 = .ok (.lconst 0, 1) := by decide +kernel
theorem dX5_findEntries_1 : decode cX5_findEntries 1 = .ok (.lstore_n 1, 1) := by decide +kernel
theorem dX5_findEntries_2 : decode cX5_findEntries 2 = .ok (.bipush 40, 2) := by decide +kernel
theorem dX5_findEntries_4 : decode cX5_findEntries 4 = .ok (.invokestatic 72, 3) := by decide +kernel
theorem dX5_findEntries_7 : decode cX5_findEntries 7 = .ok (.lconst 1, 1) := by decide +kernel
theorem dX5_findEntries_8 : decode cX5_findEntries 8 = .ok (.lor, 1) := by decide +kernel
theorem dX5_findEntries_9 : decode cX5_findEntries 9 = .ok (.lstore_n 3, 1) := by decide +kernel
theorem dX5_findEntries_10 : decode cX5_findEntries 10 = .ok (.iconst 0, 1) := by decide +kernel
theorem dX5_findEntries_11 : decode cX5_findEntries 11 = .ok (.istore 5, 2) := by decide +kernel
theorem dX5_findEntries_13 : decode cX5_findEntries 13 = .ok (.iload 5, 2) := by decide +kernel
theorem dX5_findEntries_15 : decode cX5_findEntries 15 = .ok (.bipush 40, 2) := by decide +kernel
theorem dX5_findEntries_17 : decode cX5_findEntries 17 = .ok (.if_icmp .ge 32, 3) := by decide +kernel
theorem dX5_findEntries_20 : decode cX5_findEntries 20 = .ok (.aload_n 0, 1) := by decide +kernel
theorem dX5_findEntries_21 : decode cX5_findEntries 21 = .ok (.getfield 9, 3) := by decide +kernel
theorem dX5_findEntries_24 : decode cX5_findEntries 24 = .ok (.iload 5, 2) := by decide +kernel
theorem dX5_findEntries_26 : decode cX5_findEntries 26 = .ok (.invokestatic 46, 3) := by decide +kernel
theorem dX5_findEntries_29 : decode cX5_findEntries 29 = .ok (.lstore 6, 2) := by decide +kernel
theorem dX5_findEntries_31 : decode cX5_findEntries 31 = .ok (.lload_n 3, 1) := by decide +kernel
theorem dX5_findEntries_32 : decode cX5_findEntries 32 = .ok (.lload_n 1, 1) := by decide +kernel
theorem dX5_findEntries_33 : decode cX5_findEntries 33 = .ok (.lload 6, 2) := by decide +kernel
theorem dX5_findEntries_35 : decode cX5_findEntries 35 = .ok (.land, 1) := by decide +kernel
theorem dX5_findEntries_36 : decode cX5_findEntries 36 = .ok (.lor, 1) := by decide +kernel
theorem dX5_findEntries_37 : decode cX5_findEntries 37 = .ok (.lstore_n 3, 1) := by decide +kernel
theorem dX5_findEntries_38 : decode cX5_findEntries 38 = .ok (.lload_n 1, 1) := by decide +kernel
theorem dX5_findEntries_39 : decode cX5_findEntries 39 = .ok (.lload 6, 2) := by decide +kernel
theorem dX5_findEntries_41 : decode cX5_findEntries 41 = .ok (.lor, 1) := by decide +kernel
theorem dX5_findEntries_42 : decode cX5_findEntries 42 = .ok (.lstore_n 1, 1) := by decide +kernel
theorem dX5_findEntries_43 : decode cX5_findEntries 43 = .ok (.iinc 5 1, 3) := by decide +kernel
theorem dX5_findEntries_46 : decode cX5_findEntries 46 = .ok (.goto (-33), 3) := by decide +kernel
theorem dX5_findEntries_49 : decode cX5_findEntries 49 = .ok (.lload_n 1, 1) := by decide +kernel
theorem dX5_findEntries_50 : decode cX5_findEntries 50 = .ok (.lload_n 3, 1) := by decide +kernel
theorem dX5_findEntries_51 : decode cX5_findEntries 51 = .ok (.ldc2_w 76, 3) := by decide +kernel
theorem dX5_findEntries_54 : decode cX5_findEntries 54 = .ok (.lxor, 1) := by decide +kernel
theorem dX5_findEntries_55 : decode cX5_findEntries 55 = .ok (.land, 1) := by decide +kernel
theorem dX5_findEntries_56 : decode cX5_findEntries 56 = .ok (.lstore 5, 2) := by decide +kernel
theorem dX5_findEntries_58 : decode cX5_findEntries 58 = .ok (.iconst 0, 1) := by decide +kernel
theorem dX5_findEntries_59 : decode cX5_findEntries 59 = .ok (.istore 7, 2) := by decide +kernel
theorem dX5_findEntries_61 : decode cX5_findEntries 61 = .ok (.iload 7, 2) := by decide +kernel
theorem dX5_findEntries_63 : decode cX5_findEntries 63 = .ok (.bipush 40, 2) := by decide +kernel
theorem dX5_findEntries_65 : decode cX5_findEntries 65 = .ok (.if_icmp .gt 19, 3) := by decide +kernel
theorem dX5_findEntries_68 : decode cX5_findEntries 68 = .ok (.aload_n 0, 1) := by decide +kernel
theorem dX5_findEntries_69 : decode cX5_findEntries 69 = .ok (.getfield 25, 3) := by decide +kernel
theorem dX5_findEntries_72 : decode cX5_findEntries 72 = .ok (.iload 7, 2) := by decide +kernel
theorem dX5_findEntries_74 : decode cX5_findEntries 74 = .ok (.iconst (-1), 1) := by decide +kernel
theorem dX5_findEntries_75 : decode cX5_findEntries 75 = .ok (.invokestatic 54, 3) := by decide +kernel
theorem dX5_findEntries_78 : decode cX5_findEntries 78 = .ok (.iinc 7 1, 3) := by decide +kernel
theorem dX5_findEntries_81 : decode cX5_findEntries 81 = .ok (.goto (-20), 3) := by decide +kernel
theorem dX5_findEntries_84 : decode cX5_findEntries 84 = .ok (.iconst 0, 1) := by decide +kernel
theorem dX5_findEntries_85 : decode cX5_findEntries 85 = .ok (.istore 7, 2) := by decide +kernel
theorem dX5_findEntries_87 : decode cX5_findEntries 87 = .ok (.iload 7, 2) := by decide +kernel
theorem dX5_findEntries_89 : decode cX5_findEntries 89 = .ok (.bipush 40, 2) := by decide +kernel
theorem dX5_findEntries_91 : decode cX5_findEntries 91 = .ok (.if_icmp .ge 67, 3) := by decide +kernel
theorem dX5_findEntries_94 : decode cX5_findEntries 94 = .ok (.aload_n 0, 1) := by decide +kernel
theorem dX5_findEntries_95 : decode cX5_findEntries 95 = .ok (.getfield 9, 3) := by decide +kernel
theorem dX5_findEntries_98 : decode cX5_findEntries 98 = .ok (.iload 7, 2) := by decide +kernel
theorem dX5_findEntries_100 : decode cX5_findEntries 100 = .ok (.invokestatic 46, 3) := by decide +kernel
theorem dX5_findEntries_103 : decode cX5_findEntries 103 = .ok (.lload 5, 2) := by decide +kernel
theorem dX5_findEntries_105 : decode cX5_findEntries 105 = .ok (.land, 1) := by decide +kernel
theorem dX5_findEntries_106 : decode cX5_findEntries 106 = .ok (.lstore 8, 2) := by decide +kernel
theorem dX5_findEntries_108 : decode cX5_findEntries 108 = .ok (.iconst 0, 1) := by decide +kernel
theorem dX5_findEntries_109 : decode cX5_findEntries 109 = .ok (.istore 10, 2) := by decide +kernel
theorem dX5_findEntries_111 : decode cX5_findEntries 111 = .ok (.iload 10, 2) := by decide +kernel
theorem dX5_findEntries_113 : decode cX5_findEntries 113 = .ok (.bipush 40, 2) := by decide +kernel
theorem dX5_findEntries_115 : decode cX5_findEntries 115 = .ok (.if_icmp .ge 37, 3) := by decide +kernel
theorem dX5_findEntries_118 : decode cX5_findEntries 118 = .ok (.lload 8, 2) := by decide +kernel
theorem dX5_findEntries_120 : decode cX5_findEntries 120 = .ok (.lconst 0, 1) := by decide +kernel
theorem dX5_findEntries_121 : decode cX5_findEntries 121 = .ok (.lcmp, 1) := by decide +kernel
theorem dX5_findEntries_122 : decode cX5_findEntries 122 = .ok (.ifCond .eq 30, 3) := by decide +kernel
theorem dX5_findEntries_152 : decode cX5_findEntries 152 = .ok (.iinc 7 1, 3) := by decide +kernel
theorem dX5_findEntries_155 : decode cX5_findEntries 155 = .ok (.goto (-68), 3) := by decide +kernel
theorem dX5_findEntries_158 : decode cX5_findEntries 158 = .ok (.return_, 1) := by decide +kernel
theorem dX5_takeStep_0 : decode cX5_takeStep 0 = .ok (.aload_n 0, 1) := by decide +kernel
theorem dX5_takeStep_1 : decode cX5_takeStep 1 = .ok (.invokevirtual 61, 3) := by decide +kernel
theorem dX5_takeStep_4 : decode cX5_takeStep 4 = .ok (.iconst 0, 1) := by decide +kernel
theorem dX5_takeStep_5 : decode cX5_takeStep 5 = .ok (.istore_n 1, 1) := by decide +kernel
theorem dX5_takeStep_6 : decode cX5_takeStep 6 = .ok (.iload_n 1, 1) := by decide +kernel
theorem dX5_takeStep_7 : decode cX5_takeStep 7 = .ok (.bipush 40, 2) := by decide +kernel
theorem dX5_takeStep_9 : decode cX5_takeStep 9 = .ok (.if_icmp .ge 77, 3) := by decide +kernel
theorem dX5_takeStep_12 : decode cX5_takeStep 12 = .ok (.aload_n 0, 1) := by decide +kernel
theorem dX5_takeStep_13 : decode cX5_takeStep 13 = .ok (.getfield 34, 3) := by decide +kernel
theorem dX5_takeStep_16 : decode cX5_takeStep 16 = .ok (.iload_n 1, 1) := by decide +kernel
theorem dX5_takeStep_17 : decode cX5_takeStep 17 = .ok (.invokestatic 41, 3) := by decide +kernel
theorem dX5_takeStep_20 : decode cX5_takeStep 20 = .ok (.ifCond .eq 11, 3) := by decide +kernel
theorem dX5_takeStep_31 : decode cX5_takeStep 31 = .ok (.iconst (-1), 1) := by decide +kernel
theorem dX5_takeStep_32 : decode cX5_takeStep 32 = .ok (.istore_n 2, 1) := by decide +kernel
theorem dX5_takeStep_33 : decode cX5_takeStep 33 = .ok (.iload_n 2, 1) := by decide +kernel
theorem dX5_takeStep_34 : decode cX5_takeStep 34 = .ok (.iconst (-1), 1) := by decide +kernel
theorem dX5_takeStep_35 : decode cX5_takeStep 35 = .ok (.if_icmp .eq 45, 3) := by decide +kernel
theorem dX5_takeStep_80 : decode cX5_takeStep 80 = .ok (.iinc 1 1, 3) := by decide +kernel
theorem dX5_takeStep_83 : decode cX5_takeStep 83 = .ok (.goto (-77), 3) := by decide +kernel
theorem dX5_takeStep_86 : decode cX5_takeStep 86 = .ok (.iconst 0, 1) := by decide +kernel
theorem dX5_takeStep_87 : decode cX5_takeStep 87 = .ok (.ireturn, 1) := by decide +kernel
theorem dX5_reduce_0 : decode cX5_reduce 0 = .ok (.aload_n 0, 1) := by decide +kernel
theorem dX5_reduce_1 : decode cX5_reduce 1 = .ok (.aload_n 1, 1) := by decide +kernel
theorem dX5_reduce_2 : decode cX5_reduce 2 = .ok (.getfield 28, 3) := by decide +kernel
theorem dX5_reduce_5 : decode cX5_reduce 5 = .ok (.putfield 34, 3) := by decide +kernel
theorem dX5_reduce_8 : decode cX5_reduce 8 = .ok (.aload_n 0, 1) := by decide +kernel
theorem dX5_reduce_9 : decode cX5_reduce 9 = .ok (.iconst 0, 1) := by decide +kernel
theorem dX5_reduce_10 : decode cX5_reduce 10 = .ok (.putfield 37, 3) := by decide +kernel
theorem dX5_reduce_13 : decode cX5_reduce 13 = .ok (.iconst 0, 1) := by decide +kernel
theorem dX5_reduce_14 : decode cX5_reduce 14 = .ok (.istore_n 2, 1) := by decide +kernel
theorem dX5_reduce_15 : decode cX5_reduce 15 = .ok (.iload_n 2, 1) := by decide +kernel
theorem dX5_reduce_16 : decode cX5_reduce 16 = .ok (.bipush 40, 2) := by decide +kernel
theorem dX5_reduce_18 : decode cX5_reduce 18 = .ok (.if_icmp .ge 59, 3) := by decide +kernel
theorem dX5_reduce_21 : decode cX5_reduce 21 = .ok (.aload_n 0, 1) := by decide +kernel
theorem dX5_reduce_22 : decode cX5_reduce 22 = .ok (.getfield 34, 3) := by decide +kernel
theorem dX5_reduce_25 : decode cX5_reduce 25 = .ok (.iload_n 2, 1) := by decide +kernel
theorem dX5_reduce_26 : decode cX5_reduce 26 = .ok (.invokestatic 41, 3) := by decide +kernel
theorem dX5_reduce_29 : decode cX5_reduce 29 = .ok (.istore_n 3, 1) := by decide +kernel
theorem dX5_reduce_30 : decode cX5_reduce 30 = .ok (.aload_n 0, 1) := by decide +kernel
theorem dX5_reduce_31 : decode cX5_reduce 31 = .ok (.getfield 9, 3) := by decide +kernel
theorem dX5_reduce_34 : decode cX5_reduce 34 = .ok (.iload_n 2, 1) := by decide +kernel
theorem dX5_reduce_35 : decode cX5_reduce 35 = .ok (.iload_n 3, 1) := by decide +kernel
theorem dX5_reduce_36 : decode cX5_reduce 36 = .ok (.ifCond .eq 14, 3) := by decide +kernel
theorem dX5_reduce_50 : decode cX5_reduce 50 = .ok (.lconst 0, 1) := by decide +kernel
theorem dX5_reduce_51 : decode cX5_reduce 51 = .ok (.invokestatic 50, 3) := by decide +kernel
theorem dX5_reduce_54 : decode cX5_reduce 54 = .ok (.aload_n 0, 1) := by decide +kernel
theorem dX5_reduce_55 : decode cX5_reduce 55 = .ok (.getfield 15, 3) := by decide +kernel
theorem dX5_reduce_58 : decode cX5_reduce 58 = .ok (.iload_n 2, 1) := by decide +kernel
theorem dX5_reduce_59 : decode cX5_reduce 59 = .ok (.iload_n 3, 1) := by decide +kernel
theorem dX5_reduce_60 : decode cX5_reduce 60 = .ok (.ifCond .eq 7, 3) := by decide +kernel
theorem dX5_reduce_67 : decode cX5_reduce 67 = .ok (.iconst (-1), 1) := by decide +kernel
theorem dX5_reduce_68 : decode cX5_reduce 68 = .ok (.invokestatic 54, 3) := by decide +kernel
theorem dX5_reduce_71 : decode cX5_reduce 71 = .ok (.iinc 2 1, 3) := by decide +kernel
theorem dX5_reduce_74 : decode cX5_reduce 74 = .ok (.goto (-59), 3) := by decide +kernel
theorem dX5_reduce_77 : decode cX5_reduce 77 = .ok (.iconst 1, 1) := by decide +kernel
theorem dX5_reduce_78 : decode cX5_reduce 78 = .ok (.istore_n 2, 1) := by decide +kernel
theorem dX5_reduce_79 : decode cX5_reduce 79 = .ok (.iconst 0, 1) := by decide +kernel
theorem dX5_reduce_80 : decode cX5_reduce 80 = .ok (.istore_n 3, 1) := by decide +kernel
theorem dX5_reduce_81 : decode cX5_reduce 81 = .ok (.iload_n 3, 1) := by decide +kernel
theorem dX5_reduce_82 : decode cX5_reduce 82 = .ok (.bipush 120, 2) := by decide +kernel
theorem dX5_reduce_84 : decode cX5_reduce 84 = .ok (.if_icmp .ge 18, 3) := by decide +kernel
theorem dX5_reduce_87 : decode cX5_reduce 87 = .ok (.iload_n 2, 1) := by decide +kernel
theorem dX5_reduce_88 : decode cX5_reduce 88 = .ok (.ifCond .eq 14, 3) := by decide +kernel
theorem dX5_reduce_91 : decode cX5_reduce 91 = .ok (.aload_n 0, 1) := by decide +kernel
theorem dX5_reduce_92 : decode cX5_reduce 92 = .ok (.invokevirtual 57, 3) := by decide +kernel
theorem dX5_reduce_95 : decode cX5_reduce 95 = .ok (.istore_n 2, 1) := by decide +kernel
theorem dX5_reduce_96 : decode cX5_reduce 96 = .ok (.iinc 3 1, 3) := by decide +kernel
theorem dX5_reduce_99 : decode cX5_reduce 99 = .ok (.goto (-18), 3) := by decide +kernel
theorem dX5_reduce_102 : decode cX5_reduce 102 = .ok (.return_, 1) := by decide +kernel
theorem mw_118 : Cond.fieldLink RX4 21 "OrielChart$Ranks" "onward" "[J" ∈ GW := gw_mem (inT1 _ (List.mem_of_getElem? (i := 138) rfl)) rfl
theorem mw_119 : Cond.code yX7_put_ cX7_put_ 4 (none : Option FieldType) ∈ GW := gw_mem (inT2 _ (List.mem_of_getElem? (i := 130) rfl)) rfl
theorem mw_120 : Cond.static yX7_put_ ∈ GW := gw_mem (inT2 _ (List.mem_of_getElem? (i := 129) rfl)) rfl
theorem mw_121 : Cond.code yX4_sortEdges cX4_sortEdges 5 (none : Option FieldType) ∈ GW := gw_mem (inT2 _ (List.mem_of_getElem? (i := 184) rfl)) rfl
theorem mw_122 : Cond.methodLink RX4 42 yX4_sortEdges ∈ GW := gw_mem (inT2 _ (List.mem_of_getElem? (i := 181) rfl)) rfl
theorem mw_123 : Cond.instanceMethod yX4_sortEdges ∈ GW := gw_mem (inT2 _ (List.mem_of_getElem? (i := 183) rfl)) rfl
theorem mw_124 : Cond.selects RX4 yX4_sortEdges yX4_sortEdges ∈ GW := gw_mem (inTp (q := (yX4_sortEdges, 7)) (List.mem_of_getElem? (i := 5) rfl)) rfl
theorem mw_125 : Cond.initialized RX4 ∈ GW := gw_mem (inT1 _ (List.mem_of_getElem? (i := 4) rfl)) rfl
theorem mw_126 : Cond.fieldLink RX4 46 "OrielChart$Ranks" "loopCount" "I" ∈ GW := gw_mem (inT1 _ (List.mem_of_getElem? (i := 139) rfl)) rfl
theorem mw_127 : Cond.fieldLink RX4 50 "OrielChart$Ranks" "tame" "Z" ∈ GW := gw_mem (inT1 _ (List.mem_of_getElem? (i := 141) rfl)) rfl
theorem mw_128 : Cond.fieldLink RX4 9 "OrielChart$Ranks" "ruled" "[J" ∈ GW := gw_mem (inT1 _ (List.mem_of_getElem? (i := 134) rfl)) rfl
theorem mw_129 : Cond.code yX7_has cX7_has 3 (some Jvm.ClassFile.FieldType.boolean) ∈ GW := gw_mem (inT2 _ (List.mem_of_getElem? (i := 124) rfl)) rfl
theorem mw_130 : Cond.static yX7_has ∈ GW := gw_mem (inT2 _ (List.mem_of_getElem? (i := 123) rfl)) rfl
theorem mw_131 : Cond.fieldLink RX4 18 "OrielChart$Ranks" "previous" "[J" ∈ GW := gw_mem (inT1 _ (List.mem_of_getElem? (i := 137) rfl)) rfl
theorem mw_132 : Cond.fieldLink RX4 15 "OrielChart$Ranks" "loop" "[J" ∈ GW := gw_mem (inT1 _ (List.mem_of_getElem? (i := 135) rfl)) rfl
theorem mw_133 : Cond.fieldLink RX7 26 "OrielChart" "ranks" "LOrielChart$Ranks;" ∈ GW := gw_mem (inT2 _ (List.mem_of_getElem? (i := 73) rfl)) rfl
theorem mw_134 : Cond.code yX7_freshFlow cX7_freshFlow 1 (some (Jvm.ClassFile.FieldType.object "OrielChart$Flow")) ∈ GW := gw_mem (inT2 _ (List.mem_of_getElem? (i := 101) rfl)) rfl
theorem mw_135 : Cond.methodLink RX7 123 yX7_freshFlow ∈ GW := gw_mem (inT2 _ (List.mem_of_getElem? (i := 98) rfl)) rfl
theorem mw_136 : Cond.instanceMethod yX7_freshFlow ∈ GW := gw_mem (inT2 _ (List.mem_of_getElem? (i := 100) rfl)) rfl
theorem mw_137 : Cond.selects RX7 yX7_freshFlow yX7_freshFlow ∈ GW := gw_mem (inTp (q := (yX7_freshFlow, 6)) (List.mem_of_getElem? (i := 0) rfl)) rfl
theorem mw_138 : Cond.code yX4_rank cX4_rank 3 (none : Option FieldType) ∈ GW := gw_mem (inT2 _ (List.mem_of_getElem? (i := 172) rfl)) rfl
theorem mw_139 : Cond.methodLink RX7 341 yX4_rank ∈ GW := gw_mem (inT2 _ (List.mem_of_getElem? (i := 169) rfl)) rfl
theorem mw_140 : Cond.instanceMethod yX4_rank ∈ GW := gw_mem (inT2 _ (List.mem_of_getElem? (i := 170) rfl)) rfl
theorem mw_141 : Cond.selects RX4 yX4_rank yX4_rank ∈ GW := gw_mem (inT2 _ (List.mem_of_getElem? (i := 171) rfl)) rfl
theorem mw_142 : Cond.code yX2_passUp cX2_passUp 7 (some Jvm.ClassFile.FieldType.boolean) ∈ GW := gw_mem (inT2 _ (List.mem_of_getElem? (i := 215) rfl)) rfl
theorem mw_143 : Cond.methodLink RX2 19 yX2_passUp ∈ GW := gw_mem (inT2 _ (List.mem_of_getElem? (i := 212) rfl)) rfl
theorem mw_144 : Cond.instanceMethod yX2_passUp ∈ GW := gw_mem (inT2 _ (List.mem_of_getElem? (i := 214) rfl)) rfl
theorem mw_145 : Cond.selects RX2 yX2_passUp yX2_passUp ∈ GW := gw_mem (inTp (q := (yX2_passUp, 3)) (List.mem_of_getElem? (i := 8) rfl)) rfl
theorem mw_146 : Cond.initialized RX2 ∈ GW := gw_mem (inT1 _ (List.mem_of_getElem? (i := 5) rfl)) rfl
theorem mw_147 : Cond.fieldLink RX2 23 "OrielChart$Lives" "vainCount" "I" ∈ GW := gw_mem (inT1 _ (List.mem_of_getElem? (i := 167) rfl)) rfl
theorem mw_148 : Cond.fieldLink RX2 9 "OrielChart$Lives" "live" "[I" ∈ GW := gw_mem (inT1 _ (List.mem_of_getElem? (i := 165) rfl)) rfl
theorem mw_149 : Cond.code yX7_bit cX7_bit 1 (some Jvm.ClassFile.FieldType.long) ∈ GW := gw_mem (inT2 _ (List.mem_of_getElem? (i := 114) rfl)) rfl
theorem mw_150 : Cond.static yX7_bit ∈ GW := gw_mem (inT2 _ (List.mem_of_getElem? (i := 113) rfl)) rfl
theorem mw_151 : Cond.constantLong RX5 76 (-1) ∈ GW := gw_mem (inT3 _ (List.mem_of_getElem? (i := 24) rfl)) rfl
theorem mw_152 : Cond.fieldLink RX5 9 "OrielChart$Reduction" "next" "[J" ∈ GW := gw_mem (inT1 _ (List.mem_of_getElem? (i := 183) rfl)) rfl
theorem mw_153 : Cond.code yX7_at_ cX7_at_ 2 (some Jvm.ClassFile.FieldType.long) ∈ GW := gw_mem (inT2 _ (List.mem_of_getElem? (i := 141) rfl)) rfl
theorem mw_154 : Cond.static yX7_at_ ∈ GW := gw_mem (inT2 _ (List.mem_of_getElem? (i := 140) rfl)) rfl
theorem mw_155 : Cond.fieldLink RX5 25 "OrielChart$Reduction" "entry" "[I" ∈ GW := gw_mem (inT1 _ (List.mem_of_getElem? (i := 190) rfl)) rfl
theorem mw_156 : Cond.code yX5_findEntries cX5_findEntries 11 (none : Option FieldType) ∈ GW := gw_mem (inT3 _ (List.mem_of_getElem? (i := 22) rfl)) rfl
theorem mw_157 : Cond.methodLink RX5 61 yX5_findEntries ∈ GW := gw_mem (inT3 _ (List.mem_of_getElem? (i := 19) rfl)) rfl
theorem mw_158 : Cond.instanceMethod yX5_findEntries ∈ GW := gw_mem (inT3 _ (List.mem_of_getElem? (i := 21) rfl)) rfl
theorem mw_159 : Cond.selects RX5 yX5_findEntries yX5_findEntries ∈ GW := gw_mem (inTp (q := (yX5_findEntries, 8)) (List.mem_of_getElem? (i := 13) rfl)) rfl
theorem mw_160 : Cond.initialized RX5 ∈ GW := gw_mem (inT1 _ (List.mem_of_getElem? (i := 6) rfl)) rfl
theorem mw_161 : Cond.fieldLink RX5 34 "OrielChart$Reduction" "nodes" "J" ∈ GW := gw_mem (inT1 _ (List.mem_of_getElem? (i := 191) rfl)) rfl
theorem mw_162 : Cond.fieldLink RX5 37 "OrielChart$Reduction" "stepCount" "I" ∈ GW := gw_mem (inT1 _ (List.mem_of_getElem? (i := 193) rfl)) rfl
theorem mw_163 : Cond.code yX5_takeStep cX5_takeStep 3 (some Jvm.ClassFile.FieldType.boolean) ∈ GW := gw_mem (inT3 _ (List.mem_of_getElem? (i := 18) rfl)) rfl
theorem mw_164 : Cond.methodLink RX5 57 yX5_takeStep ∈ GW := gw_mem (inT3 _ (List.mem_of_getElem? (i := 15) rfl)) rfl
theorem mw_165 : Cond.instanceMethod yX5_takeStep ∈ GW := gw_mem (inT3 _ (List.mem_of_getElem? (i := 17) rfl)) rfl
theorem mw_166 : Cond.selects RX5 yX5_takeStep yX5_takeStep ∈ GW := gw_mem (inTp (q := (yX5_takeStep, 8)) (List.mem_of_getElem? (i := 12) rfl)) rfl
theorem mw_167 : Cond.fieldLink RX5 15 "OrielChart$Reduction" "home" "[I" ∈ GW := gw_mem (inT1 _ (List.mem_of_getElem? (i := 184) rfl)) rfl
theorem pd_X7_put_ : yX7_put_.cls ≠ "java/lang/invoke/MethodHandle" ∧ yX7_put_.cls ≠ "java/lang/invoke/VarHandle" ∧ (parseMethodDescriptor yX7_put_.desc).map (fun d => d.parameters.length) = some 3 := by decide +kernel
theorem pdv_X4_sortEdges : yX4_sortEdges.cls = RX4 ∧ yX4_sortEdges.cls ≠ "java/lang/invoke/MethodHandle" ∧ yX4_sortEdges.cls ≠ "java/lang/invoke/VarHandle" ∧ (parseMethodDescriptor yX4_sortEdges.desc).map (fun d => d.parameters.length) = some 1 := by decide +kernel
theorem pd_X7_has : yX7_has.cls ≠ "java/lang/invoke/MethodHandle" ∧ yX7_has.cls ≠ "java/lang/invoke/VarHandle" ∧ (parseMethodDescriptor yX7_has.desc).map (fun d => d.parameters.length) = some 2 := by decide +kernel
theorem pdv_X7_freshFlow : yX7_freshFlow.cls = RX7 ∧ yX7_freshFlow.cls ≠ "java/lang/invoke/MethodHandle" ∧ yX7_freshFlow.cls ≠ "java/lang/invoke/VarHandle" ∧ (parseMethodDescriptor yX7_freshFlow.desc).map (fun d => d.parameters.length) = some 0 := by decide +kernel
theorem pdv_X4_rank : yX4_rank.cls = RX4 ∧ yX4_rank.cls ≠ "java/lang/invoke/MethodHandle" ∧ yX4_rank.cls ≠ "java/lang/invoke/VarHandle" ∧ (parseMethodDescriptor yX4_rank.desc).map (fun d => d.parameters.length) = some 1 := by decide +kernel
theorem pdv_X2_passUp : yX2_passUp.cls = RX2 ∧ yX2_passUp.cls ≠ "java/lang/invoke/MethodHandle" ∧ yX2_passUp.cls ≠ "java/lang/invoke/VarHandle" ∧ (parseMethodDescriptor yX2_passUp.desc).map (fun d => d.parameters.length) = some 2 := by decide +kernel
theorem pd_X7_bit : yX7_bit.cls ≠ "java/lang/invoke/MethodHandle" ∧ yX7_bit.cls ≠ "java/lang/invoke/VarHandle" ∧ (parseMethodDescriptor yX7_bit.desc).map (fun d => d.parameters.length) = some 1 := by decide +kernel
theorem pd_X7_at_ : yX7_at_.cls ≠ "java/lang/invoke/MethodHandle" ∧ yX7_at_.cls ≠ "java/lang/invoke/VarHandle" ∧ (parseMethodDescriptor yX7_at_.desc).map (fun d => d.parameters.length) = some 2 := by decide +kernel
theorem pdv_X5_findEntries : yX5_findEntries.cls = RX5 ∧ yX5_findEntries.cls ≠ "java/lang/invoke/MethodHandle" ∧ yX5_findEntries.cls ≠ "java/lang/invoke/VarHandle" ∧ (parseMethodDescriptor yX5_findEntries.desc).map (fun d => d.parameters.length) = some 0 := by decide +kernel
theorem pdv_X5_takeStep : yX5_takeStep.cls = RX5 ∧ yX5_takeStep.cls ≠ "java/lang/invoke/MethodHandle" ∧ yX5_takeStep.cls ≠ "java/lang/invoke/VarHandle" ∧ (parseMethodDescriptor yX5_takeStep.desc).map (fun d => d.parameters.length) = some 0 := by decide +kernel
set_option maxHeartbeats 4000000 in
set_option maxRecDepth 100000 in
theorem c_sortEdges (l : Launch) (D : va_G) (cI cJ cZ : ClassId) (ad : Nat → Nat) (b : Nat → Int32) (F : Nat → Nat → Int32) (G : Nat → Nat → Int64) (R : va_W) : CT l D (TY cI cJ cZ) yX4_sortEdges (.code yX4_sortEdges cX4_sortEdges 5 (none : Option FieldType)) 1 0 0 (XW ad cI cJ 0 b F G ++ R) [.ref (ad 3), .ref (ad 2)] (QV D (TY cI cJ cZ) (fun u => ∃ F' G', u = XW ad cI cJ 0 b F' G' ++ R)) := by
  refine ent (by decide) (Nat.le_of_ble_eq_true rfl) ?_
  intro p e s m below meth c ls A hx hb hr hg hown hml hlocks hnm hP hK hD hS hA hN hl
  have hl : lv_has ls 5 [(0, .ref (ad 3)), (1, .ref (ad 2))] := hl
  refine lv_iconst (v := 0) hx hb dX4_sortEdges_0 (by decide) ?_
  refine lv_istore_n (lv' := [(2, .int 0), (0, .ref (ad 3)), (1, .ref (ad 2))]) hx hb dX4_sortEdges_1 rfl hl (by decide) rfl (fun ls hl => ?_)
  -- the loop at 2
  refine w_loop (σ := (Nat → Nat → Int32) × (Nat → Nat → Int64)) (fun (i : Nat) (u_1 : (Nat → Nat → Int32) × (Nat → Nat → Int64)) (H : Heap) (locs : List Loc) (ls : Array Slot) => (True) ∧ va_P D vwCl (XW ad cI cJ 0 b u_1.1 u_1.2 ++ R) H ∧ va_D A (XW ad cI cJ 0 b u_1.1 u_1.2 ++ R) ∧ va_S A s.heap H locs ∧ lv_has ls 5 [(0, .ref (ad 3)), (1, .ref (ad 2)), (2, .int (nI i))]) 40 (fun u_1 H locs ls hI => ?_) (fun i u_1 H locs ls hi hI ih => ?_) 0 (F, G) (Nat.zero_le _) ⟨trivial, hP, hD, hS, by rw [nI_0]; exact lv_sub hl [1, 2, 0] rfl⟩
  · obtain ⟨hF_1, hP, hD, hS, hl⟩ := hI
    have hP : va_P D vwCl (XW ad cI cJ 0 b u_1.1 u_1.2 ++ R) H := hP
    have hD : va_D A (XW ad cI cJ 0 b u_1.1 u_1.2 ++ R) := hD
    have hl : lv_has ls 5 [(0, .ref (ad 3)), (1, .ref (ad 2)), (2, .int (nI 40))] := hl
    refine lv_iload_n hx hb dX4_sortEdges_2 rfl (lv_at hl 2 rfl) ?_
    refine lv_bipush (v := 40) hx hb dX4_sortEdges_3 (by decide) ?_
    refine lv_icmp_ge (tgt := 23) hx hb dX4_sortEdges_5 (by decide) (fun c_5 => ?_) (fun c_5 => absurd (by decide) c_5)
    refine lv_iconst (v := 0) hx hb dX4_sortEdges_23 (by decide) ?_
    refine lv_istore_n (lv' := [(2, .int 0), (0, .ref (ad 3)), (1, .ref (ad 2))]) hx hb dX4_sortEdges_24 rfl hl (by decide) rfl (fun ls hl => ?_)
    refine lv_iload_n hx hb dX4_sortEdges_25 rfl (lv_at hl 0 rfl) ?_
    refine lv_aload_n hx hb dX4_sortEdges_26 rfl (lv_at hl 2 rfl) ?_
    refine va_getN (D := D) (ci := 1) (v := .int 0) (C := RX1) (T := TX1) (N := 11) hx hb hg inGX1 hown hK hP 2 rfl rfl 8 (by decide) (hN.use nw_30) (fun _ h9 => h9) rfl dX4_sortEdges_27 ?_
    refine lv_icmp_ge (tgt := 129) hx hb dX4_sortEdges_30 (by decide) (fun c_30 => ?_) (fun c_30 => absurd (by decide) c_30)
    exact W.vret hx hb hr (fun t ht hW => ⟨⟨(XW ad cI cJ 0 b u_1.1 u_1.2 ++ R), rfl, ⟨_, _, rfl⟩, ⟨by rw [ht]; exact hP, va_K.moved hW.alike hK, hD⟩⟩, hS.F ht⟩) hS.2.2 dX4_sortEdges_129
  · obtain ⟨hF_1, hP, hD, hS, hl⟩ := hI
    have hP : va_P D vwCl (XW ad cI cJ 0 b u_1.1 u_1.2 ++ R) H := hP
    have hD : va_D A (XW ad cI cJ 0 b u_1.1 u_1.2 ++ R) := hD
    have hl : lv_has ls 5 [(0, .ref (ad 3)), (1, .ref (ad 2)), (2, .int (nI i))] := hl
    refine lv_iload_n hx hb dX4_sortEdges_2 rfl (lv_at hl 2 rfl) ?_
    refine lv_bipush (v := 40) hx hb dX4_sortEdges_3 (by decide) ?_
    refine lv_icmp_ge (tgt := 23) hx hb dX4_sortEdges_5 (by decide) (fun c_5 => absurd c_5 (nI_ge hi (by decide))) (fun c_5 => ?_)
    refine lv_aload_n hx hb dX4_sortEdges_8 rfl (lv_at hl 0 rfl) ?_
    refine va_get (D := D) (ci := 4) (v := .ref (ad 22)) (C := RX4) (T := TX4) (N := 7) hx hb hg inGX4 hown hK hP 3 rfl rfl 3 (by decide) (hg _ mw_118) (fun _ h9 => h9) rfl dX4_sortEdges_9 ?_
    refine lv_iload_n hx hb dX4_sortEdges_12 rfl (lv_at hl 2 rfl) ?_
    refine lv_lconst (v := 0) hx hb dX4_sortEdges_13 (by decide) ?_
    refine kV (rSN hx hb hml hown hg hN hK hP hD (c_putL l D cI cJ cZ (XW ad cI cJ 0 b u_1.1 u_1.2 ++ R) 22 (ad 22) 40 (u_1.2 22) (nI i) 0 rfl (by decide)) mw_119 nw_76 mw_120 mw_110 pd_X7_put_ ⟨Nat.le_of_ble_eq_true rfl, Nat.le_of_ble_eq_true rfl⟩ rfl hl.1 rfl (Nat.le_of_ble_eq_true rfl) dX4_sortEdges_14 ⟨Nat.le_of_ble_eq_true rfl, Nat.le_of_ble_eq_true rfl⟩) hD hS hA (fun u_2 H locs hp hP hD hS => ?_)
    obtain ⟨f_3, rfl, hp1, hp2⟩ := hp
    have hP : va_P D vwCl (XW ad cI cJ 0 b u_1.1 (va_up u_1.2 22 f_3) ++ R) H := hP
    have hD : va_D A (XW ad cI cJ 0 b u_1.1 (va_up u_1.2 22 f_3) ++ R) := hD
    refine lv_iinc (v := nI (i + 1)) (lv' := [(2, .int (nI (i + 1))), (0, .ref (ad 3)), (1, .ref (ad 2))]) hx hb dX4_sortEdges_17 hl (k := 2) rfl (nI_1 i) (by decide) rfl (fun ls hl => ?_)
    refine lv_goto (tgt := 2) hx hb dX4_sortEdges_20 (by decide) ?_
    exact ih (u_1.1, (va_up u_1.2 22 f_3)) H locs ls ⟨trivial, hP, hD, hS, lv_sub hl [1, 2, 0] rfl⟩
set_option maxHeartbeats 4000000 in
set_option maxRecDepth 100000 in
theorem c_rank (l : Launch) (D : va_G) (cI cJ cZ : ClassId) (ad : Nat → Nat) (b : Nat → Int32) (F : Nat → Nat → Int32) (G : Nat → Nat → Int64) (R : va_W) : CT l D (TY cI cJ cZ) yX4_rank (.code yX4_rank cX4_rank 3 (none : Option FieldType)) 2 0 0 (XW ad cI cJ 0 b F G ++ R) [.ref (ad 3), .ref (ad 2)] (QV D (TY cI cJ cZ) (fun u => ∃ F' G', u = XW ad cI cJ 0 (va_up b 1 1) F' G' ++ R)) := by
  refine ent (by decide) (Nat.le_of_ble_eq_true rfl) ?_
  intro p e s m below meth c ls A hx hb hr hg hown hml hlocks hnm hP hK hD hS hA hN hl
  have hl : lv_has ls 3 [(0, .ref (ad 3)), (1, .ref (ad 2))] := hl
  refine lv_iconst (v := 0) hx hb dX4_rank_0 (by decide) ?_
  refine lv_istore_n (lv' := [(2, .int 0), (0, .ref (ad 3)), (1, .ref (ad 2))]) hx hb dX4_rank_1 rfl hl (by decide) rfl (fun ls hl => ?_)
  -- the loop at 2
  refine w_loop (σ := (Nat → Nat → Int32) × (Nat → Nat → Int64)) (fun (i : Nat) (u_1 : (Nat → Nat → Int32) × (Nat → Nat → Int64)) (H : Heap) (locs : List Loc) (ls : Array Slot) => (True) ∧ va_P D vwCl (XW ad cI cJ 0 b u_1.1 u_1.2 ++ R) H ∧ va_D A (XW ad cI cJ 0 b u_1.1 u_1.2 ++ R) ∧ va_S A s.heap H locs ∧ lv_has ls 3 [(0, .ref (ad 3)), (1, .ref (ad 2)), (2, .int (nI i))]) 40 (fun u_1 H locs ls hI => ?_) (fun i u_1 H locs ls hi hI ih => ?_) 0 (F, G) (Nat.zero_le _) ⟨trivial, hP, hD, hS, by rw [nI_0]; exact lv_sub hl [1, 2, 0] rfl⟩
  · obtain ⟨hF_1, hP, hD, hS, hl⟩ := hI
    have hP : va_P D vwCl (XW ad cI cJ 0 b u_1.1 u_1.2 ++ R) H := hP
    have hD : va_D A (XW ad cI cJ 0 b u_1.1 u_1.2 ++ R) := hD
    have hl : lv_has ls 3 [(0, .ref (ad 3)), (1, .ref (ad 2)), (2, .int (nI 40))] := hl
    refine lv_iload_n hx hb dX4_rank_2 rfl (lv_at hl 2 rfl) ?_
    refine lv_bipush (v := 40) hx hb dX4_rank_3 (by decide) ?_
    refine lv_icmp_ge (tgt := 60) hx hb dX4_rank_5 (by decide) (fun c_5 => ?_) (fun c_5 => absurd (by decide) c_5)
    refine lv_aload_n hx hb dX4_rank_60 rfl (lv_at hl 0 rfl) ?_
    refine lv_aload_n hx hb dX4_rank_61 rfl (lv_at hl 1 rfl) ?_
    refine kV (rV (q0 := 3) (ci := 4) hx hb hml hown hg hN hK hP hD (c_sortEdges l D cI cJ cZ ad b u_1.1 u_1.2 R) mw_121 mw_122 mw_123 mw_124 mw_125 pdv_X4_sortEdges ⟨Nat.le_of_ble_eq_true rfl, Nat.le_of_ble_eq_true rfl⟩ rfl rfl rfl hl.1 rfl (Nat.le_of_ble_eq_true rfl) dX4_rank_62 ⟨Nat.le_of_ble_eq_true rfl, Nat.le_of_ble_eq_true rfl⟩) hD hS hA (fun u_2 H locs hp hP hD hS => ?_)
    obtain ⟨F_4, G_5, rfl⟩ := hp
    refine lv_aload_n hx hb dX4_rank_65 rfl (lv_at hl 0 rfl) ?_
    refine lv_iconst (v := 0) hx hb dX4_rank_66 (by decide) ?_
    refine va_put (D := D) (ci := 4) (v := .int 0) (C := RX4) (T := TX4) (N := 7) hx hb hg inGX4 tyX4 tyX4_ok nmX4 hown hK hP hD hS 3 rfl rfl 4 (by decide) (hg _ mw_126) (fun _ h9 => h9) rfl (tyX4_ok 4 (by decide)) rfl rfl (Nat.le_of_ble_eq_true rfl) dX4_rank_67 (fun H locs hP hD hS => ?_)
    have hP : va_P D vwCl (XW ad cI cJ 0 b F_4 G_5 ++ R) H := hP
    have hD : va_D A (XW ad cI cJ 0 b F_4 G_5 ++ R) := hD
    refine lv_aload_n hx hb dX4_rank_70 rfl (lv_at hl 0 rfl) ?_
    refine lv_iconst (v := 1) hx hb dX4_rank_71 (by decide) ?_
    refine va_put (D := D) (ci := 4) (v := .int 1) (C := RX4) (T := TX4) (N := 7) hx hb hg inGX4 tyX4 tyX4_ok nmX4 hown hK hP hD hS 3 rfl rfl 5 (by decide) (hg _ mw_127) (fun _ h9 => h9) rfl (tyX4_ok 5 (by decide)) rfl rfl (Nat.le_of_ble_eq_true rfl) dX4_rank_72 (fun H locs hP hD hS => ?_)
    have hP : va_P D vwCl (XW ad cI cJ 0 (va_up b 1 1) F_4 G_5 ++ R) H := hP
    have hD : va_D A (XW ad cI cJ 0 (va_up b 1 1) F_4 G_5 ++ R) := hD
    refine lv_iconst (v := 0) hx hb dX4_rank_75 (by decide) ?_
    refine lv_istore_n (lv' := [(2, .int 0), (0, .ref (ad 3)), (1, .ref (ad 2))]) hx hb dX4_rank_76 rfl hl (by decide) rfl (fun ls hl => ?_)
    refine lv_iload_n hx hb dX4_rank_77 rfl (lv_at hl 0 rfl) ?_
    refine lv_aload_n hx hb dX4_rank_78 rfl (lv_at hl 2 rfl) ?_
    refine va_getN (D := D) (ci := 1) (v := .int 0) (C := RX1) (T := TX1) (N := 11) hx hb hg inGX1 hown hK hP 2 rfl rfl 7 (by decide) (hN.use nw_27) (fun _ h9 => h9) rfl dX4_rank_79 ?_
    refine lv_icmp_ge (tgt := 124) hx hb dX4_rank_82 (by decide) (fun c_82 => ?_) (fun c_82 => absurd (by decide) c_82)
    exact W.vret hx hb hr (fun t ht hW => ⟨⟨(XW ad cI cJ 0 (va_up b 1 1) F_4 G_5 ++ R), rfl, ⟨_, _, rfl⟩, ⟨by rw [ht]; exact hP, va_K.moved hW.alike hK, hD⟩⟩, hS.F ht⟩) hS.2.2 dX4_rank_124
  · obtain ⟨hF_1, hP, hD, hS, hl⟩ := hI
    have hP : va_P D vwCl (XW ad cI cJ 0 b u_1.1 u_1.2 ++ R) H := hP
    have hD : va_D A (XW ad cI cJ 0 b u_1.1 u_1.2 ++ R) := hD
    have hl : lv_has ls 3 [(0, .ref (ad 3)), (1, .ref (ad 2)), (2, .int (nI i))] := hl
    refine lv_iload_n hx hb dX4_rank_2 rfl (lv_at hl 2 rfl) ?_
    refine lv_bipush (v := 40) hx hb dX4_rank_3 (by decide) ?_
    refine lv_icmp_ge (tgt := 60) hx hb dX4_rank_5 (by decide) (fun c_5 => absurd c_5 (nI_ge hi (by decide))) (fun c_5 => ?_)
    refine lv_aload_n hx hb dX4_rank_8 rfl (lv_at hl 0 rfl) ?_
    refine va_get (D := D) (ci := 4) (v := .ref (ad 19)) (C := RX4) (T := TX4) (N := 7) hx hb hg inGX4 hown hK hP 3 rfl rfl 0 (by decide) (hg _ mw_128) (fun _ h9 => h9) rfl dX4_rank_9 ?_
    refine lv_iload_n hx hb dX4_rank_12 rfl (lv_at hl 2 rfl) ?_
    refine lv_aload_n hx hb dX4_rank_13 rfl (lv_at hl 1 rfl) ?_
    refine va_getN (D := D) (ci := 1) (v := .long 0) (C := RX1) (T := TX1) (N := 11) hx hb hg inGX1 hown hK hP 2 rfl rfl 9 (by decide) (hN.use nw_33) (fun _ h9 => h9) rfl dX4_rank_14 ?_
    refine lv_iload_n hx hb dX4_rank_17 rfl (lv_at hl 2 rfl) ?_
    refine kI (rSN hx hb hml hown hg hN hK hP hD (c_has0 l D cI cJ cZ (XW ad cI cJ 0 b u_1.1 u_1.2 ++ R) (nI i)) mw_129 nw_73 mw_130 mw_110 pd_X7_has ⟨Nat.le_of_ble_eq_true rfl, Nat.le_of_ble_eq_true rfl⟩ rfl hl.1 rfl (Nat.le_of_ble_eq_true rfl) dX4_rank_18 ⟨Nat.le_of_ble_eq_true rfl, Nat.le_of_ble_eq_true rfl⟩) hD hS hA (fun r_6 u_6 H locs hp hP hD hS => ?_)
    obtain ⟨rfl, rfl⟩ := hp
    refine lv_if_eq (tgt := 32) hx hb dX4_rank_21 (by decide) (fun c_21 => ?_) (fun c_21 => absurd (by decide) c_21)
    refine lv_lconst (v := 0) hx hb dX4_rank_32 (by decide) ?_
    refine kV (rSN hx hb hml hown hg hN hK hP hD (c_putL l D cI cJ cZ (XW ad cI cJ 0 b u_1.1 u_1.2 ++ R) 19 (ad 19) 40 (u_1.2 19) (nI i) 0 rfl (by decide)) mw_119 nw_76 mw_120 mw_110 pd_X7_put_ ⟨Nat.le_of_ble_eq_true rfl, Nat.le_of_ble_eq_true rfl⟩ rfl hl.1 rfl (Nat.le_of_ble_eq_true rfl) dX4_rank_33 ⟨Nat.le_of_ble_eq_true rfl, Nat.le_of_ble_eq_true rfl⟩) hD hS hA (fun u_7 H locs hp hP hD hS => ?_)
    obtain ⟨f_8, rfl, hp1, hp2⟩ := hp
    have hP : va_P D vwCl (XW ad cI cJ 0 b u_1.1 (va_up u_1.2 19 f_8) ++ R) H := hP
    have hD : va_D A (XW ad cI cJ 0 b u_1.1 (va_up u_1.2 19 f_8) ++ R) := hD
    refine lv_aload_n hx hb dX4_rank_36 rfl (lv_at hl 0 rfl) ?_
    refine va_get (D := D) (ci := 4) (v := .ref (ad 21)) (C := RX4) (T := TX4) (N := 7) hx hb hg inGX4 hown hK hP 3 rfl rfl 2 (by decide) (hg _ mw_131) (fun _ h9 => h9) rfl dX4_rank_37 ?_
    refine lv_iload_n hx hb dX4_rank_40 rfl (lv_at hl 2 rfl) ?_
    refine lv_lconst (v := 0) hx hb dX4_rank_41 (by decide) ?_
    refine kV (rSN hx hb hml hown hg hN hK hP hD (c_putL l D cI cJ cZ (XW ad cI cJ 0 b u_1.1 (va_up u_1.2 19 f_8) ++ R) 21 (ad 21) 40 ((va_up u_1.2 19 f_8) 21) (nI i) 0 rfl (by decide)) mw_119 nw_76 mw_120 mw_110 pd_X7_put_ ⟨Nat.le_of_ble_eq_true rfl, Nat.le_of_ble_eq_true rfl⟩ rfl hl.1 rfl (Nat.le_of_ble_eq_true rfl) dX4_rank_42 ⟨Nat.le_of_ble_eq_true rfl, Nat.le_of_ble_eq_true rfl⟩) hD hS hA (fun u_9 H locs hp hP hD hS => ?_)
    obtain ⟨f_10, rfl, hp1, hp2⟩ := hp
    have hP : va_P D vwCl (XW ad cI cJ 0 b u_1.1 (va_up (va_up u_1.2 19 f_8) 21 f_10) ++ R) H := hP
    have hD : va_D A (XW ad cI cJ 0 b u_1.1 (va_up (va_up u_1.2 19 f_8) 21 f_10) ++ R) := hD
    refine lv_aload_n hx hb dX4_rank_45 rfl (lv_at hl 0 rfl) ?_
    refine va_get (D := D) (ci := 4) (v := .ref (ad 20)) (C := RX4) (T := TX4) (N := 7) hx hb hg inGX4 hown hK hP 3 rfl rfl 1 (by decide) (hg _ mw_132) (fun _ h9 => h9) rfl dX4_rank_46 ?_
    refine lv_iload_n hx hb dX4_rank_49 rfl (lv_at hl 2 rfl) ?_
    refine lv_lconst (v := 0) hx hb dX4_rank_50 (by decide) ?_
    refine kV (rSN hx hb hml hown hg hN hK hP hD (c_putL l D cI cJ cZ (XW ad cI cJ 0 b u_1.1 (va_up (va_up u_1.2 19 f_8) 21 f_10) ++ R) 20 (ad 20) 40 ((va_up (va_up u_1.2 19 f_8) 21 f_10) 20) (nI i) 0 rfl (by decide)) mw_119 nw_76 mw_120 mw_110 pd_X7_put_ ⟨Nat.le_of_ble_eq_true rfl, Nat.le_of_ble_eq_true rfl⟩ rfl hl.1 rfl (Nat.le_of_ble_eq_true rfl) dX4_rank_51 ⟨Nat.le_of_ble_eq_true rfl, Nat.le_of_ble_eq_true rfl⟩) hD hS hA (fun u_11 H locs hp hP hD hS => ?_)
    obtain ⟨f_12, rfl, hp1, hp2⟩ := hp
    have hP : va_P D vwCl (XW ad cI cJ 0 b u_1.1 (va_up (va_up (va_up u_1.2 19 f_8) 21 f_10) 20 f_12) ++ R) H := hP
    have hD : va_D A (XW ad cI cJ 0 b u_1.1 (va_up (va_up (va_up u_1.2 19 f_8) 21 f_10) 20 f_12) ++ R) := hD
    refine lv_iinc (v := nI (i + 1)) (lv' := [(2, .int (nI (i + 1))), (0, .ref (ad 3)), (1, .ref (ad 2))]) hx hb dX4_rank_54 hl (k := 2) rfl (nI_1 i) (by decide) rfl (fun ls hl => ?_)
    refine lv_goto (tgt := 2) hx hb dX4_rank_57 (by decide) ?_
    exact ih (u_1.1, (va_up (va_up (va_up u_1.2 19 f_8) 21 f_10) 20 f_12)) H locs ls ⟨trivial, hP, hD, hS, lv_sub hl [1, 2, 0] rfl⟩
set_option maxHeartbeats 4000000 in
set_option maxRecDepth 100000 in
theorem c_freshRanks (l : Launch) (D : va_G) (cI cJ cZ : ClassId) (ad : Nat → Nat) (b : Nat → Int32) (F : Nat → Nat → Int32) (G : Nat → Nat → Int64) (R : va_W) (hb2 : b 2 = 0) : CT l D (TY cI cJ cZ) yX7_freshRanks (.code yX7_freshRanks cX7_freshRanks 1 (some (Jvm.ClassFile.FieldType.object "OrielChart$Ranks"))) 4 0 0 (XW ad cI cJ 0 b F G ++ R) [.ref (ad 0)] (QR D (TY cI cJ cZ) (fun r u => r = ad 3 ∧ ∃ b' F' G', u = XW ad cI cJ 0 b' F' G' ++ R ∧ b' 1 = 1 ∧ ∀ k, k ≠ 0 → k ≠ 1 → k ≠ 2 → b' k = b k)) := by
  refine ent (by decide) (Nat.le_of_ble_eq_true rfl) ?_
  intro p e s m below meth c ls A hx hb hr hg hown hml hlocks hnm hP hK hD hS hA hN hl
  have hl : lv_has ls 1 [(0, .ref (ad 0))] := hl
  refine lv_aload_n hx hb dX7_freshRanks_0 rfl (lv_at hl 0 rfl) ?_
  refine va_get (D := D) (ci := 7) (v := .ref (ad 3)) (C := RX7) (T := TX7) (N := 6) hx hb hg inGX7 hown hK hP 0 rfl rfl 2 (by decide) (hg _ mw_133) (fun _ h9 => h9) rfl dX7_freshRanks_1 ?_
  refine va_getN (D := D) (ci := 4) (v := .int (b 2)) (C := RX4) (T := TX4) (N := 7) hx hb hg inGX4 hown hK hP 3 rfl rfl 6 (by decide) (hN.use nw_41) (fun _ h9 => h9) rfl dX7_freshRanks_4 ?_
  refine lv_if_ne (tgt := 29) hx hb dX7_freshRanks_7 (by decide) (fun c_7 => absurd hb2 c_7) (fun c_7 => ?_)
  refine lv_aload_n hx hb dX7_freshRanks_10 rfl (lv_at hl 0 rfl) ?_
  refine va_get (D := D) (ci := 7) (v := .ref (ad 3)) (C := RX7) (T := TX7) (N := 6) hx hb hg inGX7 hown hK hP 0 rfl rfl 2 (by decide) (hg _ mw_133) (fun _ h9 => h9) rfl dX7_freshRanks_11 ?_
  refine lv_aload_n hx hb dX7_freshRanks_14 rfl (lv_at hl 0 rfl) ?_
  refine kR (rV (q0 := 0) (ci := 7) hx hb hml hown hg hN hK hP hD (c_freshFlow l D cI cJ cZ ad b F G R) mw_134 mw_135 mw_136 mw_137 mw_110 pdv_X7_freshFlow ⟨Nat.le_of_ble_eq_true rfl, Nat.le_of_ble_eq_true rfl⟩ rfl rfl rfl hl.1 rfl (Nat.le_of_ble_eq_true rfl) dX7_freshRanks_15 ⟨Nat.le_of_ble_eq_true rfl, Nat.le_of_ble_eq_true rfl⟩) hD hS hA (fun r_1 u_1 H locs hp hP hD hS => ?_)
  obtain ⟨rfl, b_2, F_3, G_4, rfl, hb_2⟩ := hp
  refine kV (rV (q0 := 3) (ci := 4) hx hb hml hown hg hN hK hP hD (c_rank l D cI cJ cZ ad b_2 F_3 G_4 R) mw_138 mw_139 mw_140 mw_141 mw_125 pdv_X4_rank ⟨Nat.le_of_ble_eq_true rfl, Nat.le_of_ble_eq_true rfl⟩ rfl rfl rfl hl.1 rfl (Nat.le_of_ble_eq_true rfl) dX7_freshRanks_18 ⟨Nat.le_of_ble_eq_true rfl, Nat.le_of_ble_eq_true rfl⟩) hD hS hA (fun u_5 H locs hp hP hD hS => ?_)
  obtain ⟨F_7, G_8, rfl⟩ := hp
  refine lv_aload_n hx hb dX7_freshRanks_21 rfl (lv_at hl 0 rfl) ?_
  refine va_get (D := D) (ci := 7) (v := .ref (ad 3)) (C := RX7) (T := TX7) (N := 6) hx hb hg inGX7 hown hK hP 0 rfl rfl 2 (by decide) (hg _ mw_133) (fun _ h9 => h9) rfl dX7_freshRanks_22 ?_
  refine lv_iconst (v := 1) hx hb dX7_freshRanks_25 (by decide) ?_
  refine va_putN (D := D) (ci := 4) (v := .int 1) (C := RX4) (T := TX4) (N := 7) hx hb hg inGX4 tyX4 tyX4_ok nmX4 hown hK hP hD hS 3 rfl rfl 6 (by decide) (hN.use nw_41) (fun _ h9 => h9) rfl (tyX4_ok 6 (by decide)) rfl rfl (Nat.le_of_ble_eq_true rfl) dX7_freshRanks_26 (fun H locs hP hD hS => ?_)
  have hP : va_P D vwCl (XW ad cI cJ 0 (va_up (va_up b_2 1 1) 2 1) F_7 G_8 ++ R) H := hP
  have hD : va_D A (XW ad cI cJ 0 (va_up (va_up b_2 1 1) 2 1) F_7 G_8 ++ R) := hD
  refine lv_aload_n hx hb dX7_freshRanks_29 rfl (lv_at hl 0 rfl) ?_
  refine va_get (D := D) (ci := 7) (v := .ref (ad 3)) (C := RX7) (T := TX7) (N := 6) hx hb hg inGX7 hown hK hP 0 rfl rfl 2 (by decide) (hg _ mw_133) (fun _ h9 => h9) rfl dX7_freshRanks_30 ?_
  exact W.aret (v := .ref (ad 3)) hx hb hr (Or.inl ⟨_, rfl⟩) (Or.inr ⟨_, rfl⟩) (fun t ht hW => ⟨⟨(XW ad cI cJ 0 (va_up (va_up b_2 1 1) 2 1) F_7 G_8 ++ R), (ad 3), rfl, trivial, ⟨rfl, _, _, _, rfl, rfl, fun k h0 h1 h2 => by simp [va_up, h0, h1, h2, hb_2]⟩, ⟨by rw [ht]; exact hP, va_K.moved hW.alike hK, hD⟩⟩, hS.F ht⟩) hS.2.2 dX7_freshRanks_33
set_option maxHeartbeats 4000000 in
set_option maxRecDepth 100000 in
theorem c_passUp (l : Launch) (D : va_G) (cI cJ cZ : ClassId) (ad : Nat → Nat) (b : Nat → Int32) (F : Nat → Nat → Int32) (G : Nat → Nat → Int64) (R : va_W) : CT l D (TY cI cJ cZ) yX2_passUp (.code yX2_passUp cX2_passUp 7 (some Jvm.ClassFile.FieldType.boolean)) 0 0 0 (XW ad cI cJ 0 b F G ++ R) [.ref (ad 4), .ref (ad 1), .ref (ad 2)] (QI D (TY cI cJ cZ) (fun r u => r = 0 ∧ u = XW ad cI cJ 0 b F G ++ R)) := by
  refine ent (by decide) (Nat.le_of_ble_eq_true rfl) ?_
  intro p e s m below meth c ls A hx hb hr hg hown hml hlocks hnm hP hK hD hS hA hN hl
  have hl : lv_has ls 7 [(0, .ref (ad 4)), (1, .ref (ad 1)), (2, .ref (ad 2))] := hl
  refine lv_iconst (v := 0) hx hb dX2_passUp_0 (by decide) ?_
  refine lv_istore_n (lv' := [(3, .int 0), (0, .ref (ad 4)), (1, .ref (ad 1)), (2, .ref (ad 2))]) hx hb dX2_passUp_1 rfl hl (by decide) rfl (fun ls hl => ?_)
  refine lv_aload_n hx hb dX2_passUp_2 rfl (lv_at hl 3 rfl) ?_
  refine va_getN (D := D) (ci := 1) (v := .int 0) (C := RX1) (T := TX1) (N := 11) hx hb hg inGX1 hown hK hP 2 rfl rfl 7 (by decide) (hN.use nw_26) (fun _ h9 => h9) rfl dX2_passUp_3 ?_
  refine lv_iconst (v := 1) hx hb dX2_passUp_6 (by decide) ?_
  refine lv_isub hx hb dX2_passUp_7 ?_
  refine lv_topi (fun v_1 ev_1 => ?_)
  obtain rfl : v_1 = ((-1) : Int32) := ev_1.trans (by decide)
  refine lv_istore (lv' := [(4, .int (-1)), (3, .int 0), (0, .ref (ad 4)), (1, .ref (ad 1)), (2, .ref (ad 2))]) hx hb dX2_passUp_8 hl (by decide) rfl (fun ls hl => ?_)
  refine lv_iload hx hb dX2_passUp_10 (lv_at hl 0 rfl) ?_
  refine lv_if_lt (tgt := 118) hx hb dX2_passUp_12 (by decide) (fun c_12 => ?_) (fun c_12 => absurd (by decide) c_12)
  refine lv_iload_n hx hb dX2_passUp_118 rfl (lv_at hl 1 rfl) ?_
  exact W.zret (v := 0) hx hb hr rfl (fun t ht hW => ⟨⟨0, (XW ad cI cJ 0 b F G ++ R), rfl, ⟨rfl, rfl⟩, ⟨by rw [ht]; exact hP, va_K.moved hW.alike hK, hD⟩⟩, hS.F ht⟩) hS.2.2 dX2_passUp_119
set_option maxHeartbeats 4000000 in
set_option maxRecDepth 100000 in
theorem c_follow (l : Launch) (D : va_G) (cI cJ cZ : ClassId) (ad : Nat → Nat) (b : Nat → Int32) (F : Nat → Nat → Int32) (G : Nat → Nat → Int64) (R : va_W) : CT l D (TY cI cJ cZ) yX2_follow (.code yX2_follow cX2_follow 5 (none : Option FieldType)) 1 0 0 (XW ad cI cJ 0 b F G ++ R) [.ref (ad 4), .ref (ad 1), .ref (ad 2)] (QV D (TY cI cJ cZ) (fun u => ∃ F' G', u = XW ad cI cJ 0 b F' G' ++ R)) := by
  refine ent (by decide) (Nat.le_of_ble_eq_true rfl) ?_
  intro p e s m below meth c ls A hx hb hr hg hown hml hlocks hnm hP hK hD hS hA hN hl
  have hl : lv_has ls 5 [(0, .ref (ad 4)), (1, .ref (ad 1)), (2, .ref (ad 2))] := hl
  refine lv_iconst (v := 0) hx hb dX2_follow_0 (by decide) ?_
  refine lv_istore_n (lv' := [(3, .int 0), (0, .ref (ad 4)), (1, .ref (ad 1)), (2, .ref (ad 2))]) hx hb dX2_follow_1 rfl hl (by decide) rfl (fun ls hl => ?_)
  -- the loop at 2
  refine w_loop (σ := (Nat → Nat → Int32) × (Nat → Nat → Int64)) (fun (i : Nat) (u_1 : (Nat → Nat → Int32) × (Nat → Nat → Int64)) (H : Heap) (locs : List Loc) (ls : Array Slot) => (True) ∧ va_P D vwCl (XW ad cI cJ 0 b u_1.1 u_1.2 ++ R) H ∧ va_D A (XW ad cI cJ 0 b u_1.1 u_1.2 ++ R) ∧ va_S A s.heap H locs ∧ lv_has ls 5 [(0, .ref (ad 4)), (1, .ref (ad 1)), (2, .ref (ad 2)), (3, .int (nI i))]) 40 (fun u_1 H locs ls hI => ?_) (fun i u_1 H locs ls hi hI ih => ?_) 0 (F, G) (Nat.zero_le _) ⟨trivial, hP, hD, hS, by rw [nI_0]; exact lv_sub hl [1, 2, 3, 0] rfl⟩
  · obtain ⟨hF_1, hP, hD, hS, hl⟩ := hI
    have hP : va_P D vwCl (XW ad cI cJ 0 b u_1.1 u_1.2 ++ R) H := hP
    have hD : va_D A (XW ad cI cJ 0 b u_1.1 u_1.2 ++ R) := hD
    have hl : lv_has ls 5 [(0, .ref (ad 4)), (1, .ref (ad 1)), (2, .ref (ad 2)), (3, .int (nI 40))] := hl
    refine lv_iload_n hx hb dX2_follow_2 rfl (lv_at hl 3 rfl) ?_
    refine lv_bipush (v := 40) hx hb dX2_follow_3 (by decide) ?_
    refine lv_icmp_ge (tgt := 23) hx hb dX2_follow_5 (by decide) (fun c_5 => ?_) (fun c_5 => absurd (by decide) c_5)
    refine lv_iconst (v := 1) hx hb dX2_follow_23 (by decide) ?_
    refine lv_istore_n (lv' := [(3, .int 1), (0, .ref (ad 4)), (1, .ref (ad 1)), (2, .ref (ad 2))]) hx hb dX2_follow_24 rfl hl (by decide) rfl (fun ls hl => ?_)
    refine lv_iconst (v := 0) hx hb dX2_follow_25 (by decide) ?_
    refine lv_istore (lv' := [(4, .int 0), (3, .int 1), (0, .ref (ad 4)), (1, .ref (ad 1)), (2, .ref (ad 2))]) hx hb dX2_follow_26 hl (by decide) rfl (fun ls hl => ?_)
    refine lv_iload hx hb dX2_follow_28 (lv_at hl 0 rfl) ?_
    refine lv_bipush (v := 40) hx hb dX2_follow_30 (by decide) ?_
    refine lv_icmp_gt (tgt := 52) hx hb dX2_follow_32 (by decide) (fun c_32 => absurd c_32 (by decide)) (fun c_32 => ?_)
    refine lv_iload_n hx hb dX2_follow_35 rfl (lv_at hl 1 rfl) ?_
    refine lv_if_eq (tgt := 52) hx hb dX2_follow_36 (by decide) (fun c_36 => absurd c_36 (by decide)) (fun c_36 => ?_)
    refine lv_aload_n hx hb dX2_follow_39 rfl (lv_at hl 2 rfl) ?_
    refine lv_aload_n hx hb dX2_follow_40 rfl (lv_at hl 3 rfl) ?_
    refine lv_aload_n hx hb dX2_follow_41 rfl (lv_at hl 4 rfl) ?_
    refine kI (rV (q0 := 4) (ci := 2) hx hb hml hown hg hN hK hP hD (c_passUp l D cI cJ cZ ad b u_1.1 u_1.2 R) mw_142 mw_143 mw_144 mw_145 mw_146 pdv_X2_passUp ⟨Nat.le_of_ble_eq_true rfl, Nat.le_of_ble_eq_true rfl⟩ rfl rfl rfl hl.1 rfl (Nat.le_of_ble_eq_true rfl) dX2_follow_42 ⟨Nat.le_of_ble_eq_true rfl, Nat.le_of_ble_eq_true rfl⟩) hD hS hA (fun r_2 u_2 H locs hp hP hD hS => ?_)
    obtain ⟨rfl, rfl⟩ := hp
    refine lv_istore_n (lv' := [(3, .int 0), (4, .int 0), (0, .ref (ad 4)), (1, .ref (ad 1)), (2, .ref (ad 2))]) hx hb dX2_follow_45 rfl hl (by decide) rfl (fun ls hl => ?_)
    refine lv_iinc (v := 1) (lv' := [(4, .int 1), (3, .int 0), (0, .ref (ad 4)), (1, .ref (ad 1)), (2, .ref (ad 2))]) hx hb dX2_follow_46 hl (k := 1) rfl (by decide) (by decide) rfl (fun ls hl => ?_)
    refine lv_goto (tgt := 28) hx hb dX2_follow_49 (by decide) ?_
    refine lv_iload hx hb dX2_follow_28 (lv_at hl 0 rfl) ?_
    refine lv_bipush (v := 40) hx hb dX2_follow_30 (by decide) ?_
    refine lv_icmp_gt (tgt := 52) hx hb dX2_follow_32 (by decide) (fun c_32 => absurd c_32 (by decide)) (fun c_32 => ?_)
    refine lv_iload_n hx hb dX2_follow_35 rfl (lv_at hl 1 rfl) ?_
    refine lv_if_eq (tgt := 52) hx hb dX2_follow_36 (by decide) (fun c_36 => ?_) (fun c_36 => absurd (by decide) c_36)
    refine lv_aload_n hx hb dX2_follow_52 rfl (lv_at hl 2 rfl) ?_
    refine lv_iconst (v := 0) hx hb dX2_follow_53 (by decide) ?_
    refine va_put (D := D) (ci := 2) (v := .int 0) (C := RX2) (T := TX2) (N := 3) hx hb hg inGX2 tyX2 tyX2_ok nmX2 hown hK hP hD hS 4 rfl rfl 1 (by decide) (hg _ mw_147) (fun _ h9 => h9) rfl (tyX2_ok 1 (by decide)) rfl rfl (Nat.le_of_ble_eq_true rfl) dX2_follow_54 (fun H locs hP hD hS => ?_)
    have hP : va_P D vwCl (XW ad cI cJ 0 b u_1.1 u_1.2 ++ R) H := hP
    have hD : va_D A (XW ad cI cJ 0 b u_1.1 u_1.2 ++ R) := hD
    refine lv_iconst (v := 0) hx hb dX2_follow_57 (by decide) ?_
    refine lv_istore (lv' := [(4, .int 0), (3, .int 0), (0, .ref (ad 4)), (1, .ref (ad 1)), (2, .ref (ad 2))]) hx hb dX2_follow_58 hl (by decide) rfl (fun ls hl => ?_)
    refine lv_iload hx hb dX2_follow_60 (lv_at hl 0 rfl) ?_
    refine lv_aload_n hx hb dX2_follow_62 rfl (lv_at hl 4 rfl) ?_
    refine va_getN (D := D) (ci := 1) (v := .int 0) (C := RX1) (T := TX1) (N := 11) hx hb hg inGX1 hown hK hP 2 rfl rfl 7 (by decide) (hN.use nw_26) (fun _ h9 => h9) rfl dX2_follow_63 ?_
    refine lv_icmp_ge (tgt := 104) hx hb dX2_follow_66 (by decide) (fun c_66 => ?_) (fun c_66 => absurd (by decide) c_66)
    exact W.vret hx hb hr (fun t ht hW => ⟨⟨(XW ad cI cJ 0 b u_1.1 u_1.2 ++ R), rfl, ⟨_, _, rfl⟩, ⟨by rw [ht]; exact hP, va_K.moved hW.alike hK, hD⟩⟩, hS.F ht⟩) hS.2.2 dX2_follow_104
  · obtain ⟨hF_1, hP, hD, hS, hl⟩ := hI
    have hP : va_P D vwCl (XW ad cI cJ 0 b u_1.1 u_1.2 ++ R) H := hP
    have hD : va_D A (XW ad cI cJ 0 b u_1.1 u_1.2 ++ R) := hD
    have hl : lv_has ls 5 [(0, .ref (ad 4)), (1, .ref (ad 1)), (2, .ref (ad 2)), (3, .int (nI i))] := hl
    refine lv_iload_n hx hb dX2_follow_2 rfl (lv_at hl 3 rfl) ?_
    refine lv_bipush (v := 40) hx hb dX2_follow_3 (by decide) ?_
    refine lv_icmp_ge (tgt := 23) hx hb dX2_follow_5 (by decide) (fun c_5 => absurd c_5 (nI_ge hi (by decide))) (fun c_5 => ?_)
    refine lv_aload_n hx hb dX2_follow_8 rfl (lv_at hl 0 rfl) ?_
    refine va_get (D := D) (ci := 2) (v := .ref (ad 23)) (C := RX2) (T := TX2) (N := 3) hx hb hg inGX2 hown hK hP 4 rfl rfl 0 (by decide) (hg _ mw_148) (fun _ h9 => h9) rfl dX2_follow_9 ?_
    refine lv_iload_n hx hb dX2_follow_12 rfl (lv_at hl 3 rfl) ?_
    refine lv_iconst (v := 0) hx hb dX2_follow_13 (by decide) ?_
    refine kV (rSN hx hb hml hown hg hN hK hP hD (c_put l D cI cJ cZ (XW ad cI cJ 0 b u_1.1 u_1.2 ++ R) 23 (ad 23) 40 (u_1.1 23) (nI i) 0 rfl (by decide)) mw_108 nw_79 mw_109 mw_110 pd_X7_put ⟨Nat.le_of_ble_eq_true rfl, Nat.le_of_ble_eq_true rfl⟩ rfl hl.1 rfl (Nat.le_of_ble_eq_true rfl) dX2_follow_14 ⟨Nat.le_of_ble_eq_true rfl, Nat.le_of_ble_eq_true rfl⟩) hD hS hA (fun u_3 H locs hp hP hD hS => ?_)
    obtain ⟨f_4, rfl, hp1, hp2⟩ := hp
    have hP : va_P D vwCl (XW ad cI cJ 0 b (va_up u_1.1 23 f_4) u_1.2 ++ R) H := hP
    have hD : va_D A (XW ad cI cJ 0 b (va_up u_1.1 23 f_4) u_1.2 ++ R) := hD
    refine lv_iinc (v := nI (i + 1)) (lv' := [(3, .int (nI (i + 1))), (0, .ref (ad 4)), (1, .ref (ad 1)), (2, .ref (ad 2))]) hx hb dX2_follow_17 hl (k := 3) rfl (nI_1 i) (by decide) rfl (fun ls hl => ?_)
    refine lv_goto (tgt := 2) hx hb dX2_follow_20 (by decide) ?_
    exact ih ((va_up u_1.1 23 f_4), u_1.2) H locs ls ⟨trivial, hP, hD, hS, lv_sub hl [1, 2, 3, 0] rfl⟩
set_option maxHeartbeats 4000000 in
set_option maxRecDepth 100000 in
theorem c_findEntries (l : Launch) (D : va_G) (cI cJ cZ : ClassId) (ad : Nat → Nat) (b : Nat → Int32) (F : Nat → Nat → Int32) (G : Nat → Nat → Int64) (R : va_W) : CT l D (TY cI cJ cZ) yX5_findEntries (.code yX5_findEntries cX5_findEntries 11 (none : Option FieldType)) 1 0 0 (XW ad cI cJ 0 b F G ++ R) [.ref (ad 5)] (QV D (TY cI cJ cZ) (fun u => ∃ F' G', u = XW ad cI cJ 0 b F' G' ++ R)) := by
  refine ent (by decide) (Nat.le_of_ble_eq_true rfl) ?_
  intro p e s m below meth c ls A hx hb hr hg hown hml hlocks hnm hP hK hD hS hA hN hl
  have hl : lv_has ls 11 [(0, .ref (ad 5))] := hl
  refine lv_lconst (v := 0) hx hb dX5_findEntries_0 (by decide) ?_
  refine lv_lstore_n (lv' := [(1, .long 0), (0, .ref (ad 5))]) hx hb dX5_findEntries_1 rfl hl (by decide) rfl (fun ls hl => ?_)
  refine lv_bipush (v := 40) hx hb dX5_findEntries_2 (by decide) ?_
  refine kL (rSN hx hb hml hown hg hN hK hP hD (c_bit l D cI cJ cZ (XW ad cI cJ 0 b F G ++ R) 40) mw_149 nw_87 mw_150 mw_110 pd_X7_bit ⟨Nat.le_of_ble_eq_true rfl, Nat.le_of_ble_eq_true rfl⟩ rfl hl.1 rfl (Nat.le_of_ble_eq_true rfl) dX5_findEntries_4 ⟨Nat.le_of_ble_eq_true rfl, Nat.le_of_ble_eq_true rfl⟩) hD hS hA (fun r_1 u_1 H locs hp hP hD hS => ?_)
  obtain rfl := hp
  refine lv_lconst (v := 1) hx hb dX5_findEntries_7 (by decide) ?_
  refine lv_lor hx hb dX5_findEntries_8 ?_
  refine lv_topl (fun v_2 ev_2 => ?_)
  refine lv_lstore_n (lv' := [(3, .long v_2), (1, .long 0), (0, .ref (ad 5))]) hx hb dX5_findEntries_9 rfl hl (by decide) rfl (fun ls hl => ?_)
  refine lv_iconst (v := 0) hx hb dX5_findEntries_10 (by decide) ?_
  refine lv_istore (lv' := [(5, .int 0), (3, .long v_2), (1, .long 0), (0, .ref (ad 5))]) hx hb dX5_findEntries_11 hl (by decide) rfl (fun ls hl => ?_)
  -- the loop at 13
  refine w_loop (σ := Int64 × Int64) (fun (i : Nat) (u_3 : Int64 × Int64) (H : Heap) (locs : List Loc) (ls : Array Slot) => (True) ∧ va_P D vwCl (XW ad cI cJ 0 b F G ++ R) H ∧ va_D A (XW ad cI cJ 0 b F G ++ R) ∧ va_S A s.heap H locs ∧ lv_has ls 11 [(0, .ref (ad 5)), (1, .long u_3.1), (3, .long u_3.2), (5, .int (nI i))]) 40 (fun u_3 H locs ls hI => ?_) (fun i u_3 H locs ls hi hI ih => ?_) 0 (0, v_2) (Nat.zero_le _) ⟨trivial, hP, hD, hS, by rw [nI_0]; exact lv_sub hl [3, 2, 1, 0] rfl⟩
  · obtain ⟨hF_3, hP, hD, hS, hl⟩ := hI
    have hP : va_P D vwCl (XW ad cI cJ 0 b F G ++ R) H := hP
    have hD : va_D A (XW ad cI cJ 0 b F G ++ R) := hD
    have hl : lv_has ls 11 [(0, .ref (ad 5)), (1, .long u_3.1), (3, .long u_3.2), (5, .int (nI 40))] := hl
    refine lv_iload hx hb dX5_findEntries_13 (lv_at hl 3 rfl) ?_
    refine lv_bipush (v := 40) hx hb dX5_findEntries_15 (by decide) ?_
    refine lv_icmp_ge (tgt := 49) hx hb dX5_findEntries_17 (by decide) (fun c_17 => ?_) (fun c_17 => absurd (by decide) c_17)
    refine lv_lload_n hx hb dX5_findEntries_49 rfl (lv_at hl 1 rfl) ?_
    refine lv_lload_n hx hb dX5_findEntries_50 rfl (lv_at hl 2 rfl) ?_
    refine lv_ldc2 (v := (-1)) hx hb hown (hg _ mw_151) dX5_findEntries_51 ?_
    refine lv_lxor hx hb dX5_findEntries_54 ?_
    refine lv_topl (fun v_4 ev_4 => ?_)
    refine lv_land hx hb dX5_findEntries_55 ?_
    refine lv_topl (fun v_5 ev_5 => ?_)
    refine lv_lstore (lv' := [(5, .long v_5), (0, .ref (ad 5)), (1, .long u_3.1), (3, .long u_3.2)]) hx hb dX5_findEntries_56 hl (by decide) rfl (fun ls hl => ?_)
    refine lv_iconst (v := 0) hx hb dX5_findEntries_58 (by decide) ?_
    refine lv_istore (lv' := [(7, .int 0), (5, .long v_5), (0, .ref (ad 5)), (1, .long u_3.1), (3, .long u_3.2)]) hx hb dX5_findEntries_59 hl (by decide) rfl (fun ls hl => ?_)
    -- the loop at 61
    refine w_loop (σ := (Nat → Nat → Int32) × (Nat → Nat → Int64)) (fun (i : Nat) (u_6 : (Nat → Nat → Int32) × (Nat → Nat → Int64)) (H : Heap) (locs : List Loc) (ls : Array Slot) => (True) ∧ va_P D vwCl (XW ad cI cJ 0 b u_6.1 u_6.2 ++ R) H ∧ va_D A (XW ad cI cJ 0 b u_6.1 u_6.2 ++ R) ∧ va_S A s.heap H locs ∧ lv_has ls 11 [(0, .ref (ad 5)), (1, .long u_3.1), (3, .long u_3.2), (5, .long v_5), (7, .int (nI i))]) 41 (fun u_6 H locs ls hI => ?_) (fun i u_6 H locs ls hi hI ih => ?_) 0 (F, G) (Nat.zero_le _) ⟨trivial, hP, hD, hS, by rw [nI_0]; exact lv_sub hl [2, 3, 4, 1, 0] rfl⟩
    · obtain ⟨hF_6, hP, hD, hS, hl⟩ := hI
      have hP : va_P D vwCl (XW ad cI cJ 0 b u_6.1 u_6.2 ++ R) H := hP
      have hD : va_D A (XW ad cI cJ 0 b u_6.1 u_6.2 ++ R) := hD
      have hl : lv_has ls 11 [(0, .ref (ad 5)), (1, .long u_3.1), (3, .long u_3.2), (5, .long v_5), (7, .int (nI 41))] := hl
      refine lv_iload hx hb dX5_findEntries_61 (lv_at hl 4 rfl) ?_
      refine lv_bipush (v := 40) hx hb dX5_findEntries_63 (by decide) ?_
      refine lv_icmp_gt (tgt := 84) hx hb dX5_findEntries_65 (by decide) (fun c_65 => ?_) (fun c_65 => absurd (by decide) c_65)
      refine lv_iconst (v := 0) hx hb dX5_findEntries_84 (by decide) ?_
      refine lv_istore (lv' := [(7, .int 0), (0, .ref (ad 5)), (1, .long u_3.1), (3, .long u_3.2), (5, .long v_5)]) hx hb dX5_findEntries_85 hl (by decide) rfl (fun ls hl => ?_)
      -- the loop at 87
      refine w_loop (σ := (Nat → Nat → Int32) × (Nat → Nat → Int64)) (fun (i : Nat) (u_7 : (Nat → Nat → Int32) × (Nat → Nat → Int64)) (H : Heap) (locs : List Loc) (ls : Array Slot) => (True) ∧ va_P D vwCl (XW ad cI cJ 0 b u_7.1 u_7.2 ++ R) H ∧ va_D A (XW ad cI cJ 0 b u_7.1 u_7.2 ++ R) ∧ va_S A s.heap H locs ∧ lv_has ls 11 [(0, .ref (ad 5)), (1, .long u_3.1), (3, .long u_3.2), (5, .long v_5), (7, .int (nI i))]) 40 (fun u_7 H locs ls hI => ?_) (fun i u_7 H locs ls hi hI ih => ?_) 0 (u_6.1, u_6.2) (Nat.zero_le _) ⟨trivial, hP, hD, hS, by rw [nI_0]; exact lv_sub hl [1, 2, 3, 4, 0] rfl⟩
      · obtain ⟨hF_7, hP, hD, hS, hl⟩ := hI
        have hP : va_P D vwCl (XW ad cI cJ 0 b u_7.1 u_7.2 ++ R) H := hP
        have hD : va_D A (XW ad cI cJ 0 b u_7.1 u_7.2 ++ R) := hD
        have hl : lv_has ls 11 [(0, .ref (ad 5)), (1, .long u_3.1), (3, .long u_3.2), (5, .long v_5), (7, .int (nI 40))] := hl
        refine lv_iload hx hb dX5_findEntries_87 (lv_at hl 4 rfl) ?_
        refine lv_bipush (v := 40) hx hb dX5_findEntries_89 (by decide) ?_
        refine lv_icmp_ge (tgt := 158) hx hb dX5_findEntries_91 (by decide) (fun c_91 => ?_) (fun c_91 => absurd (by decide) c_91)
        exact W.vret hx hb hr (fun t ht hW => ⟨⟨(XW ad cI cJ 0 b u_7.1 u_7.2 ++ R), rfl, ⟨_, _, rfl⟩, ⟨by rw [ht]; exact hP, va_K.moved hW.alike hK, hD⟩⟩, hS.F ht⟩) hS.2.2 dX5_findEntries_158
      · obtain ⟨hF_7, hP, hD, hS, hl⟩ := hI
        have hP : va_P D vwCl (XW ad cI cJ 0 b u_7.1 u_7.2 ++ R) H := hP
        have hD : va_D A (XW ad cI cJ 0 b u_7.1 u_7.2 ++ R) := hD
        have hl : lv_has ls 11 [(0, .ref (ad 5)), (1, .long u_3.1), (3, .long u_3.2), (5, .long v_5), (7, .int (nI i))] := hl
        refine lv_iload hx hb dX5_findEntries_87 (lv_at hl 4 rfl) ?_
        refine lv_bipush (v := 40) hx hb dX5_findEntries_89 (by decide) ?_
        refine lv_icmp_ge (tgt := 158) hx hb dX5_findEntries_91 (by decide) (fun c_91 => absurd c_91 (nI_ge hi (by decide))) (fun c_91 => ?_)
        refine lv_aload_n hx hb dX5_findEntries_94 rfl (lv_at hl 0 rfl) ?_
        refine va_get (D := D) (ci := 5) (v := .ref (ad 24)) (C := RX5) (T := TX5) (N := 8) hx hb hg inGX5 hown hK hP 5 rfl rfl 0 (by decide) (hg _ mw_152) (fun _ h9 => h9) rfl dX5_findEntries_95 ?_
        refine lv_iload hx hb dX5_findEntries_98 (lv_at hl 4 rfl) ?_
        refine kL (rSN hx hb hml hown hg hN hK hP hD (c_atL l D cI cJ cZ (XW ad cI cJ 0 b u_7.1 u_7.2 ++ R) 24 (ad 24) 40 (fun _ => 0) (nI i) rfl (by decide)) mw_153 nw_84 mw_154 mw_110 pd_X7_at_ ⟨Nat.le_of_ble_eq_true rfl, Nat.le_of_ble_eq_true rfl⟩ rfl hl.1 rfl (Nat.le_of_ble_eq_true rfl) dX5_findEntries_100 ⟨Nat.le_of_ble_eq_true rfl, Nat.le_of_ble_eq_true rfl⟩) hD hS hA (fun r_8 u_8 H locs hp hP hD hS => ?_)
        obtain ⟨hp1, hp2, rfl⟩ := hp
        obtain rfl : r_8 = 0 := (Classical.em (vp_in (nI i) 40)).elim hp1 hp2
        refine lv_lload hx hb dX5_findEntries_103 (lv_at hl 3 rfl) ?_
        refine lv_land hx hb dX5_findEntries_105 ?_
        refine lv_topl (fun v_9 ev_9 => ?_)
        obtain rfl : v_9 = (0 : Int64) := ev_9.trans (zand _)
        refine lv_lstore (lv' := [(8, .long 0), (0, .ref (ad 5)), (1, .long u_3.1), (3, .long u_3.2), (5, .long v_5), (7, .int (nI i))]) hx hb dX5_findEntries_106 hl (by decide) rfl (fun ls hl => ?_)
        refine lv_iconst (v := 0) hx hb dX5_findEntries_108 (by decide) ?_
        refine lv_istore (lv' := [(10, .int 0), (8, .long 0), (0, .ref (ad 5)), (1, .long u_3.1), (3, .long u_3.2), (5, .long v_5), (7, .int (nI i))]) hx hb dX5_findEntries_109 hl (by decide) rfl (fun ls hl => ?_)
        refine lv_iload hx hb dX5_findEntries_111 (lv_at hl 0 rfl) ?_
        refine lv_bipush (v := 40) hx hb dX5_findEntries_113 (by decide) ?_
        refine lv_icmp_ge (tgt := 152) hx hb dX5_findEntries_115 (by decide) (fun c_115 => absurd c_115 (by decide)) (fun c_115 => ?_)
        refine lv_lload hx hb dX5_findEntries_118 (lv_at hl 1 rfl) ?_
        refine lv_lconst (v := 0) hx hb dX5_findEntries_120 (by decide) ?_
        refine W.lcmp hx hb dX5_findEntries_121 ?_
        refine lv_topi (fun v_10 ev_10 => ?_)
        obtain rfl : v_10 = (0 : Int32) := ev_10.trans (by decide)
        refine lv_if_eq (tgt := 152) hx hb dX5_findEntries_122 (by decide) (fun c_122 => ?_) (fun c_122 => absurd (by decide) c_122)
        refine lv_iinc (v := nI (i + 1)) (lv' := [(7, .int (nI (i + 1))), (10, .int 0), (8, .long 0), (0, .ref (ad 5)), (1, .long u_3.1), (3, .long u_3.2), (5, .long v_5)]) hx hb dX5_findEntries_152 hl (k := 6) rfl (nI_1 i) (by decide) rfl (fun ls hl => ?_)
        refine lv_goto (tgt := 87) hx hb dX5_findEntries_155 (by decide) ?_
        exact ih (u_7.1, u_7.2) H locs ls ⟨trivial, hP, hD, hS, lv_sub hl [3, 4, 5, 6, 0] rfl⟩
    · obtain ⟨hF_6, hP, hD, hS, hl⟩ := hI
      have hP : va_P D vwCl (XW ad cI cJ 0 b u_6.1 u_6.2 ++ R) H := hP
      have hD : va_D A (XW ad cI cJ 0 b u_6.1 u_6.2 ++ R) := hD
      have hl : lv_has ls 11 [(0, .ref (ad 5)), (1, .long u_3.1), (3, .long u_3.2), (5, .long v_5), (7, .int (nI i))] := hl
      refine lv_iload hx hb dX5_findEntries_61 (lv_at hl 4 rfl) ?_
      refine lv_bipush (v := 40) hx hb dX5_findEntries_63 (by decide) ?_
      refine lv_icmp_gt (tgt := 84) hx hb dX5_findEntries_65 (by decide) (fun c_65 => absurd c_65 (nI_nlt (Nat.le_of_lt_succ hi) (by decide))) (fun c_65 => ?_)
      refine lv_aload_n hx hb dX5_findEntries_68 rfl (lv_at hl 0 rfl) ?_
      refine va_get (D := D) (ci := 5) (v := .ref (ad 28)) (C := RX5) (T := TX5) (N := 8) hx hb hg inGX5 hown hK hP 5 rfl rfl 4 (by decide) (hg _ mw_155) (fun _ h9 => h9) rfl dX5_findEntries_69 ?_
      refine lv_iload hx hb dX5_findEntries_72 (lv_at hl 4 rfl) ?_
      refine lv_iconst (v := (-1)) hx hb dX5_findEntries_74 (by decide) ?_
      refine kV (rSN hx hb hml hown hg hN hK hP hD (c_put l D cI cJ cZ (XW ad cI cJ 0 b u_6.1 u_6.2 ++ R) 28 (ad 28) 41 (u_6.1 28) (nI i) (-1) rfl (by decide)) mw_108 nw_86 mw_109 mw_110 pd_X7_put ⟨Nat.le_of_ble_eq_true rfl, Nat.le_of_ble_eq_true rfl⟩ rfl hl.1 rfl (Nat.le_of_ble_eq_true rfl) dX5_findEntries_75 ⟨Nat.le_of_ble_eq_true rfl, Nat.le_of_ble_eq_true rfl⟩) hD hS hA (fun u_11 H locs hp hP hD hS => ?_)
      obtain ⟨f_12, rfl, hp1, hp2⟩ := hp
      have hP : va_P D vwCl (XW ad cI cJ 0 b (va_up u_6.1 28 f_12) u_6.2 ++ R) H := hP
      have hD : va_D A (XW ad cI cJ 0 b (va_up u_6.1 28 f_12) u_6.2 ++ R) := hD
      refine lv_iinc (v := nI (i + 1)) (lv' := [(7, .int (nI (i + 1))), (0, .ref (ad 5)), (1, .long u_3.1), (3, .long u_3.2), (5, .long v_5)]) hx hb dX5_findEntries_78 hl (k := 4) rfl (nI_1 i) (by decide) rfl (fun ls hl => ?_)
      refine lv_goto (tgt := 61) hx hb dX5_findEntries_81 (by decide) ?_
      exact ih ((va_up u_6.1 28 f_12), u_6.2) H locs ls ⟨trivial, hP, hD, hS, lv_sub hl [1, 2, 3, 4, 0] rfl⟩
  · obtain ⟨hF_3, hP, hD, hS, hl⟩ := hI
    have hP : va_P D vwCl (XW ad cI cJ 0 b F G ++ R) H := hP
    have hD : va_D A (XW ad cI cJ 0 b F G ++ R) := hD
    have hl : lv_has ls 11 [(0, .ref (ad 5)), (1, .long u_3.1), (3, .long u_3.2), (5, .int (nI i))] := hl
    refine lv_iload hx hb dX5_findEntries_13 (lv_at hl 3 rfl) ?_
    refine lv_bipush (v := 40) hx hb dX5_findEntries_15 (by decide) ?_
    refine lv_icmp_ge (tgt := 49) hx hb dX5_findEntries_17 (by decide) (fun c_17 => absurd c_17 (nI_ge hi (by decide))) (fun c_17 => ?_)
    refine lv_aload_n hx hb dX5_findEntries_20 rfl (lv_at hl 0 rfl) ?_
    refine va_get (D := D) (ci := 5) (v := .ref (ad 24)) (C := RX5) (T := TX5) (N := 8) hx hb hg inGX5 hown hK hP 5 rfl rfl 0 (by decide) (hg _ mw_152) (fun _ h9 => h9) rfl dX5_findEntries_21 ?_
    refine lv_iload hx hb dX5_findEntries_24 (lv_at hl 3 rfl) ?_
    refine kL (rSN hx hb hml hown hg hN hK hP hD (c_atL l D cI cJ cZ (XW ad cI cJ 0 b F G ++ R) 24 (ad 24) 40 (fun _ => 0) (nI i) rfl (by decide)) mw_153 nw_84 mw_154 mw_110 pd_X7_at_ ⟨Nat.le_of_ble_eq_true rfl, Nat.le_of_ble_eq_true rfl⟩ rfl hl.1 rfl (Nat.le_of_ble_eq_true rfl) dX5_findEntries_26 ⟨Nat.le_of_ble_eq_true rfl, Nat.le_of_ble_eq_true rfl⟩) hD hS hA (fun r_13 u_13 H locs hp hP hD hS => ?_)
    obtain ⟨hp1, hp2, rfl⟩ := hp
    obtain rfl : r_13 = 0 := (Classical.em (vp_in (nI i) 40)).elim hp1 hp2
    refine lv_lstore (lv' := [(6, .long 0), (0, .ref (ad 5)), (1, .long u_3.1), (3, .long u_3.2), (5, .int (nI i))]) hx hb dX5_findEntries_29 hl (by decide) rfl (fun ls hl => ?_)
    refine lv_lload_n hx hb dX5_findEntries_31 rfl (lv_at hl 3 rfl) ?_
    refine lv_lload_n hx hb dX5_findEntries_32 rfl (lv_at hl 2 rfl) ?_
    refine lv_lload hx hb dX5_findEntries_33 (lv_at hl 0 rfl) ?_
    refine lv_land hx hb dX5_findEntries_35 ?_
    refine lv_topl (fun v_14 ev_14 => ?_)
    refine lv_lor hx hb dX5_findEntries_36 ?_
    refine lv_topl (fun v_15 ev_15 => ?_)
    refine lv_lstore_n (lv' := [(3, .long v_15), (6, .long 0), (0, .ref (ad 5)), (1, .long u_3.1), (5, .int (nI i))]) hx hb dX5_findEntries_37 rfl hl (by decide) rfl (fun ls hl => ?_)
    refine lv_lload_n hx hb dX5_findEntries_38 rfl (lv_at hl 3 rfl) ?_
    refine lv_lload hx hb dX5_findEntries_39 (lv_at hl 1 rfl) ?_
    refine lv_lor hx hb dX5_findEntries_41 ?_
    refine lv_topl (fun v_16 ev_16 => ?_)
    refine lv_lstore_n (lv' := [(1, .long v_16), (3, .long v_15), (6, .long 0), (0, .ref (ad 5)), (5, .int (nI i))]) hx hb dX5_findEntries_42 rfl hl (by decide) rfl (fun ls hl => ?_)
    refine lv_iinc (v := nI (i + 1)) (lv' := [(5, .int (nI (i + 1))), (1, .long v_16), (3, .long v_15), (6, .long 0), (0, .ref (ad 5))]) hx hb dX5_findEntries_43 hl (k := 4) rfl (nI_1 i) (by decide) rfl (fun ls hl => ?_)
    refine lv_goto (tgt := 13) hx hb dX5_findEntries_46 (by decide) ?_
    exact ih (v_16, v_15) H locs ls ⟨trivial, hP, hD, hS, lv_sub hl [4, 1, 2, 0] rfl⟩
set_option maxHeartbeats 4000000 in
set_option maxRecDepth 100000 in
theorem c_takeStep (l : Launch) (D : va_G) (cI cJ cZ : ClassId) (ad : Nat → Nat) (b : Nat → Int32) (F : Nat → Nat → Int32) (G : Nat → Nat → Int64) (R : va_W) : CT l D (TY cI cJ cZ) yX5_takeStep (.code yX5_takeStep cX5_takeStep 3 (some Jvm.ClassFile.FieldType.boolean)) 2 0 0 (XW ad cI cJ 0 b F G ++ R) [.ref (ad 5)] (QI D (TY cI cJ cZ) (fun r u => r = 0 ∧ ∃ F' G', u = XW ad cI cJ 0 b F' G' ++ R)) := by
  refine ent (by decide) (Nat.le_of_ble_eq_true rfl) ?_
  intro p e s m below meth c ls A hx hb hr hg hown hml hlocks hnm hP hK hD hS hA hN hl
  have hl : lv_has ls 3 [(0, .ref (ad 5))] := hl
  refine lv_aload_n hx hb dX5_takeStep_0 rfl (lv_at hl 0 rfl) ?_
  refine kV (rV (q0 := 5) (ci := 5) hx hb hml hown hg hN hK hP hD (c_findEntries l D cI cJ cZ ad b F G R) mw_156 mw_157 mw_158 mw_159 mw_160 pdv_X5_findEntries ⟨Nat.le_of_ble_eq_true rfl, Nat.le_of_ble_eq_true rfl⟩ rfl rfl rfl hl.1 rfl (Nat.le_of_ble_eq_true rfl) dX5_takeStep_1 ⟨Nat.le_of_ble_eq_true rfl, Nat.le_of_ble_eq_true rfl⟩) hD hS hA (fun u_1 H locs hp hP hD hS => ?_)
  obtain ⟨F_3, G_4, rfl⟩ := hp
  refine lv_iconst (v := 0) hx hb dX5_takeStep_4 (by decide) ?_
  refine lv_istore_n (lv' := [(1, .int 0), (0, .ref (ad 5))]) hx hb dX5_takeStep_5 rfl hl (by decide) rfl (fun ls hl => ?_)
  -- the loop at 6
  refine w_loop (σ := Unit) (fun (i : Nat) (u_5 : Unit) (H : Heap) (locs : List Loc) (ls : Array Slot) => (True) ∧ va_P D vwCl (XW ad cI cJ 0 b F_3 G_4 ++ R) H ∧ va_D A (XW ad cI cJ 0 b F_3 G_4 ++ R) ∧ va_S A s.heap H locs ∧ lv_has ls 3 [(0, .ref (ad 5)), (1, .int (nI i))]) 40 (fun u_5 H locs ls hI => ?_) (fun i u_5 H locs ls hi hI ih => ?_) 0 () (Nat.zero_le _) ⟨trivial, hP, hD, hS, by rw [nI_0]; exact lv_sub hl [1, 0] rfl⟩
  · obtain ⟨hF_5, hP, hD, hS, hl⟩ := hI
    have hP : va_P D vwCl (XW ad cI cJ 0 b F_3 G_4 ++ R) H := hP
    have hD : va_D A (XW ad cI cJ 0 b F_3 G_4 ++ R) := hD
    have hl : lv_has ls 3 [(0, .ref (ad 5)), (1, .int (nI 40))] := hl
    refine lv_iload_n hx hb dX5_takeStep_6 rfl (lv_at hl 1 rfl) ?_
    refine lv_bipush (v := 40) hx hb dX5_takeStep_7 (by decide) ?_
    refine lv_icmp_ge (tgt := 86) hx hb dX5_takeStep_9 (by decide) (fun c_9 => ?_) (fun c_9 => absurd (by decide) c_9)
    refine lv_iconst (v := 0) hx hb dX5_takeStep_86 (by decide) ?_
    exact W.zret (v := 0) hx hb hr rfl (fun t ht hW => ⟨⟨0, (XW ad cI cJ 0 b F_3 G_4 ++ R), rfl, ⟨rfl, _, _, rfl⟩, ⟨by rw [ht]; exact hP, va_K.moved hW.alike hK, hD⟩⟩, hS.F ht⟩) hS.2.2 dX5_takeStep_87
  · obtain ⟨hF_5, hP, hD, hS, hl⟩ := hI
    have hP : va_P D vwCl (XW ad cI cJ 0 b F_3 G_4 ++ R) H := hP
    have hD : va_D A (XW ad cI cJ 0 b F_3 G_4 ++ R) := hD
    have hl : lv_has ls 3 [(0, .ref (ad 5)), (1, .int (nI i))] := hl
    refine lv_iload_n hx hb dX5_takeStep_6 rfl (lv_at hl 1 rfl) ?_
    refine lv_bipush (v := 40) hx hb dX5_takeStep_7 (by decide) ?_
    refine lv_icmp_ge (tgt := 86) hx hb dX5_takeStep_9 (by decide) (fun c_9 => absurd c_9 (nI_ge hi (by decide))) (fun c_9 => ?_)
    refine lv_aload_n hx hb dX5_takeStep_12 rfl (lv_at hl 0 rfl) ?_
    refine va_get (D := D) (ci := 5) (v := .long 0) (C := RX5) (T := TX5) (N := 8) hx hb hg inGX5 hown hK hP 5 rfl rfl 5 (by decide) (hg _ mw_161) (fun _ h9 => h9) rfl dX5_takeStep_13 ?_
    refine lv_iload_n hx hb dX5_takeStep_16 rfl (lv_at hl 1 rfl) ?_
    refine kI (rSN hx hb hml hown hg hN hK hP hD (c_has0 l D cI cJ cZ (XW ad cI cJ 0 b F_3 G_4 ++ R) (nI i)) mw_129 nw_83 mw_130 mw_110 pd_X7_has ⟨Nat.le_of_ble_eq_true rfl, Nat.le_of_ble_eq_true rfl⟩ rfl hl.1 rfl (Nat.le_of_ble_eq_true rfl) dX5_takeStep_17 ⟨Nat.le_of_ble_eq_true rfl, Nat.le_of_ble_eq_true rfl⟩) hD hS hA (fun r_6 u_6 H locs hp hP hD hS => ?_)
    obtain ⟨rfl, rfl⟩ := hp
    refine lv_if_eq (tgt := 31) hx hb dX5_takeStep_20 (by decide) (fun c_20 => ?_) (fun c_20 => absurd (by decide) c_20)
    refine lv_iconst (v := (-1)) hx hb dX5_takeStep_31 (by decide) ?_
    refine lv_istore_n (lv' := [(2, .int (-1)), (0, .ref (ad 5)), (1, .int (nI i))]) hx hb dX5_takeStep_32 rfl hl (by decide) rfl (fun ls hl => ?_)
    refine lv_iload_n hx hb dX5_takeStep_33 rfl (lv_at hl 0 rfl) ?_
    refine lv_iconst (v := (-1)) hx hb dX5_takeStep_34 (by decide) ?_
    refine lv_icmp_eq (tgt := 80) hx hb dX5_takeStep_35 (by decide) (fun c_35 => ?_) (fun c_35 => absurd (by decide) c_35)
    refine lv_iinc (v := nI (i + 1)) (lv' := [(1, .int (nI (i + 1))), (2, .int (-1)), (0, .ref (ad 5))]) hx hb dX5_takeStep_80 hl (k := 2) rfl (nI_1 i) (by decide) rfl (fun ls hl => ?_)
    refine lv_goto (tgt := 6) hx hb dX5_takeStep_83 (by decide) ?_
    exact ih () H locs ls ⟨trivial, hP, hD, hS, lv_sub hl [2, 0] rfl⟩
set_option maxHeartbeats 4000000 in
set_option maxRecDepth 100000 in
theorem c_reduce (l : Launch) (D : va_G) (cI cJ cZ : ClassId) (ad : Nat → Nat) (b : Nat → Int32) (F : Nat → Nat → Int32) (G : Nat → Nat → Int64) (R : va_W) : CT l D (TY cI cJ cZ) yX5_reduce (.code yX5_reduce cX5_reduce 4 (none : Option FieldType)) 3 0 0 (XW ad cI cJ 0 b F G ++ R) [.ref (ad 5), .ref (ad 2)] (QV D (TY cI cJ cZ) (fun u => ∃ F' G', u = XW ad cI cJ 0 b F' G' ++ R)) := by
  refine ent (by decide) (Nat.le_of_ble_eq_true rfl) ?_
  intro p e s m below meth c ls A hx hb hr hg hown hml hlocks hnm hP hK hD hS hA hN hl
  have hl : lv_has ls 4 [(0, .ref (ad 5)), (1, .ref (ad 2))] := hl
  refine lv_aload_n hx hb dX5_reduce_0 rfl (lv_at hl 0 rfl) ?_
  refine lv_aload_n hx hb dX5_reduce_1 rfl (lv_at hl 1 rfl) ?_
  refine va_getN (D := D) (ci := 1) (v := .long 0) (C := RX1) (T := TX1) (N := 11) hx hb hg inGX1 hown hK hP 2 rfl rfl 9 (by decide) (hN.use nw_32) (fun _ h9 => h9) rfl dX5_reduce_2 ?_
  refine va_put (D := D) (ci := 5) (v := .long 0) (C := RX5) (T := TX5) (N := 8) hx hb hg inGX5 tyX5 tyX5_ok nmX5 hown hK hP hD hS 5 rfl rfl 5 (by decide) (hg _ mw_161) (fun _ h9 => h9) rfl (tyX5_ok 5 (by decide)) rfl rfl (Nat.le_of_ble_eq_true rfl) dX5_reduce_5 (fun H locs hP hD hS => ?_)
  have hP : va_P D vwCl (XW ad cI cJ 0 b F G ++ R) H := hP
  have hD : va_D A (XW ad cI cJ 0 b F G ++ R) := hD
  refine lv_aload_n hx hb dX5_reduce_8 rfl (lv_at hl 0 rfl) ?_
  refine lv_iconst (v := 0) hx hb dX5_reduce_9 (by decide) ?_
  refine va_put (D := D) (ci := 5) (v := .int 0) (C := RX5) (T := TX5) (N := 8) hx hb hg inGX5 tyX5 tyX5_ok nmX5 hown hK hP hD hS 5 rfl rfl 6 (by decide) (hg _ mw_162) (fun _ h9 => h9) rfl (tyX5_ok 6 (by decide)) rfl rfl (Nat.le_of_ble_eq_true rfl) dX5_reduce_10 (fun H locs hP hD hS => ?_)
  have hP : va_P D vwCl (XW ad cI cJ 0 b F G ++ R) H := hP
  have hD : va_D A (XW ad cI cJ 0 b F G ++ R) := hD
  refine lv_iconst (v := 0) hx hb dX5_reduce_13 (by decide) ?_
  refine lv_istore_n (lv' := [(2, .int 0), (0, .ref (ad 5)), (1, .ref (ad 2))]) hx hb dX5_reduce_14 rfl hl (by decide) rfl (fun ls hl => ?_)
  -- the loop at 15
  refine w_loop (σ := (Nat → Nat → Int32) × (Nat → Nat → Int64)) (fun (i : Nat) (u_1 : (Nat → Nat → Int32) × (Nat → Nat → Int64)) (H : Heap) (locs : List Loc) (ls : Array Slot) => (True) ∧ va_P D vwCl (XW ad cI cJ 0 b u_1.1 u_1.2 ++ R) H ∧ va_D A (XW ad cI cJ 0 b u_1.1 u_1.2 ++ R) ∧ va_S A s.heap H locs ∧ lv_has ls 4 [(0, .ref (ad 5)), (1, .ref (ad 2)), (2, .int (nI i))]) 40 (fun u_1 H locs ls hI => ?_) (fun i u_1 H locs ls hi hI ih => ?_) 0 (F, G) (Nat.zero_le _) ⟨trivial, hP, hD, hS, by rw [nI_0]; exact lv_sub hl [1, 2, 0] rfl⟩
  · obtain ⟨hF_1, hP, hD, hS, hl⟩ := hI
    have hP : va_P D vwCl (XW ad cI cJ 0 b u_1.1 u_1.2 ++ R) H := hP
    have hD : va_D A (XW ad cI cJ 0 b u_1.1 u_1.2 ++ R) := hD
    have hl : lv_has ls 4 [(0, .ref (ad 5)), (1, .ref (ad 2)), (2, .int (nI 40))] := hl
    refine lv_iload_n hx hb dX5_reduce_15 rfl (lv_at hl 2 rfl) ?_
    refine lv_bipush (v := 40) hx hb dX5_reduce_16 (by decide) ?_
    refine lv_icmp_ge (tgt := 77) hx hb dX5_reduce_18 (by decide) (fun c_18 => ?_) (fun c_18 => absurd (by decide) c_18)
    refine lv_iconst (v := 1) hx hb dX5_reduce_77 (by decide) ?_
    refine lv_istore_n (lv' := [(2, .int 1), (0, .ref (ad 5)), (1, .ref (ad 2))]) hx hb dX5_reduce_78 rfl hl (by decide) rfl (fun ls hl => ?_)
    refine lv_iconst (v := 0) hx hb dX5_reduce_79 (by decide) ?_
    refine lv_istore_n (lv' := [(3, .int 0), (2, .int 1), (0, .ref (ad 5)), (1, .ref (ad 2))]) hx hb dX5_reduce_80 rfl hl (by decide) rfl (fun ls hl => ?_)
    refine lv_iload_n hx hb dX5_reduce_81 rfl (lv_at hl 0 rfl) ?_
    refine lv_bipush (v := 120) hx hb dX5_reduce_82 (by decide) ?_
    refine lv_icmp_ge (tgt := 102) hx hb dX5_reduce_84 (by decide) (fun c_84 => absurd c_84 (by decide)) (fun c_84 => ?_)
    refine lv_iload_n hx hb dX5_reduce_87 rfl (lv_at hl 1 rfl) ?_
    refine lv_if_eq (tgt := 102) hx hb dX5_reduce_88 (by decide) (fun c_88 => absurd c_88 (by decide)) (fun c_88 => ?_)
    refine lv_aload_n hx hb dX5_reduce_91 rfl (lv_at hl 2 rfl) ?_
    refine kI (rV (q0 := 5) (ci := 5) hx hb hml hown hg hN hK hP hD (c_takeStep l D cI cJ cZ ad b u_1.1 u_1.2 R) mw_163 mw_164 mw_165 mw_166 mw_160 pdv_X5_takeStep ⟨Nat.le_of_ble_eq_true rfl, Nat.le_of_ble_eq_true rfl⟩ rfl rfl rfl hl.1 rfl (Nat.le_of_ble_eq_true rfl) dX5_reduce_92 ⟨Nat.le_of_ble_eq_true rfl, Nat.le_of_ble_eq_true rfl⟩) hD hS hA (fun r_2 u_2 H locs hp hP hD hS => ?_)
    obtain ⟨rfl, F_4, G_5, rfl⟩ := hp
    refine lv_istore_n (lv' := [(2, .int 0), (3, .int 0), (0, .ref (ad 5)), (1, .ref (ad 2))]) hx hb dX5_reduce_95 rfl hl (by decide) rfl (fun ls hl => ?_)
    refine lv_iinc (v := 1) (lv' := [(3, .int 1), (2, .int 0), (0, .ref (ad 5)), (1, .ref (ad 2))]) hx hb dX5_reduce_96 hl (k := 1) rfl (by decide) (by decide) rfl (fun ls hl => ?_)
    refine lv_goto (tgt := 81) hx hb dX5_reduce_99 (by decide) ?_
    refine lv_iload_n hx hb dX5_reduce_81 rfl (lv_at hl 0 rfl) ?_
    refine lv_bipush (v := 120) hx hb dX5_reduce_82 (by decide) ?_
    refine lv_icmp_ge (tgt := 102) hx hb dX5_reduce_84 (by decide) (fun c_84 => absurd c_84 (by decide)) (fun c_84 => ?_)
    refine lv_iload_n hx hb dX5_reduce_87 rfl (lv_at hl 1 rfl) ?_
    refine lv_if_eq (tgt := 102) hx hb dX5_reduce_88 (by decide) (fun c_88 => ?_) (fun c_88 => absurd (by decide) c_88)
    exact W.vret hx hb hr (fun t ht hW => ⟨⟨(XW ad cI cJ 0 b F_4 G_5 ++ R), rfl, ⟨_, _, rfl⟩, ⟨by rw [ht]; exact hP, va_K.moved hW.alike hK, hD⟩⟩, hS.F ht⟩) hS.2.2 dX5_reduce_102
  · obtain ⟨hF_1, hP, hD, hS, hl⟩ := hI
    have hP : va_P D vwCl (XW ad cI cJ 0 b u_1.1 u_1.2 ++ R) H := hP
    have hD : va_D A (XW ad cI cJ 0 b u_1.1 u_1.2 ++ R) := hD
    have hl : lv_has ls 4 [(0, .ref (ad 5)), (1, .ref (ad 2)), (2, .int (nI i))] := hl
    refine lv_iload_n hx hb dX5_reduce_15 rfl (lv_at hl 2 rfl) ?_
    refine lv_bipush (v := 40) hx hb dX5_reduce_16 (by decide) ?_
    refine lv_icmp_ge (tgt := 77) hx hb dX5_reduce_18 (by decide) (fun c_18 => absurd c_18 (nI_ge hi (by decide))) (fun c_18 => ?_)
    refine lv_aload_n hx hb dX5_reduce_21 rfl (lv_at hl 0 rfl) ?_
    refine va_get (D := D) (ci := 5) (v := .long 0) (C := RX5) (T := TX5) (N := 8) hx hb hg inGX5 hown hK hP 5 rfl rfl 5 (by decide) (hg _ mw_161) (fun _ h9 => h9) rfl dX5_reduce_22 ?_
    refine lv_iload_n hx hb dX5_reduce_25 rfl (lv_at hl 2 rfl) ?_
    refine kI (rSN hx hb hml hown hg hN hK hP hD (c_has0 l D cI cJ cZ (XW ad cI cJ 0 b u_1.1 u_1.2 ++ R) (nI i)) mw_129 nw_83 mw_130 mw_110 pd_X7_has ⟨Nat.le_of_ble_eq_true rfl, Nat.le_of_ble_eq_true rfl⟩ rfl hl.1 rfl (Nat.le_of_ble_eq_true rfl) dX5_reduce_26 ⟨Nat.le_of_ble_eq_true rfl, Nat.le_of_ble_eq_true rfl⟩) hD hS hA (fun r_6 u_6 H locs hp hP hD hS => ?_)
    obtain ⟨rfl, rfl⟩ := hp
    refine lv_istore_n (lv' := [(3, .int 0), (0, .ref (ad 5)), (1, .ref (ad 2)), (2, .int (nI i))]) hx hb dX5_reduce_29 rfl hl (by decide) rfl (fun ls hl => ?_)
    refine lv_aload_n hx hb dX5_reduce_30 rfl (lv_at hl 1 rfl) ?_
    refine va_get (D := D) (ci := 5) (v := .ref (ad 24)) (C := RX5) (T := TX5) (N := 8) hx hb hg inGX5 hown hK hP 5 rfl rfl 0 (by decide) (hg _ mw_152) (fun _ h9 => h9) rfl dX5_reduce_31 ?_
    refine lv_iload_n hx hb dX5_reduce_34 rfl (lv_at hl 3 rfl) ?_
    refine lv_iload_n hx hb dX5_reduce_35 rfl (lv_at hl 0 rfl) ?_
    refine lv_if_eq (tgt := 50) hx hb dX5_reduce_36 (by decide) (fun c_36 => ?_) (fun c_36 => absurd (by decide) c_36)
    refine lv_lconst (v := 0) hx hb dX5_reduce_50 (by decide) ?_
    refine kV (rSN hx hb hml hown hg hN hK hP hD (c_putL l D cI cJ cZ (XW ad cI cJ 0 b u_1.1 u_1.2 ++ R) 24 (ad 24) 40 (fun _ => 0) (nI i) 0 rfl (by decide)) mw_119 nw_85 mw_120 mw_110 pd_X7_put_ ⟨Nat.le_of_ble_eq_true rfl, Nat.le_of_ble_eq_true rfl⟩ rfl hl.1 rfl (Nat.le_of_ble_eq_true rfl) dX5_reduce_51 ⟨Nat.le_of_ble_eq_true rfl, Nat.le_of_ble_eq_true rfl⟩) hD hS hA (fun u_7 H locs hp hP hD hS => ?_)
    obtain ⟨f_8, rfl, hp1, hp2⟩ := hp
    obtain rfl : f_8 = (fun _ => 0) := putcL rfl hp1 hp2
    have hP : va_P D vwCl (XW ad cI cJ 0 b u_1.1 u_1.2 ++ R) H := hP
    have hD : va_D A (XW ad cI cJ 0 b u_1.1 u_1.2 ++ R) := hD
    refine lv_aload_n hx hb dX5_reduce_54 rfl (lv_at hl 1 rfl) ?_
    refine va_get (D := D) (ci := 5) (v := .ref (ad 25)) (C := RX5) (T := TX5) (N := 8) hx hb hg inGX5 hown hK hP 5 rfl rfl 1 (by decide) (hg _ mw_167) (fun _ h9 => h9) rfl dX5_reduce_55 ?_
    refine lv_iload_n hx hb dX5_reduce_58 rfl (lv_at hl 3 rfl) ?_
    refine lv_iload_n hx hb dX5_reduce_59 rfl (lv_at hl 0 rfl) ?_
    refine lv_if_eq (tgt := 67) hx hb dX5_reduce_60 (by decide) (fun c_60 => ?_) (fun c_60 => absurd (by decide) c_60)
    refine lv_iconst (v := (-1)) hx hb dX5_reduce_67 (by decide) ?_
    refine kV (rSN hx hb hml hown hg hN hK hP hD (c_put l D cI cJ cZ (XW ad cI cJ 0 b u_1.1 u_1.2 ++ R) 25 (ad 25) 40 (u_1.1 25) (nI i) (-1) rfl (by decide)) mw_108 nw_86 mw_109 mw_110 pd_X7_put ⟨Nat.le_of_ble_eq_true rfl, Nat.le_of_ble_eq_true rfl⟩ rfl hl.1 rfl (Nat.le_of_ble_eq_true rfl) dX5_reduce_68 ⟨Nat.le_of_ble_eq_true rfl, Nat.le_of_ble_eq_true rfl⟩) hD hS hA (fun u_9 H locs hp hP hD hS => ?_)
    obtain ⟨f_10, rfl, hp1, hp2⟩ := hp
    have hP : va_P D vwCl (XW ad cI cJ 0 b (va_up u_1.1 25 f_10) u_1.2 ++ R) H := hP
    have hD : va_D A (XW ad cI cJ 0 b (va_up u_1.1 25 f_10) u_1.2 ++ R) := hD
    refine lv_iinc (v := nI (i + 1)) (lv' := [(2, .int (nI (i + 1))), (3, .int 0), (0, .ref (ad 5)), (1, .ref (ad 2))]) hx hb dX5_reduce_71 hl (k := 3) rfl (nI_1 i) (by decide) rfl (fun ls hl => ?_)
    refine lv_goto (tgt := 15) hx hb dX5_reduce_74 (by decide) ?_
    exact ih ((va_up u_1.1 25 f_10), u_1.2) H locs ls ⟨trivial, hP, hD, hS, lv_sub hl [2, 3, 0] rfl⟩
