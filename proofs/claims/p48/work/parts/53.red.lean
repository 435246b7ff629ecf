theorem dX5_isSingle_0 : decode cX5_isSingle 0 = .ok (.aload_n 0, 1) := by decide +kernel
theorem dX5_isSingle_1 : decode cX5_isSingle 1 = .ok (.getfield 25, 3) := by decide +kernel
theorem dX5_isSingle_4 : decode cX5_isSingle 4 = .ok (.iload_n 2, 1) := by decide +kernel
theorem dX5_isSingle_5 : decode cX5_isSingle 5 = .ok (.invokestatic 87, 3) := by decide +kernel
theorem dX5_isSingle_8 : decode cX5_isSingle 8 = .ok (.iload_n 1, 1) := by decide +kernel
theorem dX5_isSingle_9 : decode cX5_isSingle 9 = .ok (.if_icmp .ne 23, 3) := by decide +kernel
theorem dX5_isSingle_12 : decode cX5_isSingle 12 = .ok (.aload_n 0, 1) := by decide +kernel
theorem dX5_isSingle_13 : decode cX5_isSingle 13 = .ok (.getfield 9, 3) := by decide +kernel
theorem dX5_isSingle_16 : decode cX5_isSingle 16 = .ok (.iload_n 2, 1) := by decide +kernel
theorem dX5_isSingle_17 : decode cX5_isSingle 17 = .ok (.invokestatic 46, 3) := by decide +kernel
theorem dX5_isSingle_20 : decode cX5_isSingle 20 = .ok (.iload_n 3, 1) := by decide +kernel
theorem dX5_isSingle_21 : decode cX5_isSingle 21 = .ok (.invokestatic 72, 3) := by decide +kernel
theorem dX5_isSingle_24 : decode cX5_isSingle 24 = .ok (.lcmp, 1) := by decide +kernel
theorem dX5_isSingle_25 : decode cX5_isSingle 25 = .ok (.ifCond .ne 7, 3) := by decide +kernel
theorem dX5_isSingle_28 : decode cX5_isSingle 28 = .ok (.iconst 1, 1) := by decide +kernel
theorem dX5_isSingle_29 : decode cX5_isSingle 29 = .ok (.goto 4, 3) := by decide +kernel
theorem dX5_isSingle_32 : decode cX5_isSingle 32 = .ok (.iconst 0, 1) := by decide +kernel
theorem dX5_isSingle_33 : decode cX5_isSingle 33 = .ok (.ireturn, 1) := by decide +kernel
theorem dX5_isDouble_0 : decode cX5_isDouble 0 = .ok (.aload_n 0, 1) := by decide +kernel
theorem dX5_isDouble_1 : decode cX5_isDouble 1 = .ok (.getfield 9, 3) := by decide +kernel
theorem dX5_isDouble_4 : decode cX5_isDouble 4 = .ok (.iload_n 2, 1) := by decide +kernel
theorem dX5_isDouble_5 : decode cX5_isDouble 5 = .ok (.invokestatic 46, 3) := by decide +kernel
theorem dX5_isDouble_8 : decode cX5_isDouble 8 = .ok (.lstore 4, 2) := by decide +kernel
theorem dX5_isDouble_10 : decode cX5_isDouble 10 = .ok (.aload_n 0, 1) := by decide +kernel
theorem dX5_isDouble_11 : decode cX5_isDouble 11 = .ok (.getfield 25, 3) := by decide +kernel
theorem dX5_isDouble_14 : decode cX5_isDouble 14 = .ok (.iload_n 2, 1) := by decide +kernel
theorem dX5_isDouble_15 : decode cX5_isDouble 15 = .ok (.invokestatic 87, 3) := by decide +kernel
theorem dX5_isDouble_18 : decode cX5_isDouble 18 = .ok (.iload_n 1, 1) := by decide +kernel
theorem dX5_isDouble_19 : decode cX5_isDouble 19 = .ok (.if_icmp .ne 64, 3) := by decide +kernel
theorem dX5_isDouble_22 : decode cX5_isDouble 22 = .ok (.aload_n 0, 1) := by decide +kernel
theorem dX5_isDouble_23 : decode cX5_isDouble 23 = .ok (.getfield 25, 3) := by decide +kernel
theorem dX5_isDouble_26 : decode cX5_isDouble 26 = .ok (.iload_n 3, 1) := by decide +kernel
theorem dX5_isDouble_27 : decode cX5_isDouble 27 = .ok (.invokestatic 87, 3) := by decide +kernel
theorem dX5_isDouble_30 : decode cX5_isDouble 30 = .ok (.iload_n 1, 1) := by decide +kernel
theorem dX5_isDouble_31 : decode cX5_isDouble 31 = .ok (.if_icmp .ne 52, 3) := by decide +kernel
theorem dX5_isDouble_34 : decode cX5_isDouble 34 = .ok (.lload 4, 2) := by decide +kernel
theorem dX5_isDouble_36 : decode cX5_isDouble 36 = .ok (.invokestatic 78, 3) := by decide +kernel
theorem dX5_isDouble_39 : decode cX5_isDouble 39 = .ok (.iconst 1, 1) := by decide +kernel
theorem dX5_isDouble_40 : decode cX5_isDouble 40 = .ok (.if_icmp .ne 43, 3) := by decide +kernel
theorem dX5_isDouble_43 : decode cX5_isDouble 43 = .ok (.lload 4, 2) := by decide +kernel
theorem dX5_isDouble_45 : decode cX5_isDouble 45 = .ok (.aload_n 0, 1) := by decide +kernel
theorem dX5_isDouble_46 : decode cX5_isDouble 46 = .ok (.getfield 9, 3) := by decide +kernel
theorem dX5_isDouble_49 : decode cX5_isDouble 49 = .ok (.iload_n 3, 1) := by decide +kernel
theorem dX5_isDouble_50 : decode cX5_isDouble 50 = .ok (.invokestatic 46, 3) := by decide +kernel
theorem dX5_isDouble_53 : decode cX5_isDouble 53 = .ok (.lcmp, 1) := by decide +kernel
theorem dX5_isDouble_54 : decode cX5_isDouble 54 = .ok (.ifCond .ne 29, 3) := by decide +kernel
theorem dX5_isDouble_57 : decode cX5_isDouble 57 = .ok (.lload 4, 2) := by decide +kernel
theorem dX5_isDouble_59 : decode cX5_isDouble 59 = .ok (.iload_n 1, 1) := by decide +kernel
theorem dX5_isDouble_60 : decode cX5_isDouble 60 = .ok (.invokestatic 72, 3) := by decide +kernel
theorem dX5_isDouble_63 : decode cX5_isDouble 63 = .ok (.iload_n 2, 1) := by decide +kernel
theorem dX5_isDouble_64 : decode cX5_isDouble 64 = .ok (.invokestatic 72, 3) := by decide +kernel
theorem dX5_isDouble_67 : decode cX5_isDouble 67 = .ok (.lor, 1) := by decide +kernel
theorem dX5_isDouble_68 : decode cX5_isDouble 68 = .ok (.iload_n 3, 1) := by decide +kernel
theorem dX5_isDouble_69 : decode cX5_isDouble 69 = .ok (.invokestatic 72, 3) := by decide +kernel
theorem dX5_isDouble_72 : decode cX5_isDouble 72 = .ok (.lor, 1) := by decide +kernel
theorem dX5_isDouble_73 : decode cX5_isDouble 73 = .ok (.land, 1) := by decide +kernel
theorem dX5_isDouble_74 : decode cX5_isDouble 74 = .ok (.lconst 0, 1) := by decide +kernel
theorem dX5_isDouble_75 : decode cX5_isDouble 75 = .ok (.lcmp, 1) := by decide +kernel
theorem dX5_isDouble_76 : decode cX5_isDouble 76 = .ok (.ifCond .ne 7, 3) := by decide +kernel
theorem dX5_isDouble_79 : decode cX5_isDouble 79 = .ok (.iconst 1, 1) := by decide +kernel
theorem dX5_isDouble_80 : decode cX5_isDouble 80 = .ok (.goto 4, 3) := by decide +kernel
theorem dX5_isDouble_83 : decode cX5_isDouble 83 = .ok (.iconst 0, 1) := by decide +kernel
theorem dX5_isDouble_84 : decode cX5_isDouble 84 = .ok (.ireturn, 1) := by decide +kernel
theorem dX5_ruleFor_0 : decode cX5_ruleFor 0 = .ok (.aload_n 0, 1) := by decide +kernel
theorem dX5_ruleFor_1 : decode cX5_ruleFor 1 = .ok (.getfield 9, 3) := by decide +kernel
theorem dX5_ruleFor_4 : decode cX5_ruleFor 4 = .ok (.iload_n 1, 1) := by decide +kernel
theorem dX5_ruleFor_5 : decode cX5_ruleFor 5 = .ok (.invokestatic 46, 3) := by decide +kernel
theorem dX5_ruleFor_8 : decode cX5_ruleFor 8 = .ok (.lstore_n 2, 1) := by decide +kernel
theorem dX5_ruleFor_9 : decode cX5_ruleFor 9 = .ok (.lload_n 2, 1) := by decide +kernel
theorem dX5_ruleFor_10 : decode cX5_ruleFor 10 = .ok (.iload_n 1, 1) := by decide +kernel
theorem dX5_ruleFor_11 : decode cX5_ruleFor 11 = .ok (.invokestatic 41, 3) := by decide +kernel
theorem dX5_ruleFor_14 : decode cX5_ruleFor 14 = .ok (.ifCond .eq 5, 3) := by decide +kernel
theorem dX5_ruleFor_17 : decode cX5_ruleFor 17 = .ok (.iconst 0, 1) := by decide +kernel
theorem dX5_ruleFor_18 : decode cX5_ruleFor 18 = .ok (.ireturn, 1) := by decide +kernel
theorem dX5_ruleFor_19 : decode cX5_ruleFor 19 = .ok (.lload_n 2, 1) := by decide +kernel
theorem dX5_ruleFor_20 : decode cX5_ruleFor 20 = .ok (.invokestatic 78, 3) := by decide +kernel
theorem dX5_ruleFor_23 : decode cX5_ruleFor 23 = .ok (.istore 4, 2) := by decide +kernel
theorem dX5_ruleFor_25 : decode cX5_ruleFor 25 = .ok (.lload_n 2, 1) := by decide +kernel
theorem dX5_ruleFor_26 : decode cX5_ruleFor 26 = .ok (.invokestatic 84, 3) := by decide +kernel
theorem dX5_ruleFor_29 : decode cX5_ruleFor 29 = .ok (.istore 5, 2) := by decide +kernel
theorem dX5_ruleFor_31 : decode cX5_ruleFor 31 = .ok (.iload 4, 2) := by decide +kernel
theorem dX5_ruleFor_33 : decode cX5_ruleFor 33 = .ok (.iconst 1, 1) := by decide +kernel
theorem dX5_ruleFor_34 : decode cX5_ruleFor 34 = .ok (.if_icmp .ne 22, 3) := by decide +kernel
theorem dX5_ruleFor_37 : decode cX5_ruleFor 37 = .ok (.aload_n 0, 1) := by decide +kernel
theorem dX5_ruleFor_38 : decode cX5_ruleFor 38 = .ok (.getfield 25, 3) := by decide +kernel
theorem dX5_ruleFor_41 : decode cX5_ruleFor 41 = .ok (.iload 5, 2) := by decide +kernel
theorem dX5_ruleFor_43 : decode cX5_ruleFor 43 = .ok (.invokestatic 87, 3) := by decide +kernel
theorem dX5_ruleFor_46 : decode cX5_ruleFor 46 = .ok (.iload_n 1, 1) := by decide +kernel
theorem dX5_ruleFor_47 : decode cX5_ruleFor 47 = .ok (.if_icmp .ne 7, 3) := by decide +kernel
theorem dX5_ruleFor_50 : decode cX5_ruleFor 50 = .ok (.iconst 1, 1) := by decide +kernel
theorem dX5_ruleFor_51 : decode cX5_ruleFor 51 = .ok (.goto 4, 3) := by decide +kernel
theorem dX5_ruleFor_54 : decode cX5_ruleFor 54 = .ok (.iconst (-1), 1) := by decide +kernel
theorem dX5_ruleFor_55 : decode cX5_ruleFor 55 = .ok (.ireturn, 1) := by decide +kernel
theorem dX5_ruleFor_56 : decode cX5_ruleFor 56 = .ok (.iload 4, 2) := by decide +kernel
theorem dX5_ruleFor_58 : decode cX5_ruleFor 58 = .ok (.iconst 2, 1) := by decide +kernel
theorem dX5_ruleFor_59 : decode cX5_ruleFor 59 = .ok (.if_icmp .eq 5, 3) := by decide +kernel
theorem dX5_ruleFor_62 : decode cX5_ruleFor 62 = .ok (.iconst (-1), 1) := by decide +kernel
theorem dX5_ruleFor_63 : decode cX5_ruleFor 63 = .ok (.ireturn, 1) := by decide +kernel
theorem dX5_ruleFor_64 : decode cX5_ruleFor 64 = .ok (.lload_n 2, 1) := by decide +kernel
theorem dX5_ruleFor_65 : decode cX5_ruleFor 65 = .ok (.iload 5, 2) := by decide +kernel
theorem dX5_ruleFor_67 : decode cX5_ruleFor 67 = .ok (.invokestatic 72, 3) := by decide +kernel
theorem dX5_ruleFor_70 : decode cX5_ruleFor 70 = .ok (.ldc2_w 76, 3) := by decide +kernel
theorem dX5_ruleFor_73 : decode cX5_ruleFor 73 = .ok (.lxor, 1) := by decide +kernel
theorem dX5_ruleFor_74 : decode cX5_ruleFor 74 = .ok (.land, 1) := by decide +kernel
theorem dX5_ruleFor_75 : decode cX5_ruleFor 75 = .ok (.invokestatic 84, 3) := by decide +kernel
theorem dX5_ruleFor_78 : decode cX5_ruleFor 78 = .ok (.istore 6, 2) := by decide +kernel
theorem dX5_ruleFor_80 : decode cX5_ruleFor 80 = .ok (.aload_n 0, 1) := by decide +kernel
theorem dX5_ruleFor_81 : decode cX5_ruleFor 81 = .ok (.iload_n 1, 1) := by decide +kernel
theorem dX5_ruleFor_82 : decode cX5_ruleFor 82 = .ok (.iload 5, 2) := by decide +kernel
theorem dX5_ruleFor_84 : decode cX5_ruleFor 84 = .ok (.iload 6, 2) := by decide +kernel
theorem dX5_ruleFor_86 : decode cX5_ruleFor 86 = .ok (.invokevirtual 90, 3) := by decide +kernel
theorem dX5_ruleFor_89 : decode cX5_ruleFor 89 = .ok (.ifCond .ne 15, 3) := by decide +kernel
theorem dX5_ruleFor_92 : decode cX5_ruleFor 92 = .ok (.aload_n 0, 1) := by decide +kernel
theorem dX5_ruleFor_93 : decode cX5_ruleFor 93 = .ok (.iload_n 1, 1) := by decide +kernel
theorem dX5_ruleFor_94 : decode cX5_ruleFor 94 = .ok (.iload 6, 2) := by decide +kernel
theorem dX5_ruleFor_96 : decode cX5_ruleFor 96 = .ok (.iload 5, 2) := by decide +kernel
theorem dX5_ruleFor_98 : decode cX5_ruleFor 98 = .ok (.invokevirtual 90, 3) := by decide +kernel
theorem dX5_ruleFor_101 : decode cX5_ruleFor 101 = .ok (.ifCond .eq 5, 3) := by decide +kernel
theorem dX5_ruleFor_104 : decode cX5_ruleFor 104 = .ok (.iconst 2, 1) := by decide +kernel
theorem dX5_ruleFor_105 : decode cX5_ruleFor 105 = .ok (.ireturn, 1) := by decide +kernel
theorem dX5_ruleFor_106 : decode cX5_ruleFor 106 = .ok (.aload_n 0, 1) := by decide +kernel
theorem dX5_ruleFor_107 : decode cX5_ruleFor 107 = .ok (.iload_n 1, 1) := by decide +kernel
theorem dX5_ruleFor_108 : decode cX5_ruleFor 108 = .ok (.iload 5, 2) := by decide +kernel
theorem dX5_ruleFor_110 : decode cX5_ruleFor 110 = .ok (.iload 6, 2) := by decide +kernel
theorem dX5_ruleFor_112 : decode cX5_ruleFor 112 = .ok (.invokevirtual 94, 3) := by decide +kernel
theorem dX5_ruleFor_115 : decode cX5_ruleFor 115 = .ok (.ifCond .eq 7, 3) := by decide +kernel
theorem dX5_ruleFor_118 : decode cX5_ruleFor 118 = .ok (.iconst 3, 1) := by decide +kernel
theorem dX5_ruleFor_119 : decode cX5_ruleFor 119 = .ok (.goto 4, 3) := by decide +kernel
theorem dX5_ruleFor_122 : decode cX5_ruleFor 122 = .ok (.iconst (-1), 1) := by decide +kernel
theorem dX5_ruleFor_123 : decode cX5_ruleFor 123 = .ok (.ireturn, 1) := by decide +kernel
theorem dX5_merge_0 : decode cX5_merge 0 = .ok (.lconst 0, 1) := by decide +kernel
theorem dX5_merge_1 : decode cX5_merge 1 = .ok (.lstore 5, 2) := by decide +kernel
theorem dX5_merge_3 : decode cX5_merge 3 = .ok (.iconst 0, 1) := by decide +kernel
theorem dX5_merge_4 : decode cX5_merge 4 = .ok (.istore 7, 2) := by decide +kernel
theorem dX5_merge_6 : decode cX5_merge 6 = .ok (.iload 7, 2) := by decide +kernel
theorem dX5_merge_8 : decode cX5_merge 8 = .ok (.bipush 40, 2) := by decide +kernel
theorem dX5_merge_10 : decode cX5_merge 10 = .ok (.if_icmp .ge 42, 3) := by decide +kernel
theorem dX5_merge_13 : decode cX5_merge 13 = .ok (.lload_n 1, 1) := by decide +kernel
theorem dX5_merge_14 : decode cX5_merge 14 = .ok (.iload 7, 2) := by decide +kernel
theorem dX5_merge_16 : decode cX5_merge 16 = .ok (.invokestatic 41, 3) := by decide +kernel
theorem dX5_merge_19 : decode cX5_merge 19 = .ok (.ifCond .eq 27, 3) := by decide +kernel
theorem dX5_merge_22 : decode cX5_merge 22 = .ok (.lload 5, 2) := by decide +kernel
theorem dX5_merge_24 : decode cX5_merge 24 = .ok (.aload_n 0, 1) := by decide +kernel
theorem dX5_merge_25 : decode cX5_merge 25 = .ok (.getfield 9, 3) := by decide +kernel
theorem dX5_merge_28 : decode cX5_merge 28 = .ok (.iload 7, 2) := by decide +kernel
theorem dX5_merge_30 : decode cX5_merge 30 = .ok (.invokestatic 46, 3) := by decide +kernel
theorem dX5_merge_33 : decode cX5_merge 33 = .ok (.lor, 1) := by decide +kernel
theorem dX5_merge_34 : decode cX5_merge 34 = .ok (.lstore 5, 2) := by decide +kernel
theorem dX5_merge_36 : decode cX5_merge 36 = .ok (.aload_n 0, 1) := by decide +kernel
theorem dX5_merge_37 : decode cX5_merge 37 = .ok (.getfield 9, 3) := by decide +kernel
theorem dX5_merge_40 : decode cX5_merge 40 = .ok (.iload 7, 2) := by decide +kernel
theorem dX5_merge_42 : decode cX5_merge 42 = .ok (.lconst 0, 1) := by decide +kernel
theorem dX5_merge_43 : decode cX5_merge 43 = .ok (.invokestatic 50, 3) := by decide +kernel
theorem dX5_merge_46 : decode cX5_merge 46 = .ok (.iinc 7 1, 3) := by decide +kernel
theorem dX5_merge_49 : decode cX5_merge 49 = .ok (.goto (-43), 3) := by decide +kernel
theorem dX5_merge_52 : decode cX5_merge 52 = .ok (.aload_n 0, 1) := by decide +kernel
theorem dX5_merge_53 : decode cX5_merge 53 = .ok (.getfield 9, 3) := by decide +kernel
theorem dX5_merge_56 : decode cX5_merge 56 = .ok (.iload_n 3, 1) := by decide +kernel
theorem dX5_merge_57 : decode cX5_merge 57 = .ok (.lload 5, 2) := by decide +kernel
theorem dX5_merge_59 : decode cX5_merge 59 = .ok (.lload_n 1, 1) := by decide +kernel
theorem dX5_merge_60 : decode cX5_merge 60 = .ok (.ldc2_w 76, 3) := by decide +kernel
theorem dX5_merge_63 : decode cX5_merge 63 = .ok (.lxor, 1) := by decide +kernel
theorem dX5_merge_64 : decode cX5_merge 64 = .ok (.land, 1) := by decide +kernel
theorem dX5_merge_65 : decode cX5_merge 65 = .ok (.iload 4, 2) := by decide +kernel
theorem dX5_merge_67 : decode cX5_merge 67 = .ok (.ifCond .eq 10, 3) := by decide +kernel
theorem dX5_merge_70 : decode cX5_merge 70 = .ok (.iload_n 3, 1) := by decide +kernel
theorem dX5_merge_71 : decode cX5_merge 71 = .ok (.invokestatic 72, 3) := by decide +kernel
theorem dX5_merge_74 : decode cX5_merge 74 = .ok (.goto 4, 3) := by decide +kernel
theorem dX5_merge_77 : decode cX5_merge 77 = .ok (.lconst 0, 1) := by decide +kernel
theorem dX5_merge_78 : decode cX5_merge 78 = .ok (.lor, 1) := by decide +kernel
theorem dX5_merge_79 : decode cX5_merge 79 = .ok (.invokestatic 50, 3) := by decide +kernel
theorem dX5_merge_82 : decode cX5_merge 82 = .ok (.aload_n 0, 1) := by decide +kernel
theorem dX5_merge_83 : decode cX5_merge 83 = .ok (.aload_n 0, 1) := by decide +kernel
theorem dX5_merge_84 : decode cX5_merge 84 = .ok (.getfield 34, 3) := by decide +kernel
theorem dX5_merge_87 : decode cX5_merge 87 = .ok (.lload_n 1, 1) := by decide +kernel
theorem dX5_merge_88 : decode cX5_merge 88 = .ok (.ldc2_w 76, 3) := by decide +kernel
theorem dX5_merge_91 : decode cX5_merge 91 = .ok (.lxor, 1) := by decide +kernel
theorem dX5_merge_92 : decode cX5_merge 92 = .ok (.land, 1) := by decide +kernel
theorem dX5_merge_93 : decode cX5_merge 93 = .ok (.iload_n 3, 1) := by decide +kernel
theorem dX5_merge_94 : decode cX5_merge 94 = .ok (.invokestatic 72, 3) := by decide +kernel
theorem dX5_merge_97 : decode cX5_merge 97 = .ok (.lor, 1) := by decide +kernel
theorem dX5_merge_98 : decode cX5_merge 98 = .ok (.putfield 34, 3) := by decide +kernel
theorem dX5_merge_101 : decode cX5_merge 101 = .ok (.iconst 0, 1) := by decide +kernel
theorem dX5_merge_102 : decode cX5_merge 102 = .ok (.istore 7, 2) := by decide +kernel
theorem dX5_merge_104 : decode cX5_merge 104 = .ok (.iload 7, 2) := by decide +kernel
theorem dX5_merge_106 : decode cX5_merge 106 = .ok (.bipush 40, 2) := by decide +kernel
theorem dX5_merge_108 : decode cX5_merge 108 = .ok (.if_icmp .ge 86, 3) := by decide +kernel
theorem dX5_merge_111 : decode cX5_merge 111 = .ok (.aload_n 0, 1) := by decide +kernel
theorem dX5_merge_112 : decode cX5_merge 112 = .ok (.getfield 9, 3) := by decide +kernel
theorem dX5_merge_115 : decode cX5_merge 115 = .ok (.iload 7, 2) := by decide +kernel
theorem dX5_merge_117 : decode cX5_merge 117 = .ok (.invokestatic 46, 3) := by decide +kernel
theorem dX5_merge_120 : decode cX5_merge 120 = .ok (.lstore 8, 2) := by decide +kernel
theorem dX5_merge_122 : decode cX5_merge 122 = .ok (.lload 8, 2) := by decide +kernel
theorem dX5_merge_124 : decode cX5_merge 124 = .ok (.lload_n 1, 1) := by decide +kernel
theorem dX5_merge_125 : decode cX5_merge 125 = .ok (.land, 1) := by decide +kernel
theorem dX5_merge_126 : decode cX5_merge 126 = .ok (.lconst 0, 1) := by decide +kernel
theorem dX5_merge_127 : decode cX5_merge 127 = .ok (.lcmp, 1) := by decide +kernel
theorem dX5_merge_128 : decode cX5_merge 128 = .ok (.ifCond .eq 25, 3) := by decide +kernel
theorem dX5_merge_131 : decode cX5_merge 131 = .ok (.aload_n 0, 1) := by decide +kernel
theorem dX5_merge_132 : decode cX5_merge 132 = .ok (.getfield 9, 3) := by decide +kernel
theorem dX5_merge_135 : decode cX5_merge 135 = .ok (.iload 7, 2) := by decide +kernel
theorem dX5_merge_137 : decode cX5_merge 137 = .ok (.lload 8, 2) := by decide +kernel
theorem dX5_merge_139 : decode cX5_merge 139 = .ok (.lload_n 1, 1) := by decide +kernel
theorem dX5_merge_140 : decode cX5_merge 140 = .ok (.ldc2_w 76, 3) := by decide +kernel
theorem dX5_merge_143 : decode cX5_merge 143 = .ok (.lxor, 1) := by decide +kernel
theorem dX5_merge_144 : decode cX5_merge 144 = .ok (.land, 1) := by decide +kernel
theorem dX5_merge_145 : decode cX5_merge 145 = .ok (.iload_n 3, 1) := by decide +kernel
theorem dX5_merge_146 : decode cX5_merge 146 = .ok (.invokestatic 72, 3) := by decide +kernel
theorem dX5_merge_149 : decode cX5_merge 149 = .ok (.lor, 1) := by decide +kernel
theorem dX5_merge_150 : decode cX5_merge 150 = .ok (.invokestatic 50, 3) := by decide +kernel
theorem dX5_merge_153 : decode cX5_merge 153 = .ok (.aload_n 0, 1) := by decide +kernel
theorem dX5_merge_154 : decode cX5_merge 154 = .ok (.getfield 15, 3) := by decide +kernel
theorem dX5_merge_157 : decode cX5_merge 157 = .ok (.iload 7, 2) := by decide +kernel
theorem dX5_merge_159 : decode cX5_merge 159 = .ok (.invokestatic 87, 3) := by decide +kernel
theorem dX5_merge_162 : decode cX5_merge 162 = .ok (.istore 10, 2) := by decide +kernel
theorem dX5_merge_164 : decode cX5_merge 164 = .ok (.iload 10, 2) := by decide +kernel
theorem dX5_merge_166 : decode cX5_merge 166 = .ok (.ifCond .lt 22, 3) := by decide +kernel
theorem dX5_merge_169 : decode cX5_merge 169 = .ok (.lload_n 1, 1) := by decide +kernel
theorem dX5_merge_170 : decode cX5_merge 170 = .ok (.iload 10, 2) := by decide +kernel
theorem dX5_merge_172 : decode cX5_merge 172 = .ok (.invokestatic 41, 3) := by decide +kernel
theorem dX5_merge_175 : decode cX5_merge 175 = .ok (.ifCond .eq 13, 3) := by decide +kernel
theorem dX5_merge_178 : decode cX5_merge 178 = .ok (.aload_n 0, 1) := by decide +kernel
theorem dX5_merge_179 : decode cX5_merge 179 = .ok (.getfield 15, 3) := by decide +kernel
theorem dX5_merge_182 : decode cX5_merge 182 = .ok (.iload 7, 2) := by decide +kernel
theorem dX5_merge_184 : decode cX5_merge 184 = .ok (.iload_n 3, 1) := by decide +kernel
theorem dX5_merge_185 : decode cX5_merge 185 = .ok (.invokestatic 54, 3) := by decide +kernel
theorem dX5_merge_188 : decode cX5_merge 188 = .ok (.iinc 7 1, 3) := by decide +kernel
theorem dX5_merge_191 : decode cX5_merge 191 = .ok (.goto (-87), 3) := by decide +kernel
theorem dX5_merge_194 : decode cX5_merge 194 = .ok (.return_, 1) := by decide +kernel
theorem dX5_apply_0 : decode cX5_apply 0 = .ok (.aload_n 0, 1) := by decide +kernel
theorem dX5_apply_1 : decode cX5_apply 1 = .ok (.getfield 9, 3) := by decide +kernel
theorem dX5_apply_4 : decode cX5_apply 4 = .ok (.iload_n 2, 1) := by decide +kernel
theorem dX5_apply_5 : decode cX5_apply 5 = .ok (.invokestatic 46, 3) := by decide +kernel
theorem dX5_apply_8 : decode cX5_apply 8 = .ok (.lstore_n 3, 1) := by decide +kernel
theorem dX5_apply_9 : decode cX5_apply 9 = .ok (.iload_n 1, 1) := by decide +kernel
theorem dX5_apply_10 : decode cX5_apply 10 = .ok (.ifCond .ne 22, 3) := by decide +kernel
theorem dX5_apply_13 : decode cX5_apply 13 = .ok (.aload_n 0, 1) := by decide +kernel
theorem dX5_apply_14 : decode cX5_apply 14 = .ok (.getfield 9, 3) := by decide +kernel
theorem dX5_apply_17 : decode cX5_apply 17 = .ok (.iload_n 2, 1) := by decide +kernel
theorem dX5_apply_18 : decode cX5_apply 18 = .ok (.lload_n 3, 1) := by decide +kernel
theorem dX5_apply_19 : decode cX5_apply 19 = .ok (.iload_n 2, 1) := by decide +kernel
theorem dX5_apply_20 : decode cX5_apply 20 = .ok (.invokestatic 72, 3) := by decide +kernel
theorem dX5_apply_23 : decode cX5_apply 23 = .ok (.ldc2_w 76, 3) := by decide +kernel
theorem dX5_apply_26 : decode cX5_apply 26 = .ok (.lxor, 1) := by decide +kernel
theorem dX5_apply_27 : decode cX5_apply 27 = .ok (.land, 1) := by decide +kernel
theorem dX5_apply_28 : decode cX5_apply 28 = .ok (.invokestatic 50, 3) := by decide +kernel
theorem dX5_apply_31 : decode cX5_apply 31 = .ok (.return_, 1) := by decide +kernel
theorem dX5_apply_32 : decode cX5_apply 32 = .ok (.iload_n 2, 1) := by decide +kernel
theorem dX5_apply_33 : decode cX5_apply 33 = .ok (.invokestatic 72, 3) := by decide +kernel
theorem dX5_apply_36 : decode cX5_apply 36 = .ok (.lload_n 3, 1) := by decide +kernel
theorem dX5_apply_37 : decode cX5_apply 37 = .ok (.lor, 1) := by decide +kernel
theorem dX5_apply_38 : decode cX5_apply 38 = .ok (.lstore 5, 2) := by decide +kernel
theorem dX5_apply_40 : decode cX5_apply 40 = .ok (.iload_n 1, 1) := by decide +kernel
theorem dX5_apply_41 : decode cX5_apply 41 = .ok (.iconst 2, 1) := by decide +kernel
theorem dX5_apply_42 : decode cX5_apply 42 = .ok (.if_icmp .ne 56, 3) := by decide +kernel
theorem dX5_apply_45 : decode cX5_apply 45 = .ok (.lload_n 3, 1) := by decide +kernel
theorem dX5_apply_46 : decode cX5_apply 46 = .ok (.invokestatic 84, 3) := by decide +kernel
theorem dX5_apply_49 : decode cX5_apply 49 = .ok (.istore 7, 2) := by decide +kernel
theorem dX5_apply_51 : decode cX5_apply 51 = .ok (.lload_n 3, 1) := by decide +kernel
theorem dX5_apply_52 : decode cX5_apply 52 = .ok (.iload 7, 2) := by decide +kernel
theorem dX5_apply_54 : decode cX5_apply 54 = .ok (.invokestatic 72, 3) := by decide +kernel
theorem dX5_apply_57 : decode cX5_apply 57 = .ok (.ldc2_w 76, 3) := by decide +kernel
theorem dX5_apply_60 : decode cX5_apply 60 = .ok (.lxor, 1) := by decide +kernel
theorem dX5_apply_61 : decode cX5_apply 61 = .ok (.land, 1) := by decide +kernel
theorem dX5_apply_62 : decode cX5_apply 62 = .ok (.invokestatic 84, 3) := by decide +kernel
theorem dX5_apply_65 : decode cX5_apply 65 = .ok (.istore 8, 2) := by decide +kernel
theorem dX5_apply_67 : decode cX5_apply 67 = .ok (.lload 5, 2) := by decide +kernel
theorem dX5_apply_69 : decode cX5_apply 69 = .ok (.aload_n 0, 1) := by decide +kernel
theorem dX5_apply_70 : decode cX5_apply 70 = .ok (.iload_n 2, 1) := by decide +kernel
theorem dX5_apply_71 : decode cX5_apply 71 = .ok (.iload 7, 2) := by decide +kernel
theorem dX5_apply_73 : decode cX5_apply 73 = .ok (.iload 8, 2) := by decide +kernel
theorem dX5_apply_75 : decode cX5_apply 75 = .ok (.invokevirtual 90, 3) := by decide +kernel
theorem dX5_apply_78 : decode cX5_apply 78 = .ok (.ifCond .eq 8, 3) := by decide +kernel
theorem dX5_apply_81 : decode cX5_apply 81 = .ok (.iload 8, 2) := by decide +kernel
theorem dX5_apply_83 : decode cX5_apply 83 = .ok (.goto 5, 3) := by decide +kernel
theorem dX5_apply_86 : decode cX5_apply 86 = .ok (.iload 7, 2) := by decide +kernel
theorem dX5_apply_88 : decode cX5_apply 88 = .ok (.invokestatic 72, 3) := by decide +kernel
theorem dX5_apply_91 : decode cX5_apply 91 = .ok (.ldc2_w 76, 3) := by decide +kernel
theorem dX5_apply_94 : decode cX5_apply 94 = .ok (.lxor, 1) := by decide +kernel
theorem dX5_apply_95 : decode cX5_apply 95 = .ok (.land, 1) := by decide +kernel
theorem dX5_apply_96 : decode cX5_apply 96 = .ok (.lstore 5, 2) := by decide +kernel
theorem dX5_apply_98 : decode cX5_apply 98 = .ok (.iload_n 1, 1) := by decide +kernel
theorem dX5_apply_99 : decode cX5_apply 99 = .ok (.iconst 1, 1) := by decide +kernel
theorem dX5_apply_100 : decode cX5_apply 100 = .ok (.if_icmp .ne 25, 3) := by decide +kernel
theorem dX5_apply_103 : decode cX5_apply 103 = .ok (.aload_n 0, 1) := by decide +kernel
theorem dX5_apply_104 : decode cX5_apply 104 = .ok (.getfield 9, 3) := by decide +kernel
theorem dX5_apply_107 : decode cX5_apply 107 = .ok (.lload_n 3, 1) := by decide +kernel
theorem dX5_apply_108 : decode cX5_apply 108 = .ok (.invokestatic 84, 3) := by decide +kernel
theorem dX5_apply_111 : decode cX5_apply 111 = .ok (.invokestatic 46, 3) := by decide +kernel
theorem dX5_apply_114 : decode cX5_apply 114 = .ok (.iload_n 2, 1) := by decide +kernel
theorem dX5_apply_115 : decode cX5_apply 115 = .ok (.invokestatic 41, 3) := by decide +kernel
theorem dX5_apply_118 : decode cX5_apply 118 = .ok (.ifCond .eq 7, 3) := by decide +kernel
theorem dX5_apply_121 : decode cX5_apply 121 = .ok (.iconst 1, 1) := by decide +kernel
theorem dX5_apply_122 : decode cX5_apply 122 = .ok (.goto 4, 3) := by decide +kernel
theorem dX5_apply_125 : decode cX5_apply 125 = .ok (.iconst 0, 1) := by decide +kernel
theorem dX5_apply_126 : decode cX5_apply 126 = .ok (.istore 7, 2) := by decide +kernel
theorem dX5_apply_128 : decode cX5_apply 128 = .ok (.aload_n 0, 1) := by decide +kernel
theorem dX5_apply_129 : decode cX5_apply 129 = .ok (.lload 5, 2) := by decide +kernel
theorem dX5_apply_131 : decode cX5_apply 131 = .ok (.lload 5, 2) := by decide +kernel
theorem dX5_apply_133 : decode cX5_apply 133 = .ok (.invokestatic 84, 3) := by decide +kernel
theorem dX5_apply_136 : decode cX5_apply 136 = .ok (.iload 7, 2) := by decide +kernel
theorem dX5_apply_138 : decode cX5_apply 138 = .ok (.invokevirtual 97, 3) := by decide +kernel
theorem dX5_apply_141 : decode cX5_apply 141 = .ok (.return_, 1) := by decide +kernel
theorem dX5_findEntries_0 : decode cX5_findEntries 0 = .ok (.lconst 0, 1) := by decide +kernel
theorem dX5_findEntries_1 : decode cX5_findEntries 1 = .ok (.lstore_n 1, 1) := by decide +kernel
theorem dX5_findEntries_2 : decode cX5_findEntries 2 = .ok (.bipush 40, 2) := by decide +kernel
theorem dX5_findEntries_4 : decode cX5_findEntries 4 = .ok (.invokestatic 72, 3) := by decide +kernel
theorem dX5_findEntries_7 : decode cX5_findEntries 7 = .ok (.lconst 1, 1) := by decide +kernel
theorem dX5_findEntries_8 : decode cX5_findEntries 8 = .ok (.lor, 1) := by decide +kernel
theorem dX5_findEntries_9 : decode cX5_findEntries 9 = .ok (.lstore_n 3, 1) := by decide +kernel
theorem dX5_findEntries_10 : decode cX5_findEntries 10 = .ok (.iconst 0, 1) := by decide +kernel
theorem dX5_findEntries_11 : decode cX5_findEntries 11 = .ok (.istore 5, 2) := by decide +kernel
theorem dX5_findEntries_13 : decode cX5_findEntries 13 = .ok (.iload 5, 2) := by decide +kernel
theorem dX5_findEntries_15 : decode cX5_findEntries 15 = .ok (.bipush 40, 2) := by decide +kernel
theorem dX5_findEntries_17 : decode cX5_findEntries 17 = .ok (.if_icmp .ge 32, 3) := by decide +kernel
theorem dX5_findEntries_20 : decode cX5_findEntries 20 = .ok (.aload_n 0, 1) := by decide +kernel
theorem dX5_findEntries_21 : decode cX5_findEntries 21 = .ok (.getfield 9, 3) := by decide +kernel
theorem dX5_findEntries_24 : decode cX5_findEntries 24 = .ok (.iload 5, 2) := by decide +kernel
theorem dX5_findEntries_26 : decode cX5_findEntries 26 = .ok (.invokestatic 46, 3) := by decide +kernel
theorem dX5_findEntries_29 : decode cX5_findEntries 29 = .ok (.lstore 6, 2) := by decide +kernel
theorem dX5_findEntries_31 : decode cX5_findEntries 31 = .ok (.lload_n 3, 1) := by decide +kernel
theorem dX5_findEntries_32 : decode cX5_findEntries 32 = .ok (.lload_n 1, 1) := by decide +kernel
theorem dX5_findEntries_33 : decode cX5_findEntries 33 = .ok (.lload 6, 2) := by decide +kernel
theorem dX5_findEntries_35 : decode cX5_findEntries 35 = .ok (.land, 1) := by decide +kernel
theorem dX5_findEntries_36 : decode cX5_findEntries 36 = .ok (.lor, 1) := by decide +kernel
theorem dX5_findEntries_37 : decode cX5_findEntries 37 = .ok (.lstore_n 3, 1) := by decide +kernel
theorem dX5_findEntries_38 : decode cX5_findEntries 38 = .ok (.lload_n 1, 1) := by decide +kernel
theorem dX5_findEntries_39 : decode cX5_findEntries 39 = .ok (.lload 6, 2) := by decide +kernel
theorem dX5_findEntries_41 : decode cX5_findEntries 41 = .ok (.lor, 1) := by decide +kernel
theorem dX5_findEntries_42 : decode cX5_findEntries 42 = .ok (.lstore_n 1, 1) := by decide +kernel
theorem dX5_findEntries_43 : decode cX5_findEntries 43 = .ok (.iinc 5 1, 3) := by decide +kernel
theorem dX5_findEntries_46 : decode cX5_findEntries 46 = .ok (.goto (-33), 3) := by decide +kernel
theorem dX5_findEntries_49 : decode cX5_findEntries 49 = .ok (.lload_n 1, 1) := by decide +kernel
theorem dX5_findEntries_50 : decode cX5_findEntries 50 = .ok (.lload_n 3, 1) := by decide +kernel
theorem dX5_findEntries_51 : decode cX5_findEntries 51 = .ok (.ldc2_w 76, 3) := by decide +kernel
theorem dX5_findEntries_54 : decode cX5_findEntries 54 = .ok (.lxor, 1) := by decide +kernel
theorem dX5_findEntries_55 : decode cX5_findEntries 55 = .ok (.land, 1) := by decide +kernel
theorem dX5_findEntries_56 : decode cX5_findEntries 56 = .ok (.lstore 5, 2) := by decide +kernel
theorem dX5_findEntries_58 : decode cX5_findEntries 58 = .ok (.iconst 0, 1) := by decide +kernel
theorem dX5_findEntries_59 : decode cX5_findEntries 59 = .ok (.istore 7, 2) := by decide +kernel
theorem dX5_findEntries_61 : decode cX5_findEntries 61 = .ok (.iload 7, 2) := by decide +kernel
theorem dX5_findEntries_63 : decode cX5_findEntries 63 = .ok (.bipush 40, 2) := by decide +kernel
theorem dX5_findEntries_65 : decode cX5_findEntries 65 = .ok (.if_icmp .gt 19, 3) := by decide +kernel
theorem dX5_findEntries_68 : decode cX5_findEntries 68 = .ok (.aload_n 0, 1) := by decide +kernel
theorem dX5_findEntries_69 : decode cX5_findEntries 69 = .ok (.getfield 25, 3) := by decide +kernel
theorem dX5_findEntries_72 : decode cX5_findEntries 72 = .ok (.iload 7, 2) := by decide +kernel
theorem dX5_findEntries_74 : decode cX5_findEntries 74 = .ok (.iconst (-1), 1) := by decide +kernel
theorem dX5_findEntries_75 : decode cX5_findEntries 75 = .ok (.invokestatic 54, 3) := by decide +kernel
theorem dX5_findEntries_78 : decode cX5_findEntries 78 = .ok (.iinc 7 1, 3) := by decide +kernel
theorem dX5_findEntries_81 : decode cX5_findEntries 81 = .ok (.goto (-20), 3) := by decide +kernel
theorem dX5_findEntries_84 : decode cX5_findEntries 84 = .ok (.iconst 0, 1) := by decide +kernel
theorem dX5_findEntries_85 : decode cX5_findEntries 85 = .ok (.istore 7, 2) := by decide +kernel
theorem dX5_findEntries_87 : decode cX5_findEntries 87 = .ok (.iload 7, 2) := by decide +kernel
theorem dX5_findEntries_89 : decode cX5_findEntries 89 = .ok (.bipush 40, 2) := by decide +kernel
theorem dX5_findEntries_91 : decode cX5_findEntries 91 = .ok (.if_icmp .ge 67, 3) := by decide +kernel
theorem dX5_findEntries_94 : decode cX5_findEntries 94 = .ok (.aload_n 0, 1) := by decide +kernel
theorem dX5_findEntries_95 : decode cX5_findEntries 95 = .ok (.getfield 9, 3) := by decide +kernel
theorem dX5_findEntries_98 : decode cX5_findEntries 98 = .ok (.iload 7, 2) := by decide +kernel
theorem dX5_findEntries_100 : decode cX5_findEntries 100 = .ok (.invokestatic 46, 3) := by decide +kernel
theorem dX5_findEntries_103 : decode cX5_findEntries 103 = .ok (.lload 5, 2) := by decide +kernel
theorem dX5_findEntries_105 : decode cX5_findEntries 105 = .ok (.land, 1) := by decide +kernel
theorem dX5_findEntries_106 : decode cX5_findEntries 106 = .ok (.lstore 8, 2) := by decide +kernel
theorem dX5_findEntries_108 : decode cX5_findEntries 108 = .ok (.iconst 0, 1) := by decide +kernel
theorem dX5_findEntries_109 : decode cX5_findEntries 109 = .ok (.istore 10, 2) := by decide +kernel
theorem dX5_findEntries_111 : decode cX5_findEntries 111 = .ok (.iload 10, 2) := by decide +kernel
theorem dX5_findEntries_113 : decode cX5_findEntries 113 = .ok (.bipush 40, 2) := by decide +kernel
theorem dX5_findEntries_115 : decode cX5_findEntries 115 = .ok (.if_icmp .ge 37, 3) := by decide +kernel
theorem dX5_findEntries_118 : decode cX5_findEntries 118 = .ok (.lload 8, 2) := by decide +kernel
theorem dX5_findEntries_120 : decode cX5_findEntries 120 = .ok (.lconst 0, 1) := by decide +kernel
theorem dX5_findEntries_121 : decode cX5_findEntries 121 = .ok (.lcmp, 1) := by decide +kernel
theorem dX5_findEntries_122 : decode cX5_findEntries 122 = .ok (.ifCond .eq 30, 3) := by decide +kernel
theorem dX5_findEntries_125 : decode cX5_findEntries 125 = .ok (.lload 8, 2) := by decide +kernel
theorem dX5_findEntries_127 : decode cX5_findEntries 127 = .ok (.iload 10, 2) := by decide +kernel
theorem dX5_findEntries_129 : decode cX5_findEntries 129 = .ok (.invokestatic 41, 3) := by decide +kernel
theorem dX5_findEntries_132 : decode cX5_findEntries 132 = .ok (.ifCond .eq 14, 3) := by decide +kernel
theorem dX5_findEntries_135 : decode cX5_findEntries 135 = .ok (.aload_n 0, 1) := by decide +kernel
theorem dX5_findEntries_136 : decode cX5_findEntries 136 = .ok (.getfield 25, 3) := by decide +kernel
theorem dX5_findEntries_139 : decode cX5_findEntries 139 = .ok (.iload 10, 2) := by decide +kernel
theorem dX5_findEntries_141 : decode cX5_findEntries 141 = .ok (.iload 7, 2) := by decide +kernel
theorem dX5_findEntries_143 : decode cX5_findEntries 143 = .ok (.invokestatic 54, 3) := by decide +kernel
theorem dX5_findEntries_146 : decode cX5_findEntries 146 = .ok (.iinc 10 1, 3) := by decide +kernel
theorem dX5_findEntries_149 : decode cX5_findEntries 149 = .ok (.goto (-38), 3) := by decide +kernel
theorem dX5_findEntries_152 : decode cX5_findEntries 152 = .ok (.iinc 7 1, 3) := by decide +kernel
theorem dX5_findEntries_155 : decode cX5_findEntries 155 = .ok (.goto (-68), 3) := by decide +kernel
theorem dX5_findEntries_158 : decode cX5_findEntries 158 = .ok (.return_, 1) := by decide +kernel
theorem dX5_takeStep_0 : decode cX5_takeStep 0 = .ok (.aload_n 0, 1) := by decide +kernel
theorem dX5_takeStep_1 : decode cX5_takeStep 1 = .ok (.invokevirtual 61, 3) := by decide +kernel
theorem dX5_takeStep_4 : decode cX5_takeStep 4 = .ok (.iconst 0, 1) := by decide +kernel
theorem dX5_takeStep_5 : decode cX5_takeStep 5 = .ok (.istore_n 1, 1) := by decide +kernel
theorem dX5_takeStep_6 : decode cX5_takeStep 6 = .ok (.iload_n 1, 1) := by decide +kernel
theorem dX5_takeStep_7 : decode cX5_takeStep 7 = .ok (.bipush 40, 2) := by decide +kernel
theorem dX5_takeStep_9 : decode cX5_takeStep 9 = .ok (.if_icmp .ge 77, 3) := by decide +kernel
theorem dX5_takeStep_12 : decode cX5_takeStep 12 = .ok (.aload_n 0, 1) := by decide +kernel
theorem dX5_takeStep_13 : decode cX5_takeStep 13 = .ok (.getfield 34, 3) := by decide +kernel
theorem dX5_takeStep_16 : decode cX5_takeStep 16 = .ok (.iload_n 1, 1) := by decide +kernel
theorem dX5_takeStep_17 : decode cX5_takeStep 17 = .ok (.invokestatic 41, 3) := by decide +kernel
theorem dX5_takeStep_20 : decode cX5_takeStep 20 = .ok (.ifCond .eq 11, 3) := by decide +kernel
theorem dX5_takeStep_23 : decode cX5_takeStep 23 = .ok (.aload_n 0, 1) := by decide +kernel
theorem dX5_takeStep_24 : decode cX5_takeStep 24 = .ok (.iload_n 1, 1) := by decide +kernel
theorem dX5_takeStep_25 : decode cX5_takeStep 25 = .ok (.invokevirtual 64, 3) := by decide +kernel
theorem dX5_takeStep_28 : decode cX5_takeStep 28 = .ok (.goto 4, 3) := by decide +kernel
theorem dX5_takeStep_31 : decode cX5_takeStep 31 = .ok (.iconst (-1), 1) := by decide +kernel
theorem dX5_takeStep_32 : decode cX5_takeStep 32 = .ok (.istore_n 2, 1) := by decide +kernel
theorem dX5_takeStep_33 : decode cX5_takeStep 33 = .ok (.iload_n 2, 1) := by decide +kernel
theorem dX5_takeStep_34 : decode cX5_takeStep 34 = .ok (.iconst (-1), 1) := by decide +kernel
theorem dX5_takeStep_35 : decode cX5_takeStep 35 = .ok (.if_icmp .eq 45, 3) := by decide +kernel
theorem dX5_takeStep_38 : decode cX5_takeStep 38 = .ok (.aload_n 0, 1) := by decide +kernel
theorem dX5_takeStep_39 : decode cX5_takeStep 39 = .ok (.getfield 19, 3) := by decide +kernel
theorem dX5_takeStep_42 : decode cX5_takeStep 42 = .ok (.aload_n 0, 1) := by decide +kernel
theorem dX5_takeStep_43 : decode cX5_takeStep 43 = .ok (.getfield 37, 3) := by decide +kernel
theorem dX5_takeStep_46 : decode cX5_takeStep 46 = .ok (.iload_n 2, 1) := by decide +kernel
theorem dX5_takeStep_47 : decode cX5_takeStep 47 = .ok (.invokestatic 54, 3) := by decide +kernel
theorem dX5_takeStep_50 : decode cX5_takeStep 50 = .ok (.aload_n 0, 1) := by decide +kernel
theorem dX5_takeStep_51 : decode cX5_takeStep 51 = .ok (.getfield 22, 3) := by decide +kernel
theorem dX5_takeStep_54 : decode cX5_takeStep 54 = .ok (.aload_n 0, 1) := by decide +kernel
theorem dX5_takeStep_55 : decode cX5_takeStep 55 = .ok (.getfield 37, 3) := by decide +kernel
theorem dX5_takeStep_58 : decode cX5_takeStep 58 = .ok (.iload_n 1, 1) := by decide +kernel
theorem dX5_takeStep_59 : decode cX5_takeStep 59 = .ok (.invokestatic 54, 3) := by decide +kernel
theorem dX5_takeStep_62 : decode cX5_takeStep 62 = .ok (.aload_n 0, 1) := by decide +kernel
theorem dX5_takeStep_63 : decode cX5_takeStep 63 = .ok (.dup, 1) := by decide +kernel
theorem dX5_takeStep_64 : decode cX5_takeStep 64 = .ok (.getfield 37, 3) := by decide +kernel
theorem dX5_takeStep_67 : decode cX5_takeStep 67 = .ok (.iconst 1, 1) := by decide +kernel
theorem dX5_takeStep_68 : decode cX5_takeStep 68 = .ok (.iadd, 1) := by decide +kernel
theorem dX5_takeStep_69 : decode cX5_takeStep 69 = .ok (.putfield 37, 3) := by decide +kernel
theorem dX5_takeStep_72 : decode cX5_takeStep 72 = .ok (.aload_n 0, 1) := by decide +kernel
theorem dX5_takeStep_73 : decode cX5_takeStep 73 = .ok (.iload_n 2, 1) := by decide +kernel
theorem dX5_takeStep_74 : decode cX5_takeStep 74 = .ok (.iload_n 1, 1) := by decide +kernel
theorem dX5_takeStep_75 : decode cX5_takeStep 75 = .ok (.invokevirtual 68, 3) := by decide +kernel
theorem dX5_takeStep_78 : decode cX5_takeStep 78 = .ok (.iconst 1, 1) := by decide +kernel
theorem dX5_takeStep_79 : decode cX5_takeStep 79 = .ok (.ireturn, 1) := by decide +kernel
theorem dX5_takeStep_80 : decode cX5_takeStep 80 = .ok (.iinc 1 1, 3) := by decide +kernel
theorem dX5_takeStep_83 : decode cX5_takeStep 83 = .ok (.goto (-77), 3) := by decide +kernel
theorem dX5_takeStep_86 : decode cX5_takeStep 86 = .ok (.iconst 0, 1) := by decide +kernel
theorem dX5_takeStep_87 : decode cX5_takeStep 87 = .ok (.ireturn, 1) := by decide +kernel
theorem dX5_reduce_0 : decode cX5_reduce 0 = .ok (.aload_n 0, 1) := by decide +kernel
theorem dX5_reduce_1 : decode cX5_reduce 1 = .ok (.aload_n 1, 1) := by decide +kernel
theorem dX5_reduce_2 : decode cX5_reduce 2 = .ok (.getfield 28, 3) := by decide +kernel
theorem dX5_reduce_5 : decode cX5_reduce 5 = .ok (.putfield 34, 3) := by decide +kernel
theorem dX5_reduce_8 : decode cX5_reduce 8 = .ok (.aload_n 0, 1) := by decide +kernel
theorem dX5_reduce_9 : decode cX5_reduce 9 = .ok (.iconst 0, 1) := by decide +kernel
theorem dX5_reduce_10 : decode cX5_reduce 10 = .ok (.putfield 37, 3) := by decide +kernel
theorem dX5_reduce_13 : decode cX5_reduce 13 = .ok (.iconst 0, 1) := by decide +kernel
theorem dX5_reduce_14 : decode cX5_reduce 14 = .ok (.istore_n 2, 1) := by decide +kernel
theorem dX5_reduce_15 : decode cX5_reduce 15 = .ok (.iload_n 2, 1) := by decide +kernel
theorem dX5_reduce_16 : decode cX5_reduce 16 = .ok (.bipush 40, 2) := by decide +kernel
theorem dX5_reduce_18 : decode cX5_reduce 18 = .ok (.if_icmp .ge 59, 3) := by decide +kernel
theorem dX5_reduce_21 : decode cX5_reduce 21 = .ok (.aload_n 0, 1) := by decide +kernel
theorem dX5_reduce_22 : decode cX5_reduce 22 = .ok (.getfield 34, 3) := by decide +kernel
theorem dX5_reduce_25 : decode cX5_reduce 25 = .ok (.iload_n 2, 1) := by decide +kernel
theorem dX5_reduce_26 : decode cX5_reduce 26 = .ok (.invokestatic 41, 3) := by decide +kernel
theorem dX5_reduce_29 : decode cX5_reduce 29 = .ok (.istore_n 3, 1) := by decide +kernel
theorem dX5_reduce_30 : decode cX5_reduce 30 = .ok (.aload_n 0, 1) := by decide +kernel
theorem dX5_reduce_31 : decode cX5_reduce 31 = .ok (.getfield 9, 3) := by decide +kernel
theorem dX5_reduce_34 : decode cX5_reduce 34 = .ok (.iload_n 2, 1) := by decide +kernel
theorem dX5_reduce_35 : decode cX5_reduce 35 = .ok (.iload_n 3, 1) := by decide +kernel
theorem dX5_reduce_36 : decode cX5_reduce 36 = .ok (.ifCond .eq 14, 3) := by decide +kernel
theorem dX5_reduce_39 : decode cX5_reduce 39 = .ok (.aload_n 1, 1) := by decide +kernel
theorem dX5_reduce_40 : decode cX5_reduce 40 = .ok (.getfield 45, 3) := by decide +kernel
theorem dX5_reduce_43 : decode cX5_reduce 43 = .ok (.iload_n 2, 1) := by decide +kernel
theorem dX5_reduce_44 : decode cX5_reduce 44 = .ok (.invokestatic 46, 3) := by decide +kernel
theorem dX5_reduce_47 : decode cX5_reduce 47 = .ok (.goto 4, 3) := by decide +kernel
theorem dX5_reduce_50 : decode cX5_reduce 50 = .ok (.lconst 0, 1) := by decide +kernel
theorem dX5_reduce_51 : decode cX5_reduce 51 = .ok (.invokestatic 50, 3) := by decide +kernel
theorem dX5_reduce_54 : decode cX5_reduce 54 = .ok (.aload_n 0, 1) := by decide +kernel
theorem dX5_reduce_55 : decode cX5_reduce 55 = .ok (.getfield 15, 3) := by decide +kernel
theorem dX5_reduce_58 : decode cX5_reduce 58 = .ok (.iload_n 2, 1) := by decide +kernel
theorem dX5_reduce_59 : decode cX5_reduce 59 = .ok (.iload_n 3, 1) := by decide +kernel
theorem dX5_reduce_60 : decode cX5_reduce 60 = .ok (.ifCond .eq 7, 3) := by decide +kernel
theorem dX5_reduce_63 : decode cX5_reduce 63 = .ok (.iload_n 2, 1) := by decide +kernel
theorem dX5_reduce_64 : decode cX5_reduce 64 = .ok (.goto 4, 3) := by decide +kernel
theorem dX5_reduce_67 : decode cX5_reduce 67 = .ok (.iconst (-1), 1) := by decide +kernel
theorem dX5_reduce_68 : decode cX5_reduce 68 = .ok (.invokestatic 54, 3) := by decide +kernel
theorem dX5_reduce_71 : decode cX5_reduce 71 = .ok (.iinc 2 1, 3) := by decide +kernel
theorem dX5_reduce_74 : decode cX5_reduce 74 = .ok (.goto (-59), 3) := by decide +kernel
theorem dX5_reduce_77 : decode cX5_reduce 77 = .ok (.iconst 1, 1) := by decide +kernel
theorem dX5_reduce_78 : decode cX5_reduce 78 = .ok (.istore_n 2, 1) := by decide +kernel
theorem dX5_reduce_79 : decode cX5_reduce 79 = .ok (.iconst 0, 1) := by decide +kernel
theorem dX5_reduce_80 : decode cX5_reduce 80 = .ok (.istore_n 3, 1) := by decide +kernel
theorem dX5_reduce_81 : decode cX5_reduce 81 = .ok (.iload_n 3, 1) := by decide +kernel
theorem dX5_reduce_82 : decode cX5_reduce 82 = .ok (.bipush 120, 2) := by decide +kernel
theorem dX5_reduce_84 : decode cX5_reduce 84 = .ok (.if_icmp .ge 18, 3) := by decide +kernel
theorem dX5_reduce_87 : decode cX5_reduce 87 = .ok (.iload_n 2, 1) := by decide +kernel
theorem dX5_reduce_88 : decode cX5_reduce 88 = .ok (.ifCond .eq 14, 3) := by decide +kernel
theorem dX5_reduce_91 : decode cX5_reduce 91 = .ok (.aload_n 0, 1) := by decide +kernel
theorem dX5_reduce_92 : decode cX5_reduce 92 = .ok (.invokevirtual 57, 3) := by decide +kernel
theorem dX5_reduce_95 : decode cX5_reduce 95 = .ok (.istore_n 2, 1) := by decide +kernel
theorem dX5_reduce_96 : decode cX5_reduce 96 = .ok (.iinc 3 1, 3) := by decide +kernel
theorem dX5_reduce_99 : decode cX5_reduce 99 = .ok (.goto (-18), 3) := by decide +kernel
theorem dX5_reduce_102 : decode cX5_reduce 102 = .ok (.return_, 1) := by decide +kernel
theorem mw_165 : Cond.fieldLink RX5 25 "OrielChart$Reduction" "entry" "[I" ∈ GW := gw_mem (inT1 _ (List.mem_of_getElem? (i := 185) rfl)) rfl
theorem mw_166 : Cond.fieldLink RX5 9 "OrielChart$Reduction" "next" "[J" ∈ GW := gw_mem (inT1 _ (List.mem_of_getElem? (i := 178) rfl)) rfl
theorem mw_167 : Cond.methodLink RX5 78 yJ13_bitCount_95d88 ∈ GW := gw_mem (inT2 _ (List.mem_of_getElem? (i := 231) rfl)) rfl
theorem mw_168 : Cond.constantLong RX5 76 (-1) ∈ GW := gw_mem (inT2 _ (List.mem_of_getElem? (i := 226) rfl)) rfl
theorem mw_169 : Cond.code yX5_isSingle cX5_isSingle 4 (some Jvm.ClassFile.FieldType.boolean) ∈ GW := gw_mem (inT2 _ (List.mem_of_getElem? (i := 237) rfl)) rfl
theorem mw_170 : Cond.methodLink RX5 90 yX5_isSingle ∈ GW := gw_mem (inT2 _ (List.mem_of_getElem? (i := 234) rfl)) rfl
theorem mw_171 : Cond.instanceMethod yX5_isSingle ∈ GW := gw_mem (inT2 _ (List.mem_of_getElem? (i := 236) rfl)) rfl
theorem mw_172 : Cond.selects RX5 yX5_isSingle yX5_isSingle ∈ GW := gw_mem (inTp (q := (yX5_isSingle, 8)) (List.mem_of_getElem? (i := 15) rfl)) rfl
theorem mw_173 : Cond.initialized RX5 ∈ GW := gw_mem (inT1 _ (List.mem_of_getElem? (i := 6) rfl)) rfl
theorem mw_174 : Cond.code yX5_isDouble cX5_isDouble 6 (some Jvm.ClassFile.FieldType.boolean) ∈ GW := gw_mem (inT3 _ (List.mem_of_getElem? (i := 1) rfl)) rfl
theorem mw_175 : Cond.methodLink RX5 94 yX5_isDouble ∈ GW := gw_mem (inT2 _ (List.mem_of_getElem? (i := 238) rfl)) rfl
theorem mw_176 : Cond.instanceMethod yX5_isDouble ∈ GW := gw_mem (inT3 _ (List.mem_of_getElem? (i := 0) rfl)) rfl
theorem mw_177 : Cond.selects RX5 yX5_isDouble yX5_isDouble ∈ GW := gw_mem (inTp (q := (yX5_isDouble, 8)) (List.mem_of_getElem? (i := 16) rfl)) rfl
theorem mw_178 : Cond.fieldLink RX5 34 "OrielChart$Reduction" "nodes" "J" ∈ GW := gw_mem (inT1 _ (List.mem_of_getElem? (i := 186) rfl)) rfl
theorem mw_179 : Cond.fieldLink RX5 15 "OrielChart$Reduction" "home" "[I" ∈ GW := gw_mem (inT1 _ (List.mem_of_getElem? (i := 179) rfl)) rfl
theorem mw_180 : Cond.code yX5_merge cX5_merge 11 (none : Option FieldType) ∈ GW := gw_mem (inT3 _ (List.mem_of_getElem? (i := 9) rfl)) rfl
theorem mw_181 : Cond.methodLink RX5 97 yX5_merge ∈ GW := gw_mem (inT3 _ (List.mem_of_getElem? (i := 6) rfl)) rfl
theorem mw_182 : Cond.instanceMethod yX5_merge ∈ GW := gw_mem (inT3 _ (List.mem_of_getElem? (i := 8) rfl)) rfl
theorem mw_183 : Cond.selects RX5 yX5_merge yX5_merge ∈ GW := gw_mem (inTp (q := (yX5_merge, 8)) (List.mem_of_getElem? (i := 18) rfl)) rfl
theorem mw_184 : Cond.code yX5_findEntries cX5_findEntries 11 (none : Option FieldType) ∈ GW := gw_mem (inT2 _ (List.mem_of_getElem? (i := 224) rfl)) rfl
theorem mw_185 : Cond.methodLink RX5 61 yX5_findEntries ∈ GW := gw_mem (inT2 _ (List.mem_of_getElem? (i := 221) rfl)) rfl
theorem mw_186 : Cond.instanceMethod yX5_findEntries ∈ GW := gw_mem (inT2 _ (List.mem_of_getElem? (i := 223) rfl)) rfl
theorem mw_187 : Cond.selects RX5 yX5_findEntries yX5_findEntries ∈ GW := gw_mem (inTp (q := (yX5_findEntries, 8)) (List.mem_of_getElem? (i := 13) rfl)) rfl
theorem mw_188 : Cond.code yX5_ruleFor cX5_ruleFor 7 (some Jvm.ClassFile.FieldType.int) ∈ GW := gw_mem (inT2 _ (List.mem_of_getElem? (i := 230) rfl)) rfl
theorem mw_189 : Cond.methodLink RX5 64 yX5_ruleFor ∈ GW := gw_mem (inT2 _ (List.mem_of_getElem? (i := 227) rfl)) rfl
theorem mw_190 : Cond.instanceMethod yX5_ruleFor ∈ GW := gw_mem (inT2 _ (List.mem_of_getElem? (i := 229) rfl)) rfl
theorem mw_191 : Cond.selects RX5 yX5_ruleFor yX5_ruleFor ∈ GW := gw_mem (inTp (q := (yX5_ruleFor, 8)) (List.mem_of_getElem? (i := 14) rfl)) rfl
theorem mw_192 : Cond.fieldLink RX5 19 "OrielChart$Reduction" "rule" "[I" ∈ GW := gw_mem (inT1 _ (List.mem_of_getElem? (i := 181) rfl)) rfl
theorem mw_193 : Cond.fieldLink RX5 37 "OrielChart$Reduction" "stepCount" "I" ∈ GW := gw_mem (inT1 _ (List.mem_of_getElem? (i := 188) rfl)) rfl
theorem mw_194 : Cond.fieldLink RX5 22 "OrielChart$Reduction" "node" "[I" ∈ GW := gw_mem (inT1 _ (List.mem_of_getElem? (i := 183) rfl)) rfl
theorem mw_195 : Cond.code yX5_apply cX5_apply 9 (none : Option FieldType) ∈ GW := gw_mem (inT3 _ (List.mem_of_getElem? (i := 5) rfl)) rfl
theorem mw_196 : Cond.methodLink RX5 68 yX5_apply ∈ GW := gw_mem (inT3 _ (List.mem_of_getElem? (i := 2) rfl)) rfl
theorem mw_197 : Cond.instanceMethod yX5_apply ∈ GW := gw_mem (inT3 _ (List.mem_of_getElem? (i := 4) rfl)) rfl
theorem mw_198 : Cond.selects RX5 yX5_apply yX5_apply ∈ GW := gw_mem (inTp (q := (yX5_apply, 8)) (List.mem_of_getElem? (i := 17) rfl)) rfl
theorem mw_199 : Cond.code yX5_takeStep cX5_takeStep 3 (some Jvm.ClassFile.FieldType.boolean) ∈ GW := gw_mem (inT2 _ (List.mem_of_getElem? (i := 220) rfl)) rfl
theorem mw_200 : Cond.methodLink RX5 57 yX5_takeStep ∈ GW := gw_mem (inT2 _ (List.mem_of_getElem? (i := 217) rfl)) rfl
theorem mw_201 : Cond.instanceMethod yX5_takeStep ∈ GW := gw_mem (inT2 _ (List.mem_of_getElem? (i := 219) rfl)) rfl
theorem mw_202 : Cond.selects RX5 yX5_takeStep yX5_takeStep ∈ GW := gw_mem (inTp (q := (yX5_takeStep, 8)) (List.mem_of_getElem? (i := 12) rfl)) rfl
theorem pdv_X5_isSingle : yX5_isSingle.cls = RX5 ∧ yX5_isSingle.cls ≠ "java/lang/invoke/MethodHandle" ∧ yX5_isSingle.cls ≠ "java/lang/invoke/VarHandle" ∧ (parseMethodDescriptor yX5_isSingle.desc).map (fun d => d.parameters.length) = some 3 := by decide +kernel
theorem pdv_X5_isDouble : yX5_isDouble.cls = RX5 ∧ yX5_isDouble.cls ≠ "java/lang/invoke/MethodHandle" ∧ yX5_isDouble.cls ≠ "java/lang/invoke/VarHandle" ∧ (parseMethodDescriptor yX5_isDouble.desc).map (fun d => d.parameters.length) = some 3 := by decide +kernel
theorem pdv_X5_merge : yX5_merge.cls = RX5 ∧ yX5_merge.cls ≠ "java/lang/invoke/MethodHandle" ∧ yX5_merge.cls ≠ "java/lang/invoke/VarHandle" ∧ (parseMethodDescriptor yX5_merge.desc).map (fun d => d.parameters.length) = some 3 := by decide +kernel
theorem pdv_X5_findEntries : yX5_findEntries.cls = RX5 ∧ yX5_findEntries.cls ≠ "java/lang/invoke/MethodHandle" ∧ yX5_findEntries.cls ≠ "java/lang/invoke/VarHandle" ∧ (parseMethodDescriptor yX5_findEntries.desc).map (fun d => d.parameters.length) = some 0 := by decide +kernel
theorem pdv_X5_ruleFor : yX5_ruleFor.cls = RX5 ∧ yX5_ruleFor.cls ≠ "java/lang/invoke/MethodHandle" ∧ yX5_ruleFor.cls ≠ "java/lang/invoke/VarHandle" ∧ (parseMethodDescriptor yX5_ruleFor.desc).map (fun d => d.parameters.length) = some 1 := by decide +kernel
theorem pdv_X5_apply : yX5_apply.cls = RX5 ∧ yX5_apply.cls ≠ "java/lang/invoke/MethodHandle" ∧ yX5_apply.cls ≠ "java/lang/invoke/VarHandle" ∧ (parseMethodDescriptor yX5_apply.desc).map (fun d => d.parameters.length) = some 2 := by decide +kernel
theorem pdv_X5_takeStep : yX5_takeStep.cls = RX5 ∧ yX5_takeStep.cls ≠ "java/lang/invoke/MethodHandle" ∧ yX5_takeStep.cls ≠ "java/lang/invoke/VarHandle" ∧ (parseMethodDescriptor yX5_takeStep.desc).map (fun d => d.parameters.length) = some 0 := by decide +kernel
set_option maxHeartbeats 4000000 in
set_option maxRecDepth 100000 in
theorem c_isSingle (l : Launch) (D : va_G) (cI cJ : ClassId) (ad : Nat → Nat) (co fl ra li re wa pi : Ob) (k1 : Int32) (k2 : Int32) (k3 : Int32) : CT l D (TY cI cJ) yX5_isSingle (.code yX5_isSingle cX5_isSingle 4 (some Jvm.ClassFile.FieldType.boolean)) 1 0 0 (XW ad cI cJ co fl ra li re wa pi) [.ref (ad 5), .int k1, .int k2, .int k3] (QI D (TY cI cJ) (fun r u => r = (b2i (isSingle re k1 k2 k3)) ∧ u = (XW ad cI cJ co fl ra li re wa pi))) := by
  refine ent (by decide) (Nat.le_of_ble_eq_true rfl) ?_
  intro p e s m below meth c ls A hx hb hr hg hown hml hlocks hnm hP hK hD hS hA hN hl
  have hl : lv_has ls 4 [(0, .ref (ad 5)), (1, .int k1), (2, .int k2), (3, .int k3)] := hl
  refine lv_aload_n hx hb dX5_isSingle_0 rfl (lv_at hl 0 rfl) ?_
  refine va_get (D := D) (ci := 5) (v := .ref (ad 28)) (C := RX5) (T := TX5) (N := 8) hx hb hg inGX5 hown hK hP 5 rfl rfl 4 (by decide) (hg _ mw_165) (fun _ h9 => h9) rfl dX5_isSingle_1 ?_
  refine lv_iload_n hx hb dX5_isSingle_4 rfl (lv_at hl 2 rfl) ?_
  refine kI (rSN hx hb hml hown hg hN hK hP hD (c_at l D cI cJ (XW ad cI cJ co fl ra li re wa pi) 28 (ad 28) 41 (gA re 3) k2 rfl (by decide)) mw_84 nw_89 mw_85 mw_77 pd_X7_at ⟨Nat.le_of_ble_eq_true rfl, Nat.le_of_ble_eq_true rfl⟩ rfl hl.1 rfl (Nat.le_of_ble_eq_true rfl) dX5_isSingle_5 ⟨Nat.le_of_ble_eq_true rfl, Nat.le_of_ble_eq_true rfl⟩) hD hS hA (fun r_1 u_1 H locs hp hP hD hS => ?_)
  obtain ⟨er, eu⟩ := hp
  obtain rfl := er.symm
  obtain rfl := eu.symm
  refine lv_iload_n hx hb dX5_isSingle_8 rfl (lv_at hl 1 rfl) ?_
  refine lv_icmp_ne (tgt := 32) hx hb dX5_isSingle_9 (by decide) (fun c_9 => ?_) (fun c_9 => ?_)
  · refine lv_iconst (v := 0) hx hb dX5_isSingle_32 (by decide) ?_
    exact W.zret (v := 0) hx hb hr rfl (fun t ht hW => ⟨⟨0, (XW ad cI cJ co fl ra li re wa pi), rfl, ⟨(show (0 : Int32) = (b2i (isSingle re k1 k2 k3)) from (by first | (simp only [isSingle, if_neg c_9, decide_eq_false c_9, decide_eq_true c_9, if_pos c_9, gi_sl, gi_sA, gi_sB, gi_si_s, gi_si_n, gl_si, gl_sA, gl_sB, gl_sl_s, gl_sl_n, gA_si, gA_sl, gA_sB, gA_sA_s, gA_sA_n, gB_si, gB_sl, gB_sA, gB_sB_s, gB_sB_n, Nat.reduceBEq, if_true, if_false, eq_self, Bool.false_eq_true, reduceCtorEq, not_true_eq_false, not_false_eq_true, decide_true, decide_false, cond_true, cond_false, Bool.true_and, Bool.false_and, Bool.and_true, Bool.and_false, Bool.true_or, Bool.false_or, Bool.or_true, Bool.or_false, b2i_tt, b2i_ff]; done) | (simp only [isSingle, if_neg c_9, decide_eq_false c_9, decide_eq_true c_9, if_pos c_9, gi_sl, gi_sA, gi_sB, gi_si_s, gi_si_n, gl_si, gl_sA, gl_sB, gl_sl_s, gl_sl_n, gA_si, gA_sl, gA_sB, gA_sA_s, gA_sA_n, gB_si, gB_sl, gB_sA, gB_sB_s, gB_sB_n, Nat.reduceBEq, if_true, if_false, eq_self, Bool.false_eq_true, reduceCtorEq, not_true_eq_false, not_false_eq_true, decide_true, decide_false, cond_true, cond_false, Bool.true_and, Bool.false_and, Bool.and_true, Bool.and_false, Bool.true_or, Bool.false_or, Bool.or_true, Bool.or_false, b2i_tt, b2i_ff]; rfl) | (simp [isSingle, c_9, gi_sl, gi_sA, gi_sB, gi_si_s, gi_si_n, gl_si, gl_sA, gl_sB, gl_sl_s, gl_sl_n, gA_si, gA_sl, gA_sB, gA_sA_s, gA_sA_n, gB_si, gB_sl, gB_sA, gB_sB_s, gB_sB_n, Nat.reduceBEq]; done))), xw_eq rfl rfl rfl rfl rfl rfl rfl⟩, ⟨by rw [ht]; exact hP, va_K.moved hW.alike hK, hD⟩⟩, hS.F ht⟩) hS.2.2 dX5_isSingle_33
  · refine lv_aload_n hx hb dX5_isSingle_12 rfl (lv_at hl 0 rfl) ?_
    refine va_get (D := D) (ci := 5) (v := .ref (ad 24)) (C := RX5) (T := TX5) (N := 8) hx hb hg inGX5 hown hK hP 5 rfl rfl 0 (by decide) (hg _ mw_166) (fun _ h9 => h9) rfl dX5_isSingle_13 ?_
    refine lv_iload_n hx hb dX5_isSingle_16 rfl (lv_at hl 2 rfl) ?_
    refine kL (rSN hx hb hml hown hg hN hK hP hD (c_atL l D cI cJ (XW ad cI cJ co fl ra li re wa pi) 24 (ad 24) 40 (gB re 0) k2 rfl (by decide)) mw_81 nw_84 mw_83 mw_77 pd_X7_at_ ⟨Nat.le_of_ble_eq_true rfl, Nat.le_of_ble_eq_true rfl⟩ rfl hl.1 rfl (Nat.le_of_ble_eq_true rfl) dX5_isSingle_17 ⟨Nat.le_of_ble_eq_true rfl, Nat.le_of_ble_eq_true rfl⟩) hD hS hA (fun r_2 u_2 H locs hp hP hD hS => ?_)
    obtain ⟨er, eu⟩ := hp
    obtain rfl := er.symm
    obtain rfl := eu.symm
    refine lv_iload_n hx hb dX5_isSingle_20 rfl (lv_at hl 3 rfl) ?_
    refine kL (rSN hx hb hml hown hg hN hK hP hD (c_bit l D cI cJ (XW ad cI cJ co fl ra li re wa pi) k3) mw_78 nw_87 mw_80 mw_77 pd_X7_bit ⟨Nat.le_of_ble_eq_true rfl, Nat.le_of_ble_eq_true rfl⟩ rfl hl.1 rfl (Nat.le_of_ble_eq_true rfl) dX5_isSingle_21 ⟨Nat.le_of_ble_eq_true rfl, Nat.le_of_ble_eq_true rfl⟩) hD hS hA (fun r_3 u_3 H locs hp hP hD hS => ?_)
    obtain ⟨er, eu⟩ := hp
    obtain rfl := er.symm
    obtain rfl := eu.symm
    refine W.lcmp hx hb dX5_isSingle_24 ?_
    refine lv_if_ne (tgt := 32) hx hb dX5_isSingle_25 (by decide) (fun c_25 => ?_) (fun c_25 => ?_)
    · have c_25 : ¬ (rdL (gB re 0) 40 k2) = (bitL k3) := lcmp_1 c_25
      refine lv_iconst (v := 0) hx hb dX5_isSingle_32 (by decide) ?_
      exact W.zret (v := 0) hx hb hr rfl (fun t ht hW => ⟨⟨0, (XW ad cI cJ co fl ra li re wa pi), rfl, ⟨(show (0 : Int32) = (b2i (isSingle re k1 k2 k3)) from (by first | (simp only [isSingle, if_pos c_9, decide_eq_true c_9, decide_eq_false (not_not_intro c_9), if_neg c_25, decide_eq_false c_25, decide_eq_true c_25, if_pos c_25, gi_sl, gi_sA, gi_sB, gi_si_s, gi_si_n, gl_si, gl_sA, gl_sB, gl_sl_s, gl_sl_n, gA_si, gA_sl, gA_sB, gA_sA_s, gA_sA_n, gB_si, gB_sl, gB_sA, gB_sB_s, gB_sB_n, Nat.reduceBEq, if_true, if_false, eq_self, Bool.false_eq_true, reduceCtorEq, not_true_eq_false, not_false_eq_true, decide_true, decide_false, cond_true, cond_false, Bool.true_and, Bool.false_and, Bool.and_true, Bool.and_false, Bool.true_or, Bool.false_or, Bool.or_true, Bool.or_false, b2i_tt, b2i_ff]; done) | (simp only [isSingle, if_pos c_9, decide_eq_true c_9, decide_eq_false (not_not_intro c_9), if_neg c_25, decide_eq_false c_25, decide_eq_true c_25, if_pos c_25, gi_sl, gi_sA, gi_sB, gi_si_s, gi_si_n, gl_si, gl_sA, gl_sB, gl_sl_s, gl_sl_n, gA_si, gA_sl, gA_sB, gA_sA_s, gA_sA_n, gB_si, gB_sl, gB_sA, gB_sB_s, gB_sB_n, Nat.reduceBEq, if_true, if_false, eq_self, Bool.false_eq_true, reduceCtorEq, not_true_eq_false, not_false_eq_true, decide_true, decide_false, cond_true, cond_false, Bool.true_and, Bool.false_and, Bool.and_true, Bool.and_false, Bool.true_or, Bool.false_or, Bool.or_true, Bool.or_false, b2i_tt, b2i_ff]; rfl) | (simp [isSingle, c_9, c_25, gi_sl, gi_sA, gi_sB, gi_si_s, gi_si_n, gl_si, gl_sA, gl_sB, gl_sl_s, gl_sl_n, gA_si, gA_sl, gA_sB, gA_sA_s, gA_sA_n, gB_si, gB_sl, gB_sA, gB_sB_s, gB_sB_n, Nat.reduceBEq]; done))), xw_eq rfl rfl rfl rfl rfl rfl rfl⟩, ⟨by rw [ht]; exact hP, va_K.moved hW.alike hK, hD⟩⟩, hS.F ht⟩) hS.2.2 dX5_isSingle_33
    · have c_25 : (rdL (gB re 0) 40 k2) = (bitL k3) := lcmp_0 c_25
      refine lv_iconst (v := 1) hx hb dX5_isSingle_28 (by decide) ?_
      refine lv_goto (tgt := 33) hx hb dX5_isSingle_29 (by decide) ?_
      exact W.zret (v := 1) hx hb hr rfl (fun t ht hW => ⟨⟨1, (XW ad cI cJ co fl ra li re wa pi), rfl, ⟨(show (1 : Int32) = (b2i (isSingle re k1 k2 k3)) from (by first | (simp only [isSingle, if_pos c_9, decide_eq_true c_9, decide_eq_false (not_not_intro c_9), if_pos c_25, decide_eq_true c_25, decide_eq_false (not_not_intro c_25), gi_sl, gi_sA, gi_sB, gi_si_s, gi_si_n, gl_si, gl_sA, gl_sB, gl_sl_s, gl_sl_n, gA_si, gA_sl, gA_sB, gA_sA_s, gA_sA_n, gB_si, gB_sl, gB_sA, gB_sB_s, gB_sB_n, Nat.reduceBEq, if_true, if_false, eq_self, Bool.false_eq_true, reduceCtorEq, not_true_eq_false, not_false_eq_true, decide_true, decide_false, cond_true, cond_false, Bool.true_and, Bool.false_and, Bool.and_true, Bool.and_false, Bool.true_or, Bool.false_or, Bool.or_true, Bool.or_false, b2i_tt, b2i_ff]; done) | (simp only [isSingle, if_pos c_9, decide_eq_true c_9, decide_eq_false (not_not_intro c_9), if_pos c_25, decide_eq_true c_25, decide_eq_false (not_not_intro c_25), gi_sl, gi_sA, gi_sB, gi_si_s, gi_si_n, gl_si, gl_sA, gl_sB, gl_sl_s, gl_sl_n, gA_si, gA_sl, gA_sB, gA_sA_s, gA_sA_n, gB_si, gB_sl, gB_sA, gB_sB_s, gB_sB_n, Nat.reduceBEq, if_true, if_false, eq_self, Bool.false_eq_true, reduceCtorEq, not_true_eq_false, not_false_eq_true, decide_true, decide_false, cond_true, cond_false, Bool.true_and, Bool.false_and, Bool.and_true, Bool.and_false, Bool.true_or, Bool.false_or, Bool.or_true, Bool.or_false, b2i_tt, b2i_ff]; rfl) | (simp [isSingle, c_9, c_25, gi_sl, gi_sA, gi_sB, gi_si_s, gi_si_n, gl_si, gl_sA, gl_sB, gl_sl_s, gl_sl_n, gA_si, gA_sl, gA_sB, gA_sA_s, gA_sA_n, gB_si, gB_sl, gB_sA, gB_sB_s, gB_sB_n, Nat.reduceBEq]; done))), xw_eq rfl rfl rfl rfl rfl rfl rfl⟩, ⟨by rw [ht]; exact hP, va_K.moved hW.alike hK, hD⟩⟩, hS.F ht⟩) hS.2.2 dX5_isSingle_33
set_option maxHeartbeats 4000000 in
set_option maxRecDepth 100000 in
theorem c_isDouble (l : Launch) (D : va_G) (cI cJ : ClassId) (ad : Nat → Nat) (co fl ra li re wa pi : Ob) (k1 : Int32) (k2 : Int32) (k3 : Int32) : CT l D (TY cI cJ) yX5_isDouble (.code yX5_isDouble cX5_isDouble 6 (some Jvm.ClassFile.FieldType.boolean)) 1 0 0 (XW ad cI cJ co fl ra li re wa pi) [.ref (ad 5), .int k1, .int k2, .int k3] (QI D (TY cI cJ) (fun r u => r = (b2i (isDouble re k1 k2 k3)) ∧ u = (XW ad cI cJ co fl ra li re wa pi))) := by
  refine ent (by decide) (Nat.le_of_ble_eq_true rfl) ?_
  intro p e s m below meth c ls A hx hb hr hg hown hml hlocks hnm hP hK hD hS hA hN hl
  have hl : lv_has ls 6 [(0, .ref (ad 5)), (1, .int k1), (2, .int k2), (3, .int k3)] := hl
  refine lv_aload_n hx hb dX5_isDouble_0 rfl (lv_at hl 0 rfl) ?_
  refine va_get (D := D) (ci := 5) (v := .ref (ad 24)) (C := RX5) (T := TX5) (N := 8) hx hb hg inGX5 hown hK hP 5 rfl rfl 0 (by decide) (hg _ mw_166) (fun _ h9 => h9) rfl dX5_isDouble_1 ?_
  refine lv_iload_n hx hb dX5_isDouble_4 rfl (lv_at hl 2 rfl) ?_
  refine kL (rSN hx hb hml hown hg hN hK hP hD (c_atL l D cI cJ (XW ad cI cJ co fl ra li re wa pi) 24 (ad 24) 40 (gB re 0) k2 rfl (by decide)) mw_81 nw_84 mw_83 mw_77 pd_X7_at_ ⟨Nat.le_of_ble_eq_true rfl, Nat.le_of_ble_eq_true rfl⟩ rfl hl.1 rfl (Nat.le_of_ble_eq_true rfl) dX5_isDouble_5 ⟨Nat.le_of_ble_eq_true rfl, Nat.le_of_ble_eq_true rfl⟩) hD hS hA (fun r_1 u_1 H locs hp hP hD hS => ?_)
  obtain ⟨er, eu⟩ := hp
  obtain rfl := er.symm
  obtain rfl := eu.symm
  refine lv_lstore (lv' := [(4, .long (rdL (gB re 0) 40 k2)), (0, .ref (ad 5)), (1, .int k1), (2, .int k2), (3, .int k3)]) hx hb dX5_isDouble_8 hl (by decide) rfl (fun ls hl => ?_)
  refine lv_aload_n hx hb dX5_isDouble_10 rfl (lv_at hl 1 rfl) ?_
  refine va_get (D := D) (ci := 5) (v := .ref (ad 28)) (C := RX5) (T := TX5) (N := 8) hx hb hg inGX5 hown hK hP 5 rfl rfl 4 (by decide) (hg _ mw_165) (fun _ h9 => h9) rfl dX5_isDouble_11 ?_
  refine lv_iload_n hx hb dX5_isDouble_14 rfl (lv_at hl 3 rfl) ?_
  refine kI (rSN hx hb hml hown hg hN hK hP hD (c_at l D cI cJ (XW ad cI cJ co fl ra li re wa pi) 28 (ad 28) 41 (gA re 3) k2 rfl (by decide)) mw_84 nw_89 mw_85 mw_77 pd_X7_at ⟨Nat.le_of_ble_eq_true rfl, Nat.le_of_ble_eq_true rfl⟩ rfl hl.1 rfl (Nat.le_of_ble_eq_true rfl) dX5_isDouble_15 ⟨Nat.le_of_ble_eq_true rfl, Nat.le_of_ble_eq_true rfl⟩) hD hS hA (fun r_2 u_2 H locs hp hP hD hS => ?_)
  obtain ⟨er, eu⟩ := hp
  obtain rfl := er.symm
  obtain rfl := eu.symm
  refine lv_iload_n hx hb dX5_isDouble_18 rfl (lv_at hl 2 rfl) ?_
  refine lv_icmp_ne (tgt := 83) hx hb dX5_isDouble_19 (by decide) (fun c_19 => ?_) (fun c_19 => ?_)
  · refine lv_iconst (v := 0) hx hb dX5_isDouble_83 (by decide) ?_
    exact W.zret (v := 0) hx hb hr rfl (fun t ht hW => ⟨⟨0, (XW ad cI cJ co fl ra li re wa pi), rfl, ⟨(show (0 : Int32) = (b2i (isDouble re k1 k2 k3)) from (by first | (simp only [isDouble, if_neg c_19, decide_eq_false c_19, decide_eq_true c_19, if_pos c_19, gi_sl, gi_sA, gi_sB, gi_si_s, gi_si_n, gl_si, gl_sA, gl_sB, gl_sl_s, gl_sl_n, gA_si, gA_sl, gA_sB, gA_sA_s, gA_sA_n, gB_si, gB_sl, gB_sA, gB_sB_s, gB_sB_n, Nat.reduceBEq, if_true, if_false, eq_self, Bool.false_eq_true, reduceCtorEq, not_true_eq_false, not_false_eq_true, decide_true, decide_false, cond_true, cond_false, Bool.true_and, Bool.false_and, Bool.and_true, Bool.and_false, Bool.true_or, Bool.false_or, Bool.or_true, Bool.or_false, b2i_tt, b2i_ff]; done) | (simp only [isDouble, if_neg c_19, decide_eq_false c_19, decide_eq_true c_19, if_pos c_19, gi_sl, gi_sA, gi_sB, gi_si_s, gi_si_n, gl_si, gl_sA, gl_sB, gl_sl_s, gl_sl_n, gA_si, gA_sl, gA_sB, gA_sA_s, gA_sA_n, gB_si, gB_sl, gB_sA, gB_sB_s, gB_sB_n, Nat.reduceBEq, if_true, if_false, eq_self, Bool.false_eq_true, reduceCtorEq, not_true_eq_false, not_false_eq_true, decide_true, decide_false, cond_true, cond_false, Bool.true_and, Bool.false_and, Bool.and_true, Bool.and_false, Bool.true_or, Bool.false_or, Bool.or_true, Bool.or_false, b2i_tt, b2i_ff]; rfl) | (simp [isDouble, c_19, gi_sl, gi_sA, gi_sB, gi_si_s, gi_si_n, gl_si, gl_sA, gl_sB, gl_sl_s, gl_sl_n, gA_si, gA_sl, gA_sB, gA_sA_s, gA_sA_n, gB_si, gB_sl, gB_sA, gB_sB_s, gB_sB_n, Nat.reduceBEq]; done))), xw_eq rfl rfl rfl rfl rfl rfl rfl⟩, ⟨by rw [ht]; exact hP, va_K.moved hW.alike hK, hD⟩⟩, hS.F ht⟩) hS.2.2 dX5_isDouble_84
  · refine lv_aload_n hx hb dX5_isDouble_22 rfl (lv_at hl 1 rfl) ?_
    refine va_get (D := D) (ci := 5) (v := .ref (ad 28)) (C := RX5) (T := TX5) (N := 8) hx hb hg inGX5 hown hK hP 5 rfl rfl 4 (by decide) (hg _ mw_165) (fun _ h9 => h9) rfl dX5_isDouble_23 ?_
    refine lv_iload_n hx hb dX5_isDouble_26 rfl (lv_at hl 4 rfl) ?_
    refine kI (rSN hx hb hml hown hg hN hK hP hD (c_at l D cI cJ (XW ad cI cJ co fl ra li re wa pi) 28 (ad 28) 41 (gA re 3) k3 rfl (by decide)) mw_84 nw_89 mw_85 mw_77 pd_X7_at ⟨Nat.le_of_ble_eq_true rfl, Nat.le_of_ble_eq_true rfl⟩ rfl hl.1 rfl (Nat.le_of_ble_eq_true rfl) dX5_isDouble_27 ⟨Nat.le_of_ble_eq_true rfl, Nat.le_of_ble_eq_true rfl⟩) hD hS hA (fun r_3 u_3 H locs hp hP hD hS => ?_)
    obtain ⟨er, eu⟩ := hp
    obtain rfl := er.symm
    obtain rfl := eu.symm
    refine lv_iload_n hx hb dX5_isDouble_30 rfl (lv_at hl 2 rfl) ?_
    refine lv_icmp_ne (tgt := 83) hx hb dX5_isDouble_31 (by decide) (fun c_31 => ?_) (fun c_31 => ?_)
    · refine lv_iconst (v := 0) hx hb dX5_isDouble_83 (by decide) ?_
      exact W.zret (v := 0) hx hb hr rfl (fun t ht hW => ⟨⟨0, (XW ad cI cJ co fl ra li re wa pi), rfl, ⟨(show (0 : Int32) = (b2i (isDouble re k1 k2 k3)) from (by first | (simp only [isDouble, if_pos c_19, decide_eq_true c_19, decide_eq_false (not_not_intro c_19), if_neg c_31, decide_eq_false c_31, decide_eq_true c_31, if_pos c_31, gi_sl, gi_sA, gi_sB, gi_si_s, gi_si_n, gl_si, gl_sA, gl_sB, gl_sl_s, gl_sl_n, gA_si, gA_sl, gA_sB, gA_sA_s, gA_sA_n, gB_si, gB_sl, gB_sA, gB_sB_s, gB_sB_n, Nat.reduceBEq, if_true, if_false, eq_self, Bool.false_eq_true, reduceCtorEq, not_true_eq_false, not_false_eq_true, decide_true, decide_false, cond_true, cond_false, Bool.true_and, Bool.false_and, Bool.and_true, Bool.and_false, Bool.true_or, Bool.false_or, Bool.or_true, Bool.or_false, b2i_tt, b2i_ff]; done) | (simp only [isDouble, if_pos c_19, decide_eq_true c_19, decide_eq_false (not_not_intro c_19), if_neg c_31, decide_eq_false c_31, decide_eq_true c_31, if_pos c_31, gi_sl, gi_sA, gi_sB, gi_si_s, gi_si_n, gl_si, gl_sA, gl_sB, gl_sl_s, gl_sl_n, gA_si, gA_sl, gA_sB, gA_sA_s, gA_sA_n, gB_si, gB_sl, gB_sA, gB_sB_s, gB_sB_n, Nat.reduceBEq, if_true, if_false, eq_self, Bool.false_eq_true, reduceCtorEq, not_true_eq_false, not_false_eq_true, decide_true, decide_false, cond_true, cond_false, Bool.true_and, Bool.false_and, Bool.and_true, Bool.and_false, Bool.true_or, Bool.false_or, Bool.or_true, Bool.or_false, b2i_tt, b2i_ff]; rfl) | (simp [isDouble, c_19, c_31, gi_sl, gi_sA, gi_sB, gi_si_s, gi_si_n, gl_si, gl_sA, gl_sB, gl_sl_s, gl_sl_n, gA_si, gA_sl, gA_sB, gA_sA_s, gA_sA_n, gB_si, gB_sl, gB_sA, gB_sB_s, gB_sB_n, Nat.reduceBEq]; done))), xw_eq rfl rfl rfl rfl rfl rfl rfl⟩, ⟨by rw [ht]; exact hP, va_K.moved hW.alike hK, hD⟩⟩, hS.F ht⟩) hS.2.2 dX5_isDouble_84
    · refine lv_lload hx hb dX5_isDouble_34 (lv_at hl 0 rfl) ?_
      refine kI (rS hx hb hml hown hg hN hK hP hD (c_bitCount l D cI cJ (XW ad cI cJ co fl ra li re wa pi) (rdL (gB re 0) 40 k2)) mw_68 mw_167 mw_70 mw_71 pd_J13_bitCount_95d88 ⟨Nat.le_of_ble_eq_true rfl, Nat.le_of_ble_eq_true rfl⟩ rfl hl.1 rfl (Nat.le_of_ble_eq_true rfl) dX5_isDouble_36 ⟨Nat.le_of_ble_eq_true rfl, Nat.le_of_ble_eq_true rfl⟩) hD hS hA (fun r_4 u_4 H locs hp hP hD hS => ?_)
      obtain ⟨er, eu⟩ := hp
      obtain rfl := er.symm
      obtain rfl := eu.symm
      refine lv_iconst (v := 1) hx hb dX5_isDouble_39 (by decide) ?_
      refine lv_icmp_ne (tgt := 83) hx hb dX5_isDouble_40 (by decide) (fun c_40 => ?_) (fun c_40 => ?_)
      · refine lv_iconst (v := 0) hx hb dX5_isDouble_83 (by decide) ?_
        exact W.zret (v := 0) hx hb hr rfl (fun t ht hW => ⟨⟨0, (XW ad cI cJ co fl ra li re wa pi), rfl, ⟨(show (0 : Int32) = (b2i (isDouble re k1 k2 k3)) from (by first | (simp only [isDouble, if_pos c_19, decide_eq_true c_19, decide_eq_false (not_not_intro c_19), if_pos c_31, decide_eq_true c_31, decide_eq_false (not_not_intro c_31), if_neg c_40, decide_eq_false c_40, decide_eq_true c_40, if_pos c_40, gi_sl, gi_sA, gi_sB, gi_si_s, gi_si_n, gl_si, gl_sA, gl_sB, gl_sl_s, gl_sl_n, gA_si, gA_sl, gA_sB, gA_sA_s, gA_sA_n, gB_si, gB_sl, gB_sA, gB_sB_s, gB_sB_n, Nat.reduceBEq, if_true, if_false, eq_self, Bool.false_eq_true, reduceCtorEq, not_true_eq_false, not_false_eq_true, decide_true, decide_false, cond_true, cond_false, Bool.true_and, Bool.false_and, Bool.and_true, Bool.and_false, Bool.true_or, Bool.false_or, Bool.or_true, Bool.or_false, b2i_tt, b2i_ff]; done) | (simp only [isDouble, if_pos c_19, decide_eq_true c_19, decide_eq_false (not_not_intro c_19), if_pos c_31, decide_eq_true c_31, decide_eq_false (not_not_intro c_31), if_neg c_40, decide_eq_false c_40, decide_eq_true c_40, if_pos c_40, gi_sl, gi_sA, gi_sB, gi_si_s, gi_si_n, gl_si, gl_sA, gl_sB, gl_sl_s, gl_sl_n, gA_si, gA_sl, gA_sB, gA_sA_s, gA_sA_n, gB_si, gB_sl, gB_sA, gB_sB_s, gB_sB_n, Nat.reduceBEq, if_true, if_false, eq_self, Bool.false_eq_true, reduceCtorEq, not_true_eq_false, not_false_eq_true, decide_true, decide_false, cond_true, cond_false, Bool.true_and, Bool.false_and, Bool.and_true, Bool.and_false, Bool.true_or, Bool.false_or, Bool.or_true, Bool.or_false, b2i_tt, b2i_ff]; rfl) | (simp [isDouble, c_19, c_31, c_40, gi_sl, gi_sA, gi_sB, gi_si_s, gi_si_n, gl_si, gl_sA, gl_sB, gl_sl_s, gl_sl_n, gA_si, gA_sl, gA_sB, gA_sA_s, gA_sA_n, gB_si, gB_sl, gB_sA, gB_sB_s, gB_sB_n, Nat.reduceBEq]; done))), xw_eq rfl rfl rfl rfl rfl rfl rfl⟩, ⟨by rw [ht]; exact hP, va_K.moved hW.alike hK, hD⟩⟩, hS.F ht⟩) hS.2.2 dX5_isDouble_84
      · refine lv_lload hx hb dX5_isDouble_43 (lv_at hl 0 rfl) ?_
        refine lv_aload_n hx hb dX5_isDouble_45 rfl (lv_at hl 1 rfl) ?_
        refine va_get (D := D) (ci := 5) (v := .ref (ad 24)) (C := RX5) (T := TX5) (N := 8) hx hb hg inGX5 hown hK hP 5 rfl rfl 0 (by decide) (hg _ mw_166) (fun _ h9 => h9) rfl dX5_isDouble_46 ?_
        refine lv_iload_n hx hb dX5_isDouble_49 rfl (lv_at hl 4 rfl) ?_
        refine kL (rSN hx hb hml hown hg hN hK hP hD (c_atL l D cI cJ (XW ad cI cJ co fl ra li re wa pi) 24 (ad 24) 40 (gB re 0) k3 rfl (by decide)) mw_81 nw_84 mw_83 mw_77 pd_X7_at_ ⟨Nat.le_of_ble_eq_true rfl, Nat.le_of_ble_eq_true rfl⟩ rfl hl.1 rfl (Nat.le_of_ble_eq_true rfl) dX5_isDouble_50 ⟨Nat.le_of_ble_eq_true rfl, Nat.le_of_ble_eq_true rfl⟩) hD hS hA (fun r_5 u_5 H locs hp hP hD hS => ?_)
        obtain ⟨er, eu⟩ := hp
        obtain rfl := er.symm
        obtain rfl := eu.symm
        refine W.lcmp hx hb dX5_isDouble_53 ?_
        refine lv_if_ne (tgt := 83) hx hb dX5_isDouble_54 (by decide) (fun c_54 => ?_) (fun c_54 => ?_)
        · have c_54 : ¬ (rdL (gB re 0) 40 k2) = (rdL (gB re 0) 40 k3) := lcmp_1 c_54
          refine lv_iconst (v := 0) hx hb dX5_isDouble_83 (by decide) ?_
          exact W.zret (v := 0) hx hb hr rfl (fun t ht hW => ⟨⟨0, (XW ad cI cJ co fl ra li re wa pi), rfl, ⟨(show (0 : Int32) = (b2i (isDouble re k1 k2 k3)) from (by first | (simp only [isDouble, if_pos c_19, decide_eq_true c_19, decide_eq_false (not_not_intro c_19), if_pos c_31, decide_eq_true c_31, decide_eq_false (not_not_intro c_31), if_pos c_40, decide_eq_true c_40, decide_eq_false (not_not_intro c_40), if_neg c_54, decide_eq_false c_54, decide_eq_true c_54, if_pos c_54, gi_sl, gi_sA, gi_sB, gi_si_s, gi_si_n, gl_si, gl_sA, gl_sB, gl_sl_s, gl_sl_n, gA_si, gA_sl, gA_sB, gA_sA_s, gA_sA_n, gB_si, gB_sl, gB_sA, gB_sB_s, gB_sB_n, Nat.reduceBEq, if_true, if_false, eq_self, Bool.false_eq_true, reduceCtorEq, not_true_eq_false, not_false_eq_true, decide_true, decide_false, cond_true, cond_false, Bool.true_and, Bool.false_and, Bool.and_true, Bool.and_false, Bool.true_or, Bool.false_or, Bool.or_true, Bool.or_false, b2i_tt, b2i_ff]; done) | (simp only [isDouble, if_pos c_19, decide_eq_true c_19, decide_eq_false (not_not_intro c_19), if_pos c_31, decide_eq_true c_31, decide_eq_false (not_not_intro c_31), if_pos c_40, decide_eq_true c_40, decide_eq_false (not_not_intro c_40), if_neg c_54, decide_eq_false c_54, decide_eq_true c_54, if_pos c_54, gi_sl, gi_sA, gi_sB, gi_si_s, gi_si_n, gl_si, gl_sA, gl_sB, gl_sl_s, gl_sl_n, gA_si, gA_sl, gA_sB, gA_sA_s, gA_sA_n, gB_si, gB_sl, gB_sA, gB_sB_s, gB_sB_n, Nat.reduceBEq, if_true, if_false, eq_self, Bool.false_eq_true, reduceCtorEq, not_true_eq_false, not_false_eq_true, decide_true, decide_false, cond_true, cond_false, Bool.true_and, Bool.false_and, Bool.and_true, Bool.and_false, Bool.true_or, Bool.false_or, Bool.or_true, Bool.or_false, b2i_tt, b2i_ff]; rfl) | (simp [isDouble, c_19, c_31, c_40, c_54, gi_sl, gi_sA, gi_sB, gi_si_s, gi_si_n, gl_si, gl_sA, gl_sB, gl_sl_s, gl_sl_n, gA_si, gA_sl, gA_sB, gA_sA_s, gA_sA_n, gB_si, gB_sl, gB_sA, gB_sB_s, gB_sB_n, Nat.reduceBEq]; done))), xw_eq rfl rfl rfl rfl rfl rfl rfl⟩, ⟨by rw [ht]; exact hP, va_K.moved hW.alike hK, hD⟩⟩, hS.F ht⟩) hS.2.2 dX5_isDouble_84
        · have c_54 : (rdL (gB re 0) 40 k2) = (rdL (gB re 0) 40 k3) := lcmp_0 c_54
          refine lv_lload hx hb dX5_isDouble_57 (lv_at hl 0 rfl) ?_
          refine lv_iload_n hx hb dX5_isDouble_59 rfl (lv_at hl 2 rfl) ?_
          refine kL (rSN hx hb hml hown hg hN hK hP hD (c_bit l D cI cJ (XW ad cI cJ co fl ra li re wa pi) k1) mw_78 nw_87 mw_80 mw_77 pd_X7_bit ⟨Nat.le_of_ble_eq_true rfl, Nat.le_of_ble_eq_true rfl⟩ rfl hl.1 rfl (Nat.le_of_ble_eq_true rfl) dX5_isDouble_60 ⟨Nat.le_of_ble_eq_true rfl, Nat.le_of_ble_eq_true rfl⟩) hD hS hA (fun r_6 u_6 H locs hp hP hD hS => ?_)
          obtain ⟨er, eu⟩ := hp
          obtain rfl := er.symm
          obtain rfl := eu.symm
          refine lv_iload_n hx hb dX5_isDouble_63 rfl (lv_at hl 3 rfl) ?_
          refine kL (rSN hx hb hml hown hg hN hK hP hD (c_bit l D cI cJ (XW ad cI cJ co fl ra li re wa pi) k2) mw_78 nw_87 mw_80 mw_77 pd_X7_bit ⟨Nat.le_of_ble_eq_true rfl, Nat.le_of_ble_eq_true rfl⟩ rfl hl.1 rfl (Nat.le_of_ble_eq_true rfl) dX5_isDouble_64 ⟨Nat.le_of_ble_eq_true rfl, Nat.le_of_ble_eq_true rfl⟩) hD hS hA (fun r_7 u_7 H locs hp hP hD hS => ?_)
          obtain ⟨er, eu⟩ := hp
          obtain rfl := er.symm
          obtain rfl := eu.symm
          refine lv_lor hx hb dX5_isDouble_67 ?_
          refine lv_iload_n hx hb dX5_isDouble_68 rfl (lv_at hl 4 rfl) ?_
          refine kL (rSN hx hb hml hown hg hN hK hP hD (c_bit l D cI cJ (XW ad cI cJ co fl ra li re wa pi) k3) mw_78 nw_87 mw_80 mw_77 pd_X7_bit ⟨Nat.le_of_ble_eq_true rfl, Nat.le_of_ble_eq_true rfl⟩ rfl hl.1 rfl (Nat.le_of_ble_eq_true rfl) dX5_isDouble_69 ⟨Nat.le_of_ble_eq_true rfl, Nat.le_of_ble_eq_true rfl⟩) hD hS hA (fun r_8 u_8 H locs hp hP hD hS => ?_)
          obtain ⟨er, eu⟩ := hp
          obtain rfl := er.symm
          obtain rfl := eu.symm
          refine lv_lor hx hb dX5_isDouble_72 ?_
          refine lv_land hx hb dX5_isDouble_73 ?_
          refine lv_lconst (v := 0) hx hb dX5_isDouble_74 (by decide) ?_
          refine W.lcmp hx hb dX5_isDouble_75 ?_
          refine lv_if_ne (tgt := 83) hx hb dX5_isDouble_76 (by decide) (fun c_76 => ?_) (fun c_76 => ?_)
          · have c_76 : ¬ ((rdL (gB re 0) 40 k2) &&& (((bitL k1) ||| (bitL k2)) ||| (bitL k3))) = 0 := lcmp_1 c_76
            refine lv_iconst (v := 0) hx hb dX5_isDouble_83 (by decide) ?_
            exact W.zret (v := 0) hx hb hr rfl (fun t ht hW => ⟨⟨0, (XW ad cI cJ co fl ra li re wa pi), rfl, ⟨(show (0 : Int32) = (b2i (isDouble re k1 k2 k3)) from (by first | (simp only [isDouble, if_pos c_19, decide_eq_true c_19, decide_eq_false (not_not_intro c_19), if_pos c_31, decide_eq_true c_31, decide_eq_false (not_not_intro c_31), if_pos c_40, decide_eq_true c_40, decide_eq_false (not_not_intro c_40), if_pos c_54, decide_eq_true c_54, decide_eq_false (not_not_intro c_54), if_neg c_76, decide_eq_false c_76, decide_eq_true c_76, if_pos c_76, gi_sl, gi_sA, gi_sB, gi_si_s, gi_si_n, gl_si, gl_sA, gl_sB, gl_sl_s, gl_sl_n, gA_si, gA_sl, gA_sB, gA_sA_s, gA_sA_n, gB_si, gB_sl, gB_sA, gB_sB_s, gB_sB_n, Nat.reduceBEq, if_true, if_false, eq_self, Bool.false_eq_true, reduceCtorEq, not_true_eq_false, not_false_eq_true, decide_true, decide_false, cond_true, cond_false, Bool.true_and, Bool.false_and, Bool.and_true, Bool.and_false, Bool.true_or, Bool.false_or, Bool.or_true, Bool.or_false, b2i_tt, b2i_ff]; done) | (simp only [isDouble, if_pos c_19, decide_eq_true c_19, decide_eq_false (not_not_intro c_19), if_pos c_31, decide_eq_true c_31, decide_eq_false (not_not_intro c_31), if_pos c_40, decide_eq_true c_40, decide_eq_false (not_not_intro c_40), if_pos c_54, decide_eq_true c_54, decide_eq_false (not_not_intro c_54), if_neg c_76, decide_eq_false c_76, decide_eq_true c_76, if_pos c_76, gi_sl, gi_sA, gi_sB, gi_si_s, gi_si_n, gl_si, gl_sA, gl_sB, gl_sl_s, gl_sl_n, gA_si, gA_sl, gA_sB, gA_sA_s, gA_sA_n, gB_si, gB_sl, gB_sA, gB_sB_s, gB_sB_n, Nat.reduceBEq, if_true, if_false, eq_self, Bool.false_eq_true, reduceCtorEq, not_true_eq_false, not_false_eq_true, decide_true, decide_false, cond_true, cond_false, Bool.true_and, Bool.false_and, Bool.and_true, Bool.and_false, Bool.true_or, Bool.false_or, Bool.or_true, Bool.or_false, b2i_tt, b2i_ff]; rfl) | (simp [isDouble, c_19, c_31, c_40, c_54, c_76, gi_sl, gi_sA, gi_sB, gi_si_s, gi_si_n, gl_si, gl_sA, gl_sB, gl_sl_s, gl_sl_n, gA_si, gA_sl, gA_sB, gA_sA_s, gA_sA_n, gB_si, gB_sl, gB_sA, gB_sB_s, gB_sB_n, Nat.reduceBEq]; done))), xw_eq rfl rfl rfl rfl rfl rfl rfl⟩, ⟨by rw [ht]; exact hP, va_K.moved hW.alike hK, hD⟩⟩, hS.F ht⟩) hS.2.2 dX5_isDouble_84
          · have c_76 : ((rdL (gB re 0) 40 k2) &&& (((bitL k1) ||| (bitL k2)) ||| (bitL k3))) = 0 := lcmp_0 c_76
            refine lv_iconst (v := 1) hx hb dX5_isDouble_79 (by decide) ?_
            refine lv_goto (tgt := 84) hx hb dX5_isDouble_80 (by decide) ?_
            exact W.zret (v := 1) hx hb hr rfl (fun t ht hW => ⟨⟨1, (XW ad cI cJ co fl ra li re wa pi), rfl, ⟨(show (1 : Int32) = (b2i (isDouble re k1 k2 k3)) from (by first | (simp only [isDouble, if_pos c_19, decide_eq_true c_19, decide_eq_false (not_not_intro c_19), if_pos c_31, decide_eq_true c_31, decide_eq_false (not_not_intro c_31), if_pos c_40, decide_eq_true c_40, decide_eq_false (not_not_intro c_40), if_pos c_54, decide_eq_true c_54, decide_eq_false (not_not_intro c_54), if_pos c_76, decide_eq_true c_76, decide_eq_false (not_not_intro c_76), gi_sl, gi_sA, gi_sB, gi_si_s, gi_si_n, gl_si, gl_sA, gl_sB, gl_sl_s, gl_sl_n, gA_si, gA_sl, gA_sB, gA_sA_s, gA_sA_n, gB_si, gB_sl, gB_sA, gB_sB_s, gB_sB_n, Nat.reduceBEq, if_true, if_false, eq_self, Bool.false_eq_true, reduceCtorEq, not_true_eq_false, not_false_eq_true, decide_true, decide_false, cond_true, cond_false, Bool.true_and, Bool.false_and, Bool.and_true, Bool.and_false, Bool.true_or, Bool.false_or, Bool.or_true, Bool.or_false, b2i_tt, b2i_ff]; done) | (simp only [isDouble, if_pos c_19, decide_eq_true c_19, decide_eq_false (not_not_intro c_19), if_pos c_31, decide_eq_true c_31, decide_eq_false (not_not_intro c_31), if_pos c_40, decide_eq_true c_40, decide_eq_false (not_not_intro c_40), if_pos c_54, decide_eq_true c_54, decide_eq_false (not_not_intro c_54), if_pos c_76, decide_eq_true c_76, decide_eq_false (not_not_intro c_76), gi_sl, gi_sA, gi_sB, gi_si_s, gi_si_n, gl_si, gl_sA, gl_sB, gl_sl_s, gl_sl_n, gA_si, gA_sl, gA_sB, gA_sA_s, gA_sA_n, gB_si, gB_sl, gB_sA, gB_sB_s, gB_sB_n, Nat.reduceBEq, if_true, if_false, eq_self, Bool.false_eq_true, reduceCtorEq, not_true_eq_false, not_false_eq_true, decide_true, decide_false, cond_true, cond_false, Bool.true_and, Bool.false_and, Bool.and_true, Bool.and_false, Bool.true_or, Bool.false_or, Bool.or_true, Bool.or_false, b2i_tt, b2i_ff]; rfl) | (simp [isDouble, c_19, c_31, c_40, c_54, c_76, gi_sl, gi_sA, gi_sB, gi_si_s, gi_si_n, gl_si, gl_sA, gl_sB, gl_sl_s, gl_sl_n, gA_si, gA_sl, gA_sB, gA_sA_s, gA_sA_n, gB_si, gB_sl, gB_sA, gB_sB_s, gB_sB_n, Nat.reduceBEq]; done))), xw_eq rfl rfl rfl rfl rfl rfl rfl⟩, ⟨by rw [ht]; exact hP, va_K.moved hW.alike hK, hD⟩⟩, hS.F ht⟩) hS.2.2 dX5_isDouble_84
set_option maxHeartbeats 4000000 in
set_option maxRecDepth 100000 in
theorem c_ruleFor (l : Launch) (D : va_G) (cI cJ : ClassId) (ad : Nat → Nat) (co fl ra li re wa pi : Ob) (k1 : Int32) : CT l D (TY cI cJ) yX5_ruleFor (.code yX5_ruleFor cX5_ruleFor 7 (some Jvm.ClassFile.FieldType.int)) 3 0 0 (XW ad cI cJ co fl ra li re wa pi) [.ref (ad 5), .int k1] (QI D (TY cI cJ) (fun r u => r = (ruleFor re k1) ∧ u = (XW ad cI cJ co fl ra li re wa pi))) := by
  refine ent (by decide) (Nat.le_of_ble_eq_true rfl) ?_
  intro p e s m below meth c ls A hx hb hr hg hown hml hlocks hnm hP hK hD hS hA hN hl
  have hl : lv_has ls 7 [(0, .ref (ad 5)), (1, .int k1)] := hl
  refine lv_aload_n hx hb dX5_ruleFor_0 rfl (lv_at hl 0 rfl) ?_
  refine va_get (D := D) (ci := 5) (v := .ref (ad 24)) (C := RX5) (T := TX5) (N := 8) hx hb hg inGX5 hown hK hP 5 rfl rfl 0 (by decide) (hg _ mw_166) (fun _ h9 => h9) rfl dX5_ruleFor_1 ?_
  refine lv_iload_n hx hb dX5_ruleFor_4 rfl (lv_at hl 1 rfl) ?_
  refine kL (rSN hx hb hml hown hg hN hK hP hD (c_atL l D cI cJ (XW ad cI cJ co fl ra li re wa pi) 24 (ad 24) 40 (gB re 0) k1 rfl (by decide)) mw_81 nw_84 mw_83 mw_77 pd_X7_at_ ⟨Nat.le_of_ble_eq_true rfl, Nat.le_of_ble_eq_true rfl⟩ rfl hl.1 rfl (Nat.le_of_ble_eq_true rfl) dX5_ruleFor_5 ⟨Nat.le_of_ble_eq_true rfl, Nat.le_of_ble_eq_true rfl⟩) hD hS hA (fun r_1 u_1 H locs hp hP hD hS => ?_)
  obtain ⟨er, eu⟩ := hp
  obtain rfl := er.symm
  obtain rfl := eu.symm
  refine lv_lstore_n (lv' := [(2, .long (rdL (gB re 0) 40 k1)), (0, .ref (ad 5)), (1, .int k1)]) hx hb dX5_ruleFor_8 rfl hl (by decide) rfl (fun ls hl => ?_)
  refine lv_lload_n hx hb dX5_ruleFor_9 rfl (lv_at hl 0 rfl) ?_
  refine lv_iload_n hx hb dX5_ruleFor_10 rfl (lv_at hl 2 rfl) ?_
  refine kI (rSN hx hb hml hown hg hN hK hP hD (c_has l D cI cJ (XW ad cI cJ co fl ra li re wa pi) (rdL (gB re 0) 40 k1) k1) mw_89 nw_83 mw_90 mw_77 pd_X7_has ⟨Nat.le_of_ble_eq_true rfl, Nat.le_of_ble_eq_true rfl⟩ rfl hl.1 rfl (Nat.le_of_ble_eq_true rfl) dX5_ruleFor_11 ⟨Nat.le_of_ble_eq_true rfl, Nat.le_of_ble_eq_true rfl⟩) hD hS hA (fun r_2 u_2 H locs hp hP hD hS => ?_)
  obtain ⟨er, eu⟩ := hp
  obtain rfl := er.symm
  obtain rfl := eu.symm
  refine lv_if_eq (tgt := 19) hx hb dX5_ruleFor_14 (by decide) (fun c_14 => ?_) (fun c_14 => ?_)
  · have c_14 : ¬ (hs (rdL (gB re 0) 40 k1) k1) = true := b2i_0 c_14
    refine lv_lload_n hx hb dX5_ruleFor_19 rfl (lv_at hl 0 rfl) ?_
    refine kI (rS hx hb hml hown hg hN hK hP hD (c_bitCount l D cI cJ (XW ad cI cJ co fl ra li re wa pi) (rdL (gB re 0) 40 k1)) mw_68 mw_167 mw_70 mw_71 pd_J13_bitCount_95d88 ⟨Nat.le_of_ble_eq_true rfl, Nat.le_of_ble_eq_true rfl⟩ rfl hl.1 rfl (Nat.le_of_ble_eq_true rfl) dX5_ruleFor_20 ⟨Nat.le_of_ble_eq_true rfl, Nat.le_of_ble_eq_true rfl⟩) hD hS hA (fun r_3 u_3 H locs hp hP hD hS => ?_)
    obtain ⟨er, eu⟩ := hp
    obtain rfl := er.symm
    obtain rfl := eu.symm
    refine lv_istore (lv' := [(4, .int (bc (rdL (gB re 0) 40 k1))), (2, .long (rdL (gB re 0) 40 k1)), (0, .ref (ad 5)), (1, .int k1)]) hx hb dX5_ruleFor_23 hl (by decide) rfl (fun ls hl => ?_)
    refine lv_lload_n hx hb dX5_ruleFor_25 rfl (lv_at hl 1 rfl) ?_
    refine kI (rSN hx hb hml hown hg hN hK hP hD (c_lowest l D cI cJ (XW ad cI cJ co fl ra li re wa pi) (rdL (gB re 0) 40 k1)) mw_74 nw_88 mw_76 mw_77 pd_X7_lowest ⟨Nat.le_of_ble_eq_true rfl, Nat.le_of_ble_eq_true rfl⟩ rfl hl.1 rfl (Nat.le_of_ble_eq_true rfl) dX5_ruleFor_26 ⟨Nat.le_of_ble_eq_true rfl, Nat.le_of_ble_eq_true rfl⟩) hD hS hA (fun r_4 u_4 H locs hp hP hD hS => ?_)
    obtain ⟨er, eu⟩ := hp
    obtain rfl := er.symm
    obtain rfl := eu.symm
    refine lv_istore (lv' := [(5, .int (lowest (rdL (gB re 0) 40 k1))), (4, .int (bc (rdL (gB re 0) 40 k1))), (2, .long (rdL (gB re 0) 40 k1)), (0, .ref (ad 5)), (1, .int k1)]) hx hb dX5_ruleFor_29 hl (by decide) rfl (fun ls hl => ?_)
    refine lv_iload hx hb dX5_ruleFor_31 (lv_at hl 1 rfl) ?_
    refine lv_iconst (v := 1) hx hb dX5_ruleFor_33 (by decide) ?_
    refine lv_icmp_ne (tgt := 56) hx hb dX5_ruleFor_34 (by decide) (fun c_34 => ?_) (fun c_34 => ?_)
    · refine lv_iload hx hb dX5_ruleFor_56 (lv_at hl 1 rfl) ?_
      refine lv_iconst (v := 2) hx hb dX5_ruleFor_58 (by decide) ?_
      refine lv_icmp_eq (tgt := 64) hx hb dX5_ruleFor_59 (by decide) (fun c_59 => ?_) (fun c_59 => ?_)
      · refine lv_lload_n hx hb dX5_ruleFor_64 rfl (lv_at hl 2 rfl) ?_
        refine lv_iload hx hb dX5_ruleFor_65 (lv_at hl 0 rfl) ?_
        refine kL (rSN hx hb hml hown hg hN hK hP hD (c_bit l D cI cJ (XW ad cI cJ co fl ra li re wa pi) (lowest (rdL (gB re 0) 40 k1))) mw_78 nw_87 mw_80 mw_77 pd_X7_bit ⟨Nat.le_of_ble_eq_true rfl, Nat.le_of_ble_eq_true rfl⟩ rfl hl.1 rfl (Nat.le_of_ble_eq_true rfl) dX5_ruleFor_67 ⟨Nat.le_of_ble_eq_true rfl, Nat.le_of_ble_eq_true rfl⟩) hD hS hA (fun r_5 u_5 H locs hp hP hD hS => ?_)
        obtain ⟨er, eu⟩ := hp
        obtain rfl := er.symm
        obtain rfl := eu.symm
        refine lv_ldc2 (v := (-1)) hx hb hown (hg _ mw_168) dX5_ruleFor_70 ?_
        refine lv_lxor hx hb dX5_ruleFor_73 ?_
        refine lv_land hx hb dX5_ruleFor_74 ?_
        refine kI (rSN hx hb hml hown hg hN hK hP hD (c_lowest l D cI cJ (XW ad cI cJ co fl ra li re wa pi) ((rdL (gB re 0) 40 k1) &&& ((bitL (lowest (rdL (gB re 0) 40 k1))) ^^^ (-1)))) mw_74 nw_88 mw_76 mw_77 pd_X7_lowest ⟨Nat.le_of_ble_eq_true rfl, Nat.le_of_ble_eq_true rfl⟩ rfl hl.1 rfl (Nat.le_of_ble_eq_true rfl) dX5_ruleFor_75 ⟨Nat.le_of_ble_eq_true rfl, Nat.le_of_ble_eq_true rfl⟩) hD hS hA (fun r_6 u_6 H locs hp hP hD hS => ?_)
        obtain ⟨er, eu⟩ := hp
        obtain rfl := er.symm
        obtain rfl := eu.symm
        refine lv_istore (lv' := [(6, .int (lowest ((rdL (gB re 0) 40 k1) &&& ((bitL (lowest (rdL (gB re 0) 40 k1))) ^^^ (-1))))), (5, .int (lowest (rdL (gB re 0) 40 k1))), (4, .int (bc (rdL (gB re 0) 40 k1))), (2, .long (rdL (gB re 0) 40 k1)), (0, .ref (ad 5)), (1, .int k1)]) hx hb dX5_ruleFor_78 hl (by decide) rfl (fun ls hl => ?_)
        refine lv_aload_n hx hb dX5_ruleFor_80 rfl (lv_at hl 4 rfl) ?_
        refine lv_iload_n hx hb dX5_ruleFor_81 rfl (lv_at hl 5 rfl) ?_
        refine lv_iload hx hb dX5_ruleFor_82 (lv_at hl 1 rfl) ?_
        refine lv_iload hx hb dX5_ruleFor_84 (lv_at hl 0 rfl) ?_
        refine kI (rV (q0 := 5) (ci := 5) hx hb hml hown hg hN hK hP hD (c_isSingle l D cI cJ ad co fl ra li re wa pi k1 (lowest (rdL (gB re 0) 40 k1)) (lowest ((rdL (gB re 0) 40 k1) &&& ((bitL (lowest (rdL (gB re 0) 40 k1))) ^^^ (-1))))) mw_169 mw_170 mw_171 mw_172 mw_173 pdv_X5_isSingle ⟨Nat.le_of_ble_eq_true rfl, Nat.le_of_ble_eq_true rfl⟩ rfl rfl rfl hl.1 rfl (Nat.le_of_ble_eq_true rfl) dX5_ruleFor_86 ⟨Nat.le_of_ble_eq_true rfl, Nat.le_of_ble_eq_true rfl⟩) hD hS hA (fun r_7 u_7 H locs hp hP hD hS => ?_)
        obtain ⟨er, eu⟩ := hp
        obtain rfl := er.symm
        obtain rfl := eu.symm
        refine lv_if_ne (tgt := 104) hx hb dX5_ruleFor_89 (by decide) (fun c_89 => ?_) (fun c_89 => ?_)
        · have c_89 : (isSingle re k1 (lowest (rdL (gB re 0) 40 k1)) (lowest ((rdL (gB re 0) 40 k1) &&& ((bitL (lowest (rdL (gB re 0) 40 k1))) ^^^ (-1))))) = true := b2i_1 c_89
          refine lv_iconst (v := 2) hx hb dX5_ruleFor_104 (by decide) ?_
          exact W.iret (v := 2) hx hb hr (fun t ht hW => ⟨⟨2, (XW ad cI cJ co fl ra li re wa pi), rfl, ⟨(show (2 : Int32) = (ruleFor re k1) from (by first | (simp only [ruleFor, ruleTwo, rfC, if_neg c_14, bf_of c_14, if_neg c_34, decide_eq_false c_34, decide_eq_true c_34, if_pos c_34, if_pos c_59, decide_eq_true c_59, decide_eq_false (not_not_intro c_59), if_pos c_89, c_89, gi_sl, gi_sA, gi_sB, gi_si_s, gi_si_n, gl_si, gl_sA, gl_sB, gl_sl_s, gl_sl_n, gA_si, gA_sl, gA_sB, gA_sA_s, gA_sA_n, gB_si, gB_sl, gB_sA, gB_sB_s, gB_sB_n, Nat.reduceBEq, if_true, if_false, eq_self, Bool.false_eq_true, reduceCtorEq, not_true_eq_false, not_false_eq_true, decide_true, decide_false, cond_true, cond_false, Bool.true_and, Bool.false_and, Bool.and_true, Bool.and_false, Bool.true_or, Bool.false_or, Bool.or_true, Bool.or_false, b2i_tt, b2i_ff]; done) | (simp only [ruleFor, ruleTwo, rfC, if_neg c_14, bf_of c_14, if_neg c_34, decide_eq_false c_34, decide_eq_true c_34, if_pos c_34, if_pos c_59, decide_eq_true c_59, decide_eq_false (not_not_intro c_59), if_pos c_89, c_89, gi_sl, gi_sA, gi_sB, gi_si_s, gi_si_n, gl_si, gl_sA, gl_sB, gl_sl_s, gl_sl_n, gA_si, gA_sl, gA_sB, gA_sA_s, gA_sA_n, gB_si, gB_sl, gB_sA, gB_sB_s, gB_sB_n, Nat.reduceBEq, if_true, if_false, eq_self, Bool.false_eq_true, reduceCtorEq, not_true_eq_false, not_false_eq_true, decide_true, decide_false, cond_true, cond_false, Bool.true_and, Bool.false_and, Bool.and_true, Bool.and_false, Bool.true_or, Bool.false_or, Bool.or_true, Bool.or_false, b2i_tt, b2i_ff]; rfl) | (simp [ruleFor, ruleTwo, rfC, c_14, c_34, c_59, c_89, gi_sl, gi_sA, gi_sB, gi_si_s, gi_si_n, gl_si, gl_sA, gl_sB, gl_sl_s, gl_sl_n, gA_si, gA_sl, gA_sB, gA_sA_s, gA_sA_n, gB_si, gB_sl, gB_sA, gB_sB_s, gB_sB_n, Nat.reduceBEq]; done))), xw_eq rfl rfl rfl rfl rfl rfl rfl⟩, ⟨by rw [ht]; exact hP, va_K.moved hW.alike hK, hD⟩⟩, hS.F ht⟩) hS.2.2 dX5_ruleFor_105
        · have c_89 : ¬ (isSingle re k1 (lowest (rdL (gB re 0) 40 k1)) (lowest ((rdL (gB re 0) 40 k1) &&& ((bitL (lowest (rdL (gB re 0) 40 k1))) ^^^ (-1))))) = true := b2i_0 c_89
          refine lv_aload_n hx hb dX5_ruleFor_92 rfl (lv_at hl 4 rfl) ?_
          refine lv_iload_n hx hb dX5_ruleFor_93 rfl (lv_at hl 5 rfl) ?_
          refine lv_iload hx hb dX5_ruleFor_94 (lv_at hl 0 rfl) ?_
          refine lv_iload hx hb dX5_ruleFor_96 (lv_at hl 1 rfl) ?_
          refine kI (rV (q0 := 5) (ci := 5) hx hb hml hown hg hN hK hP hD (c_isSingle l D cI cJ ad co fl ra li re wa pi k1 (lowest ((rdL (gB re 0) 40 k1) &&& ((bitL (lowest (rdL (gB re 0) 40 k1))) ^^^ (-1)))) (lowest (rdL (gB re 0) 40 k1))) mw_169 mw_170 mw_171 mw_172 mw_173 pdv_X5_isSingle ⟨Nat.le_of_ble_eq_true rfl, Nat.le_of_ble_eq_true rfl⟩ rfl rfl rfl hl.1 rfl (Nat.le_of_ble_eq_true rfl) dX5_ruleFor_98 ⟨Nat.le_of_ble_eq_true rfl, Nat.le_of_ble_eq_true rfl⟩) hD hS hA (fun r_8 u_8 H locs hp hP hD hS => ?_)
          obtain ⟨er, eu⟩ := hp
          obtain rfl := er.symm
          obtain rfl := eu.symm
          refine lv_if_eq (tgt := 106) hx hb dX5_ruleFor_101 (by decide) (fun c_101 => ?_) (fun c_101 => ?_)
          · have c_101 : ¬ (isSingle re k1 (lowest ((rdL (gB re 0) 40 k1) &&& ((bitL (lowest (rdL (gB re 0) 40 k1))) ^^^ (-1)))) (lowest (rdL (gB re 0) 40 k1))) = true := b2i_0 c_101
            refine lv_aload_n hx hb dX5_ruleFor_106 rfl (lv_at hl 4 rfl) ?_
            refine lv_iload_n hx hb dX5_ruleFor_107 rfl (lv_at hl 5 rfl) ?_
            refine lv_iload hx hb dX5_ruleFor_108 (lv_at hl 1 rfl) ?_
            refine lv_iload hx hb dX5_ruleFor_110 (lv_at hl 0 rfl) ?_
            refine kI (rV (q0 := 5) (ci := 5) hx hb hml hown hg hN hK hP hD (c_isDouble l D cI cJ ad co fl ra li re wa pi k1 (lowest (rdL (gB re 0) 40 k1)) (lowest ((rdL (gB re 0) 40 k1) &&& ((bitL (lowest (rdL (gB re 0) 40 k1))) ^^^ (-1))))) mw_174 mw_175 mw_176 mw_177 mw_173 pdv_X5_isDouble ⟨Nat.le_of_ble_eq_true rfl, Nat.le_of_ble_eq_true rfl⟩ rfl rfl rfl hl.1 rfl (Nat.le_of_ble_eq_true rfl) dX5_ruleFor_112 ⟨Nat.le_of_ble_eq_true rfl, Nat.le_of_ble_eq_true rfl⟩) hD hS hA (fun r_9 u_9 H locs hp hP hD hS => ?_)
            obtain ⟨er, eu⟩ := hp
            obtain rfl := er.symm
            obtain rfl := eu.symm
            refine lv_if_eq (tgt := 122) hx hb dX5_ruleFor_115 (by decide) (fun c_115 => ?_) (fun c_115 => ?_)
            · have c_115 : ¬ (isDouble re k1 (lowest (rdL (gB re 0) 40 k1)) (lowest ((rdL (gB re 0) 40 k1) &&& ((bitL (lowest (rdL (gB re 0) 40 k1))) ^^^ (-1))))) = true := b2i_0 c_115
              refine lv_iconst (v := (-1)) hx hb dX5_ruleFor_122 (by decide) ?_
              exact W.iret (v := (-1)) hx hb hr (fun t ht hW => ⟨⟨(-1), (XW ad cI cJ co fl ra li re wa pi), rfl, ⟨(show ((-1) : Int32) = (ruleFor re k1) from (by first | (simp only [ruleFor, ruleTwo, rfC, if_neg c_14, bf_of c_14, if_neg c_34, decide_eq_false c_34, decide_eq_true c_34, if_pos c_34, if_pos c_59, decide_eq_true c_59, decide_eq_false (not_not_intro c_59), if_neg c_89, bf_of c_89, if_neg c_101, bf_of c_101, if_neg c_115, bf_of c_115, gi_sl, gi_sA, gi_sB, gi_si_s, gi_si_n, gl_si, gl_sA, gl_sB, gl_sl_s, gl_sl_n, gA_si, gA_sl, gA_sB, gA_sA_s, gA_sA_n, gB_si, gB_sl, gB_sA, gB_sB_s, gB_sB_n, Nat.reduceBEq, if_true, if_false, eq_self, Bool.false_eq_true, reduceCtorEq, not_true_eq_false, not_false_eq_true, decide_true, decide_false, cond_true, cond_false, Bool.true_and, Bool.false_and, Bool.and_true, Bool.and_false, Bool.true_or, Bool.false_or, Bool.or_true, Bool.or_false, b2i_tt, b2i_ff]; done) | (simp only [ruleFor, ruleTwo, rfC, if_neg c_14, bf_of c_14, if_neg c_34, decide_eq_false c_34, decide_eq_true c_34, if_pos c_34, if_pos c_59, decide_eq_true c_59, decide_eq_false (not_not_intro c_59), if_neg c_89, bf_of c_89, if_neg c_101, bf_of c_101, if_neg c_115, bf_of c_115, gi_sl, gi_sA, gi_sB, gi_si_s, gi_si_n, gl_si, gl_sA, gl_sB, gl_sl_s, gl_sl_n, gA_si, gA_sl, gA_sB, gA_sA_s, gA_sA_n, gB_si, gB_sl, gB_sA, gB_sB_s, gB_sB_n, Nat.reduceBEq, if_true, if_false, eq_self, Bool.false_eq_true, reduceCtorEq, not_true_eq_false, not_false_eq_true, decide_true, decide_false, cond_true, cond_false, Bool.true_and, Bool.false_and, Bool.and_true, Bool.and_false, Bool.true_or, Bool.false_or, Bool.or_true, Bool.or_false, b2i_tt, b2i_ff]; rfl) | (simp [ruleFor, ruleTwo, rfC, c_14, c_34, c_59, c_89, c_101, c_115, gi_sl, gi_sA, gi_sB, gi_si_s, gi_si_n, gl_si, gl_sA, gl_sB, gl_sl_s, gl_sl_n, gA_si, gA_sl, gA_sB, gA_sA_s, gA_sA_n, gB_si, gB_sl, gB_sA, gB_sB_s, gB_sB_n, Nat.reduceBEq]; done))), xw_eq rfl rfl rfl rfl rfl rfl rfl⟩, ⟨by rw [ht]; exact hP, va_K.moved hW.alike hK, hD⟩⟩, hS.F ht⟩) hS.2.2 dX5_ruleFor_123
            · have c_115 : (isDouble re k1 (lowest (rdL (gB re 0) 40 k1)) (lowest ((rdL (gB re 0) 40 k1) &&& ((bitL (lowest (rdL (gB re 0) 40 k1))) ^^^ (-1))))) = true := b2i_1 c_115
              refine lv_iconst (v := 3) hx hb dX5_ruleFor_118 (by decide) ?_
              refine lv_goto (tgt := 123) hx hb dX5_ruleFor_119 (by decide) ?_
              exact W.iret (v := 3) hx hb hr (fun t ht hW => ⟨⟨3, (XW ad cI cJ co fl ra li re wa pi), rfl, ⟨(show (3 : Int32) = (ruleFor re k1) from (by first | (simp only [ruleFor, ruleTwo, rfC, if_neg c_14, bf_of c_14, if_neg c_34, decide_eq_false c_34, decide_eq_true c_34, if_pos c_34, if_pos c_59, decide_eq_true c_59, decide_eq_false (not_not_intro c_59), if_neg c_89, bf_of c_89, if_neg c_101, bf_of c_101, if_pos c_115, c_115, gi_sl, gi_sA, gi_sB, gi_si_s, gi_si_n, gl_si, gl_sA, gl_sB, gl_sl_s, gl_sl_n, gA_si, gA_sl, gA_sB, gA_sA_s, gA_sA_n, gB_si, gB_sl, gB_sA, gB_sB_s, gB_sB_n, Nat.reduceBEq, if_true, if_false, eq_self, Bool.false_eq_true, reduceCtorEq, not_true_eq_false, not_false_eq_true, decide_true, decide_false, cond_true, cond_false, Bool.true_and, Bool.false_and, Bool.and_true, Bool.and_false, Bool.true_or, Bool.false_or, Bool.or_true, Bool.or_false, b2i_tt, b2i_ff]; done) | (simp only [ruleFor, ruleTwo, rfC, if_neg c_14, bf_of c_14, if_neg c_34, decide_eq_false c_34, decide_eq_true c_34, if_pos c_34, if_pos c_59, decide_eq_true c_59, decide_eq_false (not_not_intro c_59), if_neg c_89, bf_of c_89, if_neg c_101, bf_of c_101, if_pos c_115, c_115, gi_sl, gi_sA, gi_sB, gi_si_s, gi_si_n, gl_si, gl_sA, gl_sB, gl_sl_s, gl_sl_n, gA_si, gA_sl, gA_sB, gA_sA_s, gA_sA_n, gB_si, gB_sl, gB_sA, gB_sB_s, gB_sB_n, Nat.reduceBEq, if_true, if_false, eq_self, Bool.false_eq_true, reduceCtorEq, not_true_eq_false, not_false_eq_true, decide_true, decide_false, cond_true, cond_false, Bool.true_and, Bool.false_and, Bool.and_true, Bool.and_false, Bool.true_or, Bool.false_or, Bool.or_true, Bool.or_false, b2i_tt, b2i_ff]; rfl) | (simp [ruleFor, ruleTwo, rfC, c_14, c_34, c_59, c_89, c_101, c_115, gi_sl, gi_sA, gi_sB, gi_si_s, gi_si_n, gl_si, gl_sA, gl_sB, gl_sl_s, gl_sl_n, gA_si, gA_sl, gA_sB, gA_sA_s, gA_sA_n, gB_si, gB_sl, gB_sA, gB_sB_s, gB_sB_n, Nat.reduceBEq]; done))), xw_eq rfl rfl rfl rfl rfl rfl rfl⟩, ⟨by rw [ht]; exact hP, va_K.moved hW.alike hK, hD⟩⟩, hS.F ht⟩) hS.2.2 dX5_ruleFor_123
          · have c_101 : (isSingle re k1 (lowest ((rdL (gB re 0) 40 k1) &&& ((bitL (lowest (rdL (gB re 0) 40 k1))) ^^^ (-1)))) (lowest (rdL (gB re 0) 40 k1))) = true := b2i_1 c_101
            refine lv_iconst (v := 2) hx hb dX5_ruleFor_104 (by decide) ?_
            exact W.iret (v := 2) hx hb hr (fun t ht hW => ⟨⟨2, (XW ad cI cJ co fl ra li re wa pi), rfl, ⟨(show (2 : Int32) = (ruleFor re k1) from (by first | (simp only [ruleFor, ruleTwo, rfC, if_neg c_14, bf_of c_14, if_neg c_34, decide_eq_false c_34, decide_eq_true c_34, if_pos c_34, if_pos c_59, decide_eq_true c_59, decide_eq_false (not_not_intro c_59), if_neg c_89, bf_of c_89, if_pos c_101, c_101, gi_sl, gi_sA, gi_sB, gi_si_s, gi_si_n, gl_si, gl_sA, gl_sB, gl_sl_s, gl_sl_n, gA_si, gA_sl, gA_sB, gA_sA_s, gA_sA_n, gB_si, gB_sl, gB_sA, gB_sB_s, gB_sB_n, Nat.reduceBEq, if_true, if_false, eq_self, Bool.false_eq_true, reduceCtorEq, not_true_eq_false, not_false_eq_true, decide_true, decide_false, cond_true, cond_false, Bool.true_and, Bool.false_and, Bool.and_true, Bool.and_false, Bool.true_or, Bool.false_or, Bool.or_true, Bool.or_false, b2i_tt, b2i_ff]; done) | (simp only [ruleFor, ruleTwo, rfC, if_neg c_14, bf_of c_14, if_neg c_34, decide_eq_false c_34, decide_eq_true c_34, if_pos c_34, if_pos c_59, decide_eq_true c_59, decide_eq_false (not_not_intro c_59), if_neg c_89, bf_of c_89, if_pos c_101, c_101, gi_sl, gi_sA, gi_sB, gi_si_s, gi_si_n, gl_si, gl_sA, gl_sB, gl_sl_s, gl_sl_n, gA_si, gA_sl, gA_sB, gA_sA_s, gA_sA_n, gB_si, gB_sl, gB_sA, gB_sB_s, gB_sB_n, Nat.reduceBEq, if_true, if_false, eq_self, Bool.false_eq_true, reduceCtorEq, not_true_eq_false, not_false_eq_true, decide_true, decide_false, cond_true, cond_false, Bool.true_and, Bool.false_and, Bool.and_true, Bool.and_false, Bool.true_or, Bool.false_or, Bool.or_true, Bool.or_false, b2i_tt, b2i_ff]; rfl) | (simp [ruleFor, ruleTwo, rfC, c_14, c_34, c_59, c_89, c_101, gi_sl, gi_sA, gi_sB, gi_si_s, gi_si_n, gl_si, gl_sA, gl_sB, gl_sl_s, gl_sl_n, gA_si, gA_sl, gA_sB, gA_sA_s, gA_sA_n, gB_si, gB_sl, gB_sA, gB_sB_s, gB_sB_n, Nat.reduceBEq]; done))), xw_eq rfl rfl rfl rfl rfl rfl rfl⟩, ⟨by rw [ht]; exact hP, va_K.moved hW.alike hK, hD⟩⟩, hS.F ht⟩) hS.2.2 dX5_ruleFor_105
      · refine lv_iconst (v := (-1)) hx hb dX5_ruleFor_62 (by decide) ?_
        exact W.iret (v := (-1)) hx hb hr (fun t ht hW => ⟨⟨(-1), (XW ad cI cJ co fl ra li re wa pi), rfl, ⟨(show ((-1) : Int32) = (ruleFor re k1) from (by first | (simp only [ruleFor, ruleTwo, rfC, if_neg c_14, bf_of c_14, if_neg c_34, decide_eq_false c_34, decide_eq_true c_34, if_pos c_34, if_neg c_59, decide_eq_false c_59, decide_eq_true c_59, if_pos c_59, gi_sl, gi_sA, gi_sB, gi_si_s, gi_si_n, gl_si, gl_sA, gl_sB, gl_sl_s, gl_sl_n, gA_si, gA_sl, gA_sB, gA_sA_s, gA_sA_n, gB_si, gB_sl, gB_sA, gB_sB_s, gB_sB_n, Nat.reduceBEq, if_true, if_false, eq_self, Bool.false_eq_true, reduceCtorEq, not_true_eq_false, not_false_eq_true, decide_true, decide_false, cond_true, cond_false, Bool.true_and, Bool.false_and, Bool.and_true, Bool.and_false, Bool.true_or, Bool.false_or, Bool.or_true, Bool.or_false, b2i_tt, b2i_ff]; done) | (simp only [ruleFor, ruleTwo, rfC, if_neg c_14, bf_of c_14, if_neg c_34, decide_eq_false c_34, decide_eq_true c_34, if_pos c_34, if_neg c_59, decide_eq_false c_59, decide_eq_true c_59, if_pos c_59, gi_sl, gi_sA, gi_sB, gi_si_s, gi_si_n, gl_si, gl_sA, gl_sB, gl_sl_s, gl_sl_n, gA_si, gA_sl, gA_sB, gA_sA_s, gA_sA_n, gB_si, gB_sl, gB_sA, gB_sB_s, gB_sB_n, Nat.reduceBEq, if_true, if_false, eq_self, Bool.false_eq_true, reduceCtorEq, not_true_eq_false, not_false_eq_true, decide_true, decide_false, cond_true, cond_false, Bool.true_and, Bool.false_and, Bool.and_true, Bool.and_false, Bool.true_or, Bool.false_or, Bool.or_true, Bool.or_false, b2i_tt, b2i_ff]; rfl) | (simp [ruleFor, ruleTwo, rfC, c_14, c_34, c_59, gi_sl, gi_sA, gi_sB, gi_si_s, gi_si_n, gl_si, gl_sA, gl_sB, gl_sl_s, gl_sl_n, gA_si, gA_sl, gA_sB, gA_sA_s, gA_sA_n, gB_si, gB_sl, gB_sA, gB_sB_s, gB_sB_n, Nat.reduceBEq]; done))), xw_eq rfl rfl rfl rfl rfl rfl rfl⟩, ⟨by rw [ht]; exact hP, va_K.moved hW.alike hK, hD⟩⟩, hS.F ht⟩) hS.2.2 dX5_ruleFor_63
    · refine lv_aload_n hx hb dX5_ruleFor_37 rfl (lv_at hl 3 rfl) ?_
      refine va_get (D := D) (ci := 5) (v := .ref (ad 28)) (C := RX5) (T := TX5) (N := 8) hx hb hg inGX5 hown hK hP 5 rfl rfl 4 (by decide) (hg _ mw_165) (fun _ h9 => h9) rfl dX5_ruleFor_38 ?_
      refine lv_iload hx hb dX5_ruleFor_41 (lv_at hl 0 rfl) ?_
      refine kI (rSN hx hb hml hown hg hN hK hP hD (c_at l D cI cJ (XW ad cI cJ co fl ra li re wa pi) 28 (ad 28) 41 (gA re 3) (lowest (rdL (gB re 0) 40 k1)) rfl (by decide)) mw_84 nw_89 mw_85 mw_77 pd_X7_at ⟨Nat.le_of_ble_eq_true rfl, Nat.le_of_ble_eq_true rfl⟩ rfl hl.1 rfl (Nat.le_of_ble_eq_true rfl) dX5_ruleFor_43 ⟨Nat.le_of_ble_eq_true rfl, Nat.le_of_ble_eq_true rfl⟩) hD hS hA (fun r_10 u_10 H locs hp hP hD hS => ?_)
      obtain ⟨er, eu⟩ := hp
      obtain rfl := er.symm
      obtain rfl := eu.symm
      refine lv_iload_n hx hb dX5_ruleFor_46 rfl (lv_at hl 4 rfl) ?_
      refine lv_icmp_ne (tgt := 54) hx hb dX5_ruleFor_47 (by decide) (fun c_47 => ?_) (fun c_47 => ?_)
      · refine lv_iconst (v := (-1)) hx hb dX5_ruleFor_54 (by decide) ?_
        exact W.iret (v := (-1)) hx hb hr (fun t ht hW => ⟨⟨(-1), (XW ad cI cJ co fl ra li re wa pi), rfl, ⟨(show ((-1) : Int32) = (ruleFor re k1) from (by first | (simp only [ruleFor, ruleTwo, rfC, if_neg c_14, bf_of c_14, if_pos c_34, decide_eq_true c_34, decide_eq_false (not_not_intro c_34), if_neg c_47, decide_eq_false c_47, decide_eq_true c_47, if_pos c_47, gi_sl, gi_sA, gi_sB, gi_si_s, gi_si_n, gl_si, gl_sA, gl_sB, gl_sl_s, gl_sl_n, gA_si, gA_sl, gA_sB, gA_sA_s, gA_sA_n, gB_si, gB_sl, gB_sA, gB_sB_s, gB_sB_n, Nat.reduceBEq, if_true, if_false, eq_self, Bool.false_eq_true, reduceCtorEq, not_true_eq_false, not_false_eq_true, decide_true, decide_false, cond_true, cond_false, Bool.true_and, Bool.false_and, Bool.and_true, Bool.and_false, Bool.true_or, Bool.false_or, Bool.or_true, Bool.or_false, b2i_tt, b2i_ff]; done) | (simp only [ruleFor, ruleTwo, rfC, if_neg c_14, bf_of c_14, if_pos c_34, decide_eq_true c_34, decide_eq_false (not_not_intro c_34), if_neg c_47, decide_eq_false c_47, decide_eq_true c_47, if_pos c_47, gi_sl, gi_sA, gi_sB, gi_si_s, gi_si_n, gl_si, gl_sA, gl_sB, gl_sl_s, gl_sl_n, gA_si, gA_sl, gA_sB, gA_sA_s, gA_sA_n, gB_si, gB_sl, gB_sA, gB_sB_s, gB_sB_n, Nat.reduceBEq, if_true, if_false, eq_self, Bool.false_eq_true, reduceCtorEq, not_true_eq_false, not_false_eq_true, decide_true, decide_false, cond_true, cond_false, Bool.true_and, Bool.false_and, Bool.and_true, Bool.and_false, Bool.true_or, Bool.false_or, Bool.or_true, Bool.or_false, b2i_tt, b2i_ff]; rfl) | (simp [ruleFor, ruleTwo, rfC, c_14, c_34, c_47, gi_sl, gi_sA, gi_sB, gi_si_s, gi_si_n, gl_si, gl_sA, gl_sB, gl_sl_s, gl_sl_n, gA_si, gA_sl, gA_sB, gA_sA_s, gA_sA_n, gB_si, gB_sl, gB_sA, gB_sB_s, gB_sB_n, Nat.reduceBEq]; done))), xw_eq rfl rfl rfl rfl rfl rfl rfl⟩, ⟨by rw [ht]; exact hP, va_K.moved hW.alike hK, hD⟩⟩, hS.F ht⟩) hS.2.2 dX5_ruleFor_55
      · refine lv_iconst (v := 1) hx hb dX5_ruleFor_50 (by decide) ?_
        refine lv_goto (tgt := 55) hx hb dX5_ruleFor_51 (by decide) ?_
        exact W.iret (v := 1) hx hb hr (fun t ht hW => ⟨⟨1, (XW ad cI cJ co fl ra li re wa pi), rfl, ⟨(show (1 : Int32) = (ruleFor re k1) from (by first | (simp only [ruleFor, ruleTwo, rfC, if_neg c_14, bf_of c_14, if_pos c_34, decide_eq_true c_34, decide_eq_false (not_not_intro c_34), if_pos c_47, decide_eq_true c_47, decide_eq_false (not_not_intro c_47), gi_sl, gi_sA, gi_sB, gi_si_s, gi_si_n, gl_si, gl_sA, gl_sB, gl_sl_s, gl_sl_n, gA_si, gA_sl, gA_sB, gA_sA_s, gA_sA_n, gB_si, gB_sl, gB_sA, gB_sB_s, gB_sB_n, Nat.reduceBEq, if_true, if_false, eq_self, Bool.false_eq_true, reduceCtorEq, not_true_eq_false, not_false_eq_true, decide_true, decide_false, cond_true, cond_false, Bool.true_and, Bool.false_and, Bool.and_true, Bool.and_false, Bool.true_or, Bool.false_or, Bool.or_true, Bool.or_false, b2i_tt, b2i_ff]; done) | (simp only [ruleFor, ruleTwo, rfC, if_neg c_14, bf_of c_14, if_pos c_34, decide_eq_true c_34, decide_eq_false (not_not_intro c_34), if_pos c_47, decide_eq_true c_47, decide_eq_false (not_not_intro c_47), gi_sl, gi_sA, gi_sB, gi_si_s, gi_si_n, gl_si, gl_sA, gl_sB, gl_sl_s, gl_sl_n, gA_si, gA_sl, gA_sB, gA_sA_s, gA_sA_n, gB_si, gB_sl, gB_sA, gB_sB_s, gB_sB_n, Nat.reduceBEq, if_true, if_false, eq_self, Bool.false_eq_true, reduceCtorEq, not_true_eq_false, not_false_eq_true, decide_true, decide_false, cond_true, cond_false, Bool.true_and, Bool.false_and, Bool.and_true, Bool.and_false, Bool.true_or, Bool.false_or, Bool.or_true, Bool.or_false, b2i_tt, b2i_ff]; rfl) | (simp [ruleFor, ruleTwo, rfC, c_14, c_34, c_47, gi_sl, gi_sA, gi_sB, gi_si_s, gi_si_n, gl_si, gl_sA, gl_sB, gl_sl_s, gl_sl_n, gA_si, gA_sl, gA_sB, gA_sA_s, gA_sA_n, gB_si, gB_sl, gB_sA, gB_sB_s, gB_sB_n, Nat.reduceBEq]; done))), xw_eq rfl rfl rfl rfl rfl rfl rfl⟩, ⟨by rw [ht]; exact hP, va_K.moved hW.alike hK, hD⟩⟩, hS.F ht⟩) hS.2.2 dX5_ruleFor_55
  · have c_14 : (hs (rdL (gB re 0) 40 k1) k1) = true := b2i_1 c_14
    refine lv_iconst (v := 0) hx hb dX5_ruleFor_17 (by decide) ?_
    exact W.iret (v := 0) hx hb hr (fun t ht hW => ⟨⟨0, (XW ad cI cJ co fl ra li re wa pi), rfl, ⟨(show (0 : Int32) = (ruleFor re k1) from (by first | (simp only [ruleFor, ruleTwo, rfC, if_pos c_14, c_14, gi_sl, gi_sA, gi_sB, gi_si_s, gi_si_n, gl_si, gl_sA, gl_sB, gl_sl_s, gl_sl_n, gA_si, gA_sl, gA_sB, gA_sA_s, gA_sA_n, gB_si, gB_sl, gB_sA, gB_sB_s, gB_sB_n, Nat.reduceBEq, if_true, if_false, eq_self, Bool.false_eq_true, reduceCtorEq, not_true_eq_false, not_false_eq_true, decide_true, decide_false, cond_true, cond_false, Bool.true_and, Bool.false_and, Bool.and_true, Bool.and_false, Bool.true_or, Bool.false_or, Bool.or_true, Bool.or_false, b2i_tt, b2i_ff]; done) | (simp only [ruleFor, ruleTwo, rfC, if_pos c_14, c_14, gi_sl, gi_sA, gi_sB, gi_si_s, gi_si_n, gl_si, gl_sA, gl_sB, gl_sl_s, gl_sl_n, gA_si, gA_sl, gA_sB, gA_sA_s, gA_sA_n, gB_si, gB_sl, gB_sA, gB_sB_s, gB_sB_n, Nat.reduceBEq, if_true, if_false, eq_self, Bool.false_eq_true, reduceCtorEq, not_true_eq_false, not_false_eq_true, decide_true, decide_false, cond_true, cond_false, Bool.true_and, Bool.false_and, Bool.and_true, Bool.and_false, Bool.true_or, Bool.false_or, Bool.or_true, Bool.or_false, b2i_tt, b2i_ff]; rfl) | (simp [ruleFor, ruleTwo, rfC, c_14, gi_sl, gi_sA, gi_sB, gi_si_s, gi_si_n, gl_si, gl_sA, gl_sB, gl_sl_s, gl_sl_n, gA_si, gA_sl, gA_sB, gA_sA_s, gA_sA_n, gB_si, gB_sl, gB_sA, gB_sB_s, gB_sB_n, Nat.reduceBEq]; done))), xw_eq rfl rfl rfl rfl rfl rfl rfl⟩, ⟨by rw [ht]; exact hP, va_K.moved hW.alike hK, hD⟩⟩, hS.F ht⟩) hS.2.2 dX5_ruleFor_18
set_option maxHeartbeats 4000000 in
set_option maxRecDepth 100000 in
theorem c_merge (l : Launch) (D : va_G) (cI cJ : ClassId) (ad : Nat → Nat) (co fl ra li re wa pi : Ob) (l1 : Int64) (k1 : Int32) (b1 : Bool) : CT l D (TY cI cJ) yX5_merge (.code yX5_merge cX5_merge 11 (none : Option FieldType)) 1 0 0 (XW ad cI cJ co fl ra li re wa pi) [.ref (ad 5), .long l1, .int k1, .int (b2i b1)] (QV D (TY cI cJ) (fun u => u = (XW ad cI cJ co fl ra li (merge re l1 k1 b1) wa pi))) := by
  refine ent (by decide) (Nat.le_of_ble_eq_true rfl) ?_
  intro p e s m below meth c ls A hx hb hr hg hown hml hlocks hnm hP hK hD hS hA hN hl
  have hl : lv_has ls 11 [(0, .ref (ad 5)), (1, .long l1), (3, .int k1), (4, .int (b2i b1))] := hl
  refine lv_lconst (v := 0) hx hb dX5_merge_0 (by decide) ?_
  refine lv_lstore (lv' := [(5, .long 0), (0, .ref (ad 5)), (1, .long l1), (3, .int k1), (4, .int (b2i b1))]) hx hb dX5_merge_1 hl (by decide) rfl (fun ls hl => ?_)
  refine lv_iconst (v := 0) hx hb dX5_merge_3 (by decide) ?_
  refine lv_istore (lv' := [(7, .int 0), (5, .long 0), (0, .ref (ad 5)), (1, .long l1), (3, .int k1), (4, .int (b2i b1))]) hx hb dX5_merge_4 hl (by decide) rfl (fun ls hl => ?_)
  refine w_loop (σ := Ob × Int64) (fun (i_1 : Nat) (p_1 : Ob × Int64) (H : Heap) (locs : List Loc) (ls : Array Slot) => p_1 = (lp (mgA l1) i_1 (re, 0)) ∧ va_P D vwCl (XW ad cI cJ co fl ra li p_1.1 wa pi) H ∧ va_D A (XW ad cI cJ co fl ra li p_1.1 wa pi) ∧ va_S A s.heap H locs ∧ lv_has ls 11 [(0, .ref (ad 5)), (1, .long l1), (3, .int k1), (4, .int (b2i b1)), (5, .long p_1.2), (7, .int (nI i_1))]) (40) (fun p_1 H locs ls hI => ?_) (fun i_1 p_1 H locs ls hi_1 hI ih_1 => ?_) 0 (re, 0) (Nat.zero_le _) ⟨rfl, hP, hD, hS, (by rw [nI_0]; exact lv_sub hl [2, 3, 4, 5, 1, 0] rfl)⟩
  · obtain ⟨h_1, hP, hD, hS, hl⟩ := hI
    have h_1 := h_1.symm
    subst h_1
    have hP : va_P D vwCl (XW ad cI cJ co fl ra li ((lp (mgA l1) (40) (re, 0)).1) wa pi) H := hP
    have hD : va_D A (XW ad cI cJ co fl ra li ((lp (mgA l1) (40) (re, 0)).1) wa pi) := hD
    have hl : lv_has ls 11 [(0, .ref (ad 5)), (1, .long l1), (3, .int k1), (4, .int (b2i b1)), (5, .long ((lp (mgA l1) (40) (re, 0)).2)), (7, .int (nI 40))] := hl
    refine lv_iload hx hb dX5_merge_6 (lv_at hl 5 rfl) ?_
    refine lv_bipush (v := 40) hx hb dX5_merge_8 (by decide) ?_
    refine lv_icmp_ge (tgt := 52) hx hb dX5_merge_10 (by decide) (fun _ => ?_) (fun c_10 => absurd (by decide) c_10)
    refine lv_aload_n hx hb dX5_merge_52 rfl (lv_at hl 0 rfl) ?_
    refine va_get (D := D) (ci := 5) (v := .ref (ad 24)) (C := RX5) (T := TX5) (N := 8) hx hb hg inGX5 hown hK hP 5 rfl rfl 0 (by decide) (hg _ mw_166) (fun _ h9 => h9) rfl dX5_merge_53 ?_
    refine lv_iload_n hx hb dX5_merge_56 rfl (lv_at hl 2 rfl) ?_
    refine lv_lload hx hb dX5_merge_57 (lv_at hl 4 rfl) ?_
    refine lv_lload_n hx hb dX5_merge_59 rfl (lv_at hl 1 rfl) ?_
    refine lv_ldc2 (v := (-1)) hx hb hown (hg _ mw_168) dX5_merge_60 ?_
    refine lv_lxor hx hb dX5_merge_63 ?_
    refine lv_land hx hb dX5_merge_64 ?_
    refine lv_iload hx hb dX5_merge_65 (lv_at hl 3 rfl) ?_
    refine lv_if_eq (tgt := 77) hx hb dX5_merge_67 (by decide) (fun c_67 => ?_) (fun c_67 => ?_)
    · have c_67 : ¬ b1 = true := b2i_0 c_67
      refine lv_lconst (v := 0) hx hb dX5_merge_77 (by decide) ?_
      refine lv_lor hx hb dX5_merge_78 ?_
      refine kV (rSN hx hb hml hown hg hN hK hP hD (c_putL l D cI cJ (XW ad cI cJ co fl ra li ((lp (mgA l1) (40) (re, 0)).1) wa pi) 24 (ad 24) 40 (gB ((lp (mgA l1) (40) (re, 0)).1) 0) k1 ((((lp (mgA l1) (40) (re, 0)).2) &&& (l1 ^^^ (-1))) ||| 0) rfl (by decide)) mw_97 nw_85 mw_98 mw_77 pd_X7_put_ ⟨Nat.le_of_ble_eq_true rfl, Nat.le_of_ble_eq_true rfl⟩ rfl hl.1 rfl (Nat.le_of_ble_eq_true rfl) dX5_merge_79 ⟨Nat.le_of_ble_eq_true rfl, Nat.le_of_ble_eq_true rfl⟩) hD hS hA (fun u_2 H locs hp hP hD hS => ?_)
      obtain rfl := hp.symm
      have hP : va_P D vwCl (XW ad cI cJ co fl ra li (sB ((lp (mgA l1) (40) (re, 0)).1) 0 (wrL (gB ((lp (mgA l1) (40) (re, 0)).1) 0) 40 k1 ((((lp (mgA l1) (40) (re, 0)).2) &&& (l1 ^^^ (-1))) ||| 0))) wa pi) H := hP
      have hD : va_D A (XW ad cI cJ co fl ra li (sB ((lp (mgA l1) (40) (re, 0)).1) 0 (wrL (gB ((lp (mgA l1) (40) (re, 0)).1) 0) 40 k1 ((((lp (mgA l1) (40) (re, 0)).2) &&& (l1 ^^^ (-1))) ||| 0))) wa pi) := hD
      refine lv_aload_n hx hb dX5_merge_82 rfl (lv_at hl 0 rfl) ?_
      refine lv_aload_n hx hb dX5_merge_83 rfl (lv_at hl 0 rfl) ?_
      refine va_get (D := D) (ci := 5) (v := .long (gl ((lp (mgA l1) (40) (re, 0)).1) 0)) (C := RX5) (T := TX5) (N := 8) hx hb hg inGX5 hown hK hP 5 rfl rfl 5 (by decide) (hg _ mw_178) (fun _ h9 => h9) rfl dX5_merge_84 ?_
      refine lv_lload_n hx hb dX5_merge_87 rfl (lv_at hl 1 rfl) ?_
      refine lv_ldc2 (v := (-1)) hx hb hown (hg _ mw_168) dX5_merge_88 ?_
      refine lv_lxor hx hb dX5_merge_91 ?_
      refine lv_land hx hb dX5_merge_92 ?_
      refine lv_iload_n hx hb dX5_merge_93 rfl (lv_at hl 2 rfl) ?_
      refine kL (rSN hx hb hml hown hg hN hK hP hD (c_bit l D cI cJ (XW ad cI cJ co fl ra li (sB ((lp (mgA l1) (40) (re, 0)).1) 0 (wrL (gB ((lp (mgA l1) (40) (re, 0)).1) 0) 40 k1 ((((lp (mgA l1) (40) (re, 0)).2) &&& (l1 ^^^ (-1))) ||| 0))) wa pi) k1) mw_78 nw_87 mw_80 mw_77 pd_X7_bit ⟨Nat.le_of_ble_eq_true rfl, Nat.le_of_ble_eq_true rfl⟩ rfl hl.1 rfl (Nat.le_of_ble_eq_true rfl) dX5_merge_94 ⟨Nat.le_of_ble_eq_true rfl, Nat.le_of_ble_eq_true rfl⟩) hD hS hA (fun r_3 u_3 H locs hp hP hD hS => ?_)
      obtain ⟨er, eu⟩ := hp
      obtain rfl := er.symm
      obtain rfl := eu.symm
      refine lv_lor hx hb dX5_merge_97 ?_
      refine va_put (D := D) (ci := 5) (v := .long (((gl ((lp (mgA l1) (40) (re, 0)).1) 0) &&& (l1 ^^^ (-1))) ||| (bitL k1))) (C := RX5) (T := TX5) (N := 8) hx hb hg inGX5 tyX5 tyX5_ok nmX5 hown hK hP hD hS 5 rfl rfl 5 (by decide) (hg _ mw_178) (fun _ h9 => h9) rfl (tyX5_ok 5 (by decide)) rfl rfl (Nat.le_of_ble_eq_true rfl) dX5_merge_98 (fun H locs hP hD hS => ?_)
      have hP : va_P D vwCl (XW ad cI cJ co fl ra li (sl (sB ((lp (mgA l1) (40) (re, 0)).1) 0 (wrL (gB ((lp (mgA l1) (40) (re, 0)).1) 0) 40 k1 ((((lp (mgA l1) (40) (re, 0)).2) &&& (l1 ^^^ (-1))) ||| 0))) 0 (((gl ((lp (mgA l1) (40) (re, 0)).1) 0) &&& (l1 ^^^ (-1))) ||| (bitL k1))) wa pi) H := hP
      have hD : va_D A (XW ad cI cJ co fl ra li (sl (sB ((lp (mgA l1) (40) (re, 0)).1) 0 (wrL (gB ((lp (mgA l1) (40) (re, 0)).1) 0) 40 k1 ((((lp (mgA l1) (40) (re, 0)).2) &&& (l1 ^^^ (-1))) ||| 0))) 0 (((gl ((lp (mgA l1) (40) (re, 0)).1) 0) &&& (l1 ^^^ (-1))) ||| (bitL k1))) wa pi) := hD
      refine lv_iconst (v := 0) hx hb dX5_merge_101 (by decide) ?_
      refine lv_istore (lv' := [(7, .int 0), (0, .ref (ad 5)), (1, .long l1), (3, .int k1), (4, .int (b2i b1)), (5, .long ((lp (mgA l1) (40) (re, 0)).2))]) hx hb dX5_merge_102 hl (by decide) rfl (fun ls hl => ?_)
      refine w_loop (σ := Ob) (fun (i_4 : Nat) (p_4 : Ob) (H : Heap) (locs : List Loc) (ls : Array Slot) => p_4 = (lp (mgB l1 k1) i_4 (sl (sB ((lp (mgA l1) (40) (re, 0)).1) 0 (wrL (gB ((lp (mgA l1) (40) (re, 0)).1) 0) 40 k1 ((((lp (mgA l1) (40) (re, 0)).2) &&& (l1 ^^^ (-1))) ||| 0))) 0 (((gl ((lp (mgA l1) (40) (re, 0)).1) 0) &&& (l1 ^^^ (-1))) ||| (bitL k1)))) ∧ va_P D vwCl (XW ad cI cJ co fl ra li p_4 wa pi) H ∧ va_D A (XW ad cI cJ co fl ra li p_4 wa pi) ∧ va_S A s.heap H locs ∧ lv_has ls 11 [(0, .ref (ad 5)), (1, .long l1), (3, .int k1), (4, .int (b2i b1)), (7, .int (nI i_4))]) (40) (fun p_4 H locs ls hI => ?_) (fun i_4 p_4 H locs ls hi_4 hI ih_4 => ?_) 0 (sl (sB ((lp (mgA l1) (40) (re, 0)).1) 0 (wrL (gB ((lp (mgA l1) (40) (re, 0)).1) 0) 40 k1 ((((lp (mgA l1) (40) (re, 0)).2) &&& (l1 ^^^ (-1))) ||| 0))) 0 (((gl ((lp (mgA l1) (40) (re, 0)).1) 0) &&& (l1 ^^^ (-1))) ||| (bitL k1))) (Nat.zero_le _) ⟨rfl, hP, hD, hS, (by rw [nI_0]; exact lv_sub hl [1, 2, 3, 4, 0] rfl)⟩
      · obtain ⟨h_4, hP, hD, hS, hl⟩ := hI
        have h_4 := h_4.symm
        subst h_4
        have hP : va_P D vwCl (XW ad cI cJ co fl ra li ((lp (mgB l1 k1) (40) (sl (sB ((lp (mgA l1) (40) (re, 0)).1) 0 (wrL (gB ((lp (mgA l1) (40) (re, 0)).1) 0) 40 k1 ((((lp (mgA l1) (40) (re, 0)).2) &&& (l1 ^^^ (-1))) ||| 0))) 0 (((gl ((lp (mgA l1) (40) (re, 0)).1) 0) &&& (l1 ^^^ (-1))) ||| (bitL k1))))) wa pi) H := hP
        have hD : va_D A (XW ad cI cJ co fl ra li ((lp (mgB l1 k1) (40) (sl (sB ((lp (mgA l1) (40) (re, 0)).1) 0 (wrL (gB ((lp (mgA l1) (40) (re, 0)).1) 0) 40 k1 ((((lp (mgA l1) (40) (re, 0)).2) &&& (l1 ^^^ (-1))) ||| 0))) 0 (((gl ((lp (mgA l1) (40) (re, 0)).1) 0) &&& (l1 ^^^ (-1))) ||| (bitL k1))))) wa pi) := hD
        have hl : lv_has ls 11 [(0, .ref (ad 5)), (1, .long l1), (3, .int k1), (4, .int (b2i b1)), (7, .int (nI 40))] := hl
        refine lv_iload hx hb dX5_merge_104 (lv_at hl 4 rfl) ?_
        refine lv_bipush (v := 40) hx hb dX5_merge_106 (by decide) ?_
        refine lv_icmp_ge (tgt := 194) hx hb dX5_merge_108 (by decide) (fun _ => ?_) (fun c_108 => absurd (by decide) c_108)
        exact W.vret hx hb hr (fun t ht hW => ⟨⟨(XW ad cI cJ co fl ra li ((lp (mgB l1 k1) (40) (sl (sB ((lp (mgA l1) (40) (re, 0)).1) 0 (wrL (gB ((lp (mgA l1) (40) (re, 0)).1) 0) 40 k1 ((((lp (mgA l1) (40) (re, 0)).2) &&& (l1 ^^^ (-1))) ||| 0))) 0 (((gl ((lp (mgA l1) (40) (re, 0)).1) 0) &&& (l1 ^^^ (-1))) ||| (bitL k1))))) wa pi), rfl, xw_eq rfl rfl rfl rfl (show ((lp (mgB l1 k1) (40) (sl (sB ((lp (mgA l1) (40) (re, 0)).1) 0 (wrL (gB ((lp (mgA l1) (40) (re, 0)).1) 0) 40 k1 ((((lp (mgA l1) (40) (re, 0)).2) &&& (l1 ^^^ (-1))) ||| 0))) 0 (((gl ((lp (mgA l1) (40) (re, 0)).1) 0) &&& (l1 ^^^ (-1))) ||| (bitL k1))))) = (merge re l1 k1 b1) from (by first | (simp only [merge, mgN, if_neg c_67, bf_of c_67, gi_sl, gi_sA, gi_sB, gi_si_s, gi_si_n, gl_si, gl_sA, gl_sB, gl_sl_s, gl_sl_n, gA_si, gA_sl, gA_sB, gA_sA_s, gA_sA_n, gB_si, gB_sl, gB_sA, gB_sB_s, gB_sB_n, Nat.reduceBEq, if_true, if_false, eq_self, Bool.false_eq_true, reduceCtorEq, not_true_eq_false, not_false_eq_true, decide_true, decide_false, cond_true, cond_false, Bool.true_and, Bool.false_and, Bool.and_true, Bool.and_false, Bool.true_or, Bool.false_or, Bool.or_true, Bool.or_false, b2i_tt, b2i_ff]; done) | (simp only [merge, mgN, if_neg c_67, bf_of c_67, gi_sl, gi_sA, gi_sB, gi_si_s, gi_si_n, gl_si, gl_sA, gl_sB, gl_sl_s, gl_sl_n, gA_si, gA_sl, gA_sB, gA_sA_s, gA_sA_n, gB_si, gB_sl, gB_sA, gB_sB_s, gB_sB_n, Nat.reduceBEq, if_true, if_false, eq_self, Bool.false_eq_true, reduceCtorEq, not_true_eq_false, not_false_eq_true, decide_true, decide_false, cond_true, cond_false, Bool.true_and, Bool.false_and, Bool.and_true, Bool.and_false, Bool.true_or, Bool.false_or, Bool.or_true, Bool.or_false, b2i_tt, b2i_ff]; rfl) | (simp [merge, mgN, c_67, gi_sl, gi_sA, gi_sB, gi_si_s, gi_si_n, gl_si, gl_sA, gl_sB, gl_sl_s, gl_sl_n, gA_si, gA_sl, gA_sB, gA_sA_s, gA_sA_n, gB_si, gB_sl, gB_sA, gB_sB_s, gB_sB_n, Nat.reduceBEq]; done))) rfl rfl, ⟨by rw [ht]; exact hP, va_K.moved hW.alike hK, hD⟩⟩, hS.F ht⟩) hS.2.2 dX5_merge_194
      · obtain ⟨h_4, hP, hD, hS, hl⟩ := hI
        have hP : va_P D vwCl (XW ad cI cJ co fl ra li p_4 wa pi) H := hP
        have hD : va_D A (XW ad cI cJ co fl ra li p_4 wa pi) := hD
        have hl : lv_has ls 11 [(0, .ref (ad 5)), (1, .long l1), (3, .int k1), (4, .int (b2i b1)), (7, .int (nI i_4))] := hl
        refine lv_iload hx hb dX5_merge_104 (lv_at hl 4 rfl) ?_
        refine lv_bipush (v := 40) hx hb dX5_merge_106 (by decide) ?_
        refine lv_icmp_ge (tgt := 194) hx hb dX5_merge_108 (by decide) (fun c_108 => absurd c_108 (nI_ge hi_4 (by decide))) (fun _ => ?_)
        refine lv_aload_n hx hb dX5_merge_111 rfl (lv_at hl 0 rfl) ?_
        refine va_get (D := D) (ci := 5) (v := .ref (ad 24)) (C := RX5) (T := TX5) (N := 8) hx hb hg inGX5 hown hK hP 5 rfl rfl 0 (by decide) (hg _ mw_166) (fun _ h9 => h9) rfl dX5_merge_112 ?_
        refine lv_iload hx hb dX5_merge_115 (lv_at hl 4 rfl) ?_
        refine kL (rSN hx hb hml hown hg hN hK hP hD (c_atL l D cI cJ (XW ad cI cJ co fl ra li p_4 wa pi) 24 (ad 24) 40 (gB p_4 0) (nI i_4) rfl (by decide)) mw_81 nw_84 mw_83 mw_77 pd_X7_at_ ⟨Nat.le_of_ble_eq_true rfl, Nat.le_of_ble_eq_true rfl⟩ rfl hl.1 rfl (Nat.le_of_ble_eq_true rfl) dX5_merge_117 ⟨Nat.le_of_ble_eq_true rfl, Nat.le_of_ble_eq_true rfl⟩) hD hS hA (fun r_5 u_5 H locs hp hP hD hS => ?_)
        obtain ⟨er, eu⟩ := hp
        obtain rfl := er.symm
        obtain rfl := eu.symm
        refine lv_lstore (lv' := [(8, .long (rdL (gB p_4 0) 40 (nI i_4))), (0, .ref (ad 5)), (1, .long l1), (3, .int k1), (4, .int (b2i b1)), (7, .int (nI i_4))]) hx hb dX5_merge_120 hl (by decide) rfl (fun ls hl => ?_)
        refine lv_lload hx hb dX5_merge_122 (lv_at hl 0 rfl) ?_
        refine lv_lload_n hx hb dX5_merge_124 rfl (lv_at hl 2 rfl) ?_
        refine lv_land hx hb dX5_merge_125 ?_
        refine lv_lconst (v := 0) hx hb dX5_merge_126 (by decide) ?_
        refine W.lcmp hx hb dX5_merge_127 ?_
        refine lv_if_eq (tgt := 153) hx hb dX5_merge_128 (by decide) (fun c_128 => ?_) (fun c_128 => ?_)
        · have c_128 : ((rdL (gB p_4 0) 40 (nI i_4)) &&& l1) = 0 := lcmp_0 c_128
          refine lv_aload_n hx hb dX5_merge_153 rfl (lv_at hl 1 rfl) ?_
          refine va_get (D := D) (ci := 5) (v := .ref (ad 25)) (C := RX5) (T := TX5) (N := 8) hx hb hg inGX5 hown hK hP 5 rfl rfl 1 (by decide) (hg _ mw_179) (fun _ h9 => h9) rfl dX5_merge_154 ?_
          refine lv_iload hx hb dX5_merge_157 (lv_at hl 5 rfl) ?_
          refine kI (rSN hx hb hml hown hg hN hK hP hD (c_at l D cI cJ (XW ad cI cJ co fl ra li p_4 wa pi) 25 (ad 25) 40 (gA p_4 0) (nI i_4) rfl (by decide)) mw_84 nw_89 mw_85 mw_77 pd_X7_at ⟨Nat.le_of_ble_eq_true rfl, Nat.le_of_ble_eq_true rfl⟩ rfl hl.1 rfl (Nat.le_of_ble_eq_true rfl) dX5_merge_159 ⟨Nat.le_of_ble_eq_true rfl, Nat.le_of_ble_eq_true rfl⟩) hD hS hA (fun r_6 u_6 H locs hp hP hD hS => ?_)
          obtain ⟨er, eu⟩ := hp
          obtain rfl := er.symm
          obtain rfl := eu.symm
          refine lv_istore (lv' := [(10, .int (rd (gA p_4 0) 40 (nI i_4))), (8, .long (rdL (gB p_4 0) 40 (nI i_4))), (0, .ref (ad 5)), (1, .long l1), (3, .int k1), (4, .int (b2i b1)), (7, .int (nI i_4))]) hx hb dX5_merge_162 hl (by decide) rfl (fun ls hl => ?_)
          refine lv_iload hx hb dX5_merge_164 (lv_at hl 0 rfl) ?_
          refine lv_if_lt (tgt := 188) hx hb dX5_merge_166 (by decide) (fun c_166 => ?_) (fun c_166 => ?_)
          · refine lv_iinc (v := (nI (i_4 + 1))) (lv' := [(7, .int (nI (i_4 + 1))), (10, .int (rd (gA p_4 0) 40 (nI i_4))), (8, .long (rdL (gB p_4 0) 40 (nI i_4))), (0, .ref (ad 5)), (1, .long l1), (3, .int k1), (4, .int (b2i b1))]) hx hb dX5_merge_188 hl (k := 6) rfl (nI_1 i_4) (by decide) rfl (fun ls hl => ?_)
            refine lv_goto (tgt := 104) hx hb dX5_merge_191 (by decide) ?_
            exact ih_4 p_4 H locs ls ⟨((show p_4 = (mgB l1 k1) i_4 p_4 from (by first | (simp only [mgB, mgC, mgD, if_neg c_67, bf_of c_67, if_pos c_128, decide_eq_true c_128, decide_eq_false (not_not_intro c_128), if_pos c_166, decide_eq_true c_166, decide_eq_false (not_not_intro c_166), gi_sl, gi_sA, gi_sB, gi_si_s, gi_si_n, gl_si, gl_sA, gl_sB, gl_sl_s, gl_sl_n, gA_si, gA_sl, gA_sB, gA_sA_s, gA_sA_n, gB_si, gB_sl, gB_sA, gB_sB_s, gB_sB_n, Nat.reduceBEq, if_true, if_false, eq_self, Bool.false_eq_true, reduceCtorEq, not_true_eq_false, not_false_eq_true, decide_true, decide_false, cond_true, cond_false, Bool.true_and, Bool.false_and, Bool.and_true, Bool.and_false, Bool.true_or, Bool.false_or, Bool.or_true, Bool.or_false, b2i_tt, b2i_ff]; done) | (simp only [mgB, mgC, mgD, if_neg c_67, bf_of c_67, if_pos c_128, decide_eq_true c_128, decide_eq_false (not_not_intro c_128), if_pos c_166, decide_eq_true c_166, decide_eq_false (not_not_intro c_166), gi_sl, gi_sA, gi_sB, gi_si_s, gi_si_n, gl_si, gl_sA, gl_sB, gl_sl_s, gl_sl_n, gA_si, gA_sl, gA_sB, gA_sA_s, gA_sA_n, gB_si, gB_sl, gB_sA, gB_sB_s, gB_sB_n, Nat.reduceBEq, if_true, if_false, eq_self, Bool.false_eq_true, reduceCtorEq, not_true_eq_false, not_false_eq_true, decide_true, decide_false, cond_true, cond_false, Bool.true_and, Bool.false_and, Bool.and_true, Bool.and_false, Bool.true_or, Bool.false_or, Bool.or_true, Bool.or_false, b2i_tt, b2i_ff]; rfl) | (simp [mgB, mgC, mgD, c_67, c_128, c_166, gi_sl, gi_sA, gi_sB, gi_si_s, gi_si_n, gl_si, gl_sA, gl_sB, gl_sl_s, gl_sl_n, gA_si, gA_sl, gA_sB, gA_sA_s, gA_sA_n, gB_si, gB_sl, gB_sA, gB_sB_s, gB_sB_n, Nat.reduceBEq]; done))).trans (lp_go h_4)), hP, hD, hS, lv_sub hl [3, 4, 5, 6, 0] rfl⟩
          · refine lv_lload_n hx hb dX5_merge_169 rfl (lv_at hl 3 rfl) ?_
            refine lv_iload hx hb dX5_merge_170 (lv_at hl 0 rfl) ?_
            refine kI (rSN hx hb hml hown hg hN hK hP hD (c_has l D cI cJ (XW ad cI cJ co fl ra li p_4 wa pi) l1 (rd (gA p_4 0) 40 (nI i_4))) mw_89 nw_83 mw_90 mw_77 pd_X7_has ⟨Nat.le_of_ble_eq_true rfl, Nat.le_of_ble_eq_true rfl⟩ rfl hl.1 rfl (Nat.le_of_ble_eq_true rfl) dX5_merge_172 ⟨Nat.le_of_ble_eq_true rfl, Nat.le_of_ble_eq_true rfl⟩) hD hS hA (fun r_7 u_7 H locs hp hP hD hS => ?_)
            obtain ⟨er, eu⟩ := hp
            obtain rfl := er.symm
            obtain rfl := eu.symm
            refine lv_if_eq (tgt := 188) hx hb dX5_merge_175 (by decide) (fun c_175 => ?_) (fun c_175 => ?_)
            · have c_175 : ¬ (hs l1 (rd (gA p_4 0) 40 (nI i_4))) = true := b2i_0 c_175
              refine lv_iinc (v := (nI (i_4 + 1))) (lv' := [(7, .int (nI (i_4 + 1))), (10, .int (rd (gA p_4 0) 40 (nI i_4))), (8, .long (rdL (gB p_4 0) 40 (nI i_4))), (0, .ref (ad 5)), (1, .long l1), (3, .int k1), (4, .int (b2i b1))]) hx hb dX5_merge_188 hl (k := 6) rfl (nI_1 i_4) (by decide) rfl (fun ls hl => ?_)
              refine lv_goto (tgt := 104) hx hb dX5_merge_191 (by decide) ?_
              exact ih_4 p_4 H locs ls ⟨((show p_4 = (mgB l1 k1) i_4 p_4 from (by first | (simp only [mgB, mgC, mgD, if_neg c_67, bf_of c_67, if_pos c_128, decide_eq_true c_128, decide_eq_false (not_not_intro c_128), if_neg c_166, decide_eq_false c_166, decide_eq_true c_166, if_pos c_166, if_neg c_175, bf_of c_175, gi_sl, gi_sA, gi_sB, gi_si_s, gi_si_n, gl_si, gl_sA, gl_sB, gl_sl_s, gl_sl_n, gA_si, gA_sl, gA_sB, gA_sA_s, gA_sA_n, gB_si, gB_sl, gB_sA, gB_sB_s, gB_sB_n, Nat.reduceBEq, if_true, if_false, eq_self, Bool.false_eq_true, reduceCtorEq, not_true_eq_false, not_false_eq_true, decide_true, decide_false, cond_true, cond_false, Bool.true_and, Bool.false_and, Bool.and_true, Bool.and_false, Bool.true_or, Bool.false_or, Bool.or_true, Bool.or_false, b2i_tt, b2i_ff]; done) | (simp only [mgB, mgC, mgD, if_neg c_67, bf_of c_67, if_pos c_128, decide_eq_true c_128, decide_eq_false (not_not_intro c_128), if_neg c_166, decide_eq_false c_166, decide_eq_true c_166, if_pos c_166, if_neg c_175, bf_of c_175, gi_sl, gi_sA, gi_sB, gi_si_s, gi_si_n, gl_si, gl_sA, gl_sB, gl_sl_s, gl_sl_n, gA_si, gA_sl, gA_sB, gA_sA_s, gA_sA_n, gB_si, gB_sl, gB_sA, gB_sB_s, gB_sB_n, Nat.reduceBEq, if_true, if_false, eq_self, Bool.false_eq_true, reduceCtorEq, not_true_eq_false, not_false_eq_true, decide_true, decide_false, cond_true, cond_false, Bool.true_and, Bool.false_and, Bool.and_true, Bool.and_false, Bool.true_or, Bool.false_or, Bool.or_true, Bool.or_false, b2i_tt, b2i_ff]; rfl) | (simp [mgB, mgC, mgD, c_67, c_128, c_166, c_175, gi_sl, gi_sA, gi_sB, gi_si_s, gi_si_n, gl_si, gl_sA, gl_sB, gl_sl_s, gl_sl_n, gA_si, gA_sl, gA_sB, gA_sA_s, gA_sA_n, gB_si, gB_sl, gB_sA, gB_sB_s, gB_sB_n, Nat.reduceBEq]; done))).trans (lp_go h_4)), hP, hD, hS, lv_sub hl [3, 4, 5, 6, 0] rfl⟩
            · have c_175 : (hs l1 (rd (gA p_4 0) 40 (nI i_4))) = true := b2i_1 c_175
              refine lv_aload_n hx hb dX5_merge_178 rfl (lv_at hl 2 rfl) ?_
              refine va_get (D := D) (ci := 5) (v := .ref (ad 25)) (C := RX5) (T := TX5) (N := 8) hx hb hg inGX5 hown hK hP 5 rfl rfl 1 (by decide) (hg _ mw_179) (fun _ h9 => h9) rfl dX5_merge_179 ?_
              refine lv_iload hx hb dX5_merge_182 (lv_at hl 6 rfl) ?_
              refine lv_iload_n hx hb dX5_merge_184 rfl (lv_at hl 4 rfl) ?_
              refine kV (rSN hx hb hml hown hg hN hK hP hD (c_put l D cI cJ (XW ad cI cJ co fl ra li p_4 wa pi) 25 (ad 25) 40 (gA p_4 0) (nI i_4) k1 rfl (by decide)) mw_92 nw_86 mw_93 mw_77 pd_X7_put ⟨Nat.le_of_ble_eq_true rfl, Nat.le_of_ble_eq_true rfl⟩ rfl hl.1 rfl (Nat.le_of_ble_eq_true rfl) dX5_merge_185 ⟨Nat.le_of_ble_eq_true rfl, Nat.le_of_ble_eq_true rfl⟩) hD hS hA (fun u_8 H locs hp hP hD hS => ?_)
              obtain rfl := hp.symm
              have hP : va_P D vwCl (XW ad cI cJ co fl ra li (sA p_4 0 (wr (gA p_4 0) 40 (nI i_4) k1)) wa pi) H := hP
              have hD : va_D A (XW ad cI cJ co fl ra li (sA p_4 0 (wr (gA p_4 0) 40 (nI i_4) k1)) wa pi) := hD
              refine lv_iinc (v := (nI (i_4 + 1))) (lv' := [(7, .int (nI (i_4 + 1))), (10, .int (rd (gA p_4 0) 40 (nI i_4))), (8, .long (rdL (gB p_4 0) 40 (nI i_4))), (0, .ref (ad 5)), (1, .long l1), (3, .int k1), (4, .int (b2i b1))]) hx hb dX5_merge_188 hl (k := 6) rfl (nI_1 i_4) (by decide) rfl (fun ls hl => ?_)
              refine lv_goto (tgt := 104) hx hb dX5_merge_191 (by decide) ?_
              exact ih_4 (sA p_4 0 (wr (gA p_4 0) 40 (nI i_4) k1)) H locs ls ⟨((show (sA p_4 0 (wr (gA p_4 0) 40 (nI i_4) k1)) = (mgB l1 k1) i_4 p_4 from (by first | (simp only [mgB, mgC, mgD, if_neg c_67, bf_of c_67, if_pos c_128, decide_eq_true c_128, decide_eq_false (not_not_intro c_128), if_neg c_166, decide_eq_false c_166, decide_eq_true c_166, if_pos c_166, if_pos c_175, c_175, gi_sl, gi_sA, gi_sB, gi_si_s, gi_si_n, gl_si, gl_sA, gl_sB, gl_sl_s, gl_sl_n, gA_si, gA_sl, gA_sB, gA_sA_s, gA_sA_n, gB_si, gB_sl, gB_sA, gB_sB_s, gB_sB_n, Nat.reduceBEq, if_true, if_false, eq_self, Bool.false_eq_true, reduceCtorEq, not_true_eq_false, not_false_eq_true, decide_true, decide_false, cond_true, cond_false, Bool.true_and, Bool.false_and, Bool.and_true, Bool.and_false, Bool.true_or, Bool.false_or, Bool.or_true, Bool.or_false, b2i_tt, b2i_ff]; done) | (simp only [mgB, mgC, mgD, if_neg c_67, bf_of c_67, if_pos c_128, decide_eq_true c_128, decide_eq_false (not_not_intro c_128), if_neg c_166, decide_eq_false c_166, decide_eq_true c_166, if_pos c_166, if_pos c_175, c_175, gi_sl, gi_sA, gi_sB, gi_si_s, gi_si_n, gl_si, gl_sA, gl_sB, gl_sl_s, gl_sl_n, gA_si, gA_sl, gA_sB, gA_sA_s, gA_sA_n, gB_si, gB_sl, gB_sA, gB_sB_s, gB_sB_n, Nat.reduceBEq, if_true, if_false, eq_self, Bool.false_eq_true, reduceCtorEq, not_true_eq_false, not_false_eq_true, decide_true, decide_false, cond_true, cond_false, Bool.true_and, Bool.false_and, Bool.and_true, Bool.and_false, Bool.true_or, Bool.false_or, Bool.or_true, Bool.or_false, b2i_tt, b2i_ff]; rfl) | (simp [mgB, mgC, mgD, c_67, c_128, c_166, c_175, gi_sl, gi_sA, gi_sB, gi_si_s, gi_si_n, gl_si, gl_sA, gl_sB, gl_sl_s, gl_sl_n, gA_si, gA_sl, gA_sB, gA_sA_s, gA_sA_n, gB_si, gB_sl, gB_sA, gB_sB_s, gB_sB_n, Nat.reduceBEq]; done))).trans (lp_go h_4)), hP, hD, hS, lv_sub hl [3, 4, 5, 6, 0] rfl⟩
        · have c_128 : ¬ ((rdL (gB p_4 0) 40 (nI i_4)) &&& l1) = 0 := lcmp_1 c_128
          refine lv_aload_n hx hb dX5_merge_131 rfl (lv_at hl 1 rfl) ?_
          refine va_get (D := D) (ci := 5) (v := .ref (ad 24)) (C := RX5) (T := TX5) (N := 8) hx hb hg inGX5 hown hK hP 5 rfl rfl 0 (by decide) (hg _ mw_166) (fun _ h9 => h9) rfl dX5_merge_132 ?_
          refine lv_iload hx hb dX5_merge_135 (lv_at hl 5 rfl) ?_
          refine lv_lload hx hb dX5_merge_137 (lv_at hl 0 rfl) ?_
          refine lv_lload_n hx hb dX5_merge_139 rfl (lv_at hl 2 rfl) ?_
          refine lv_ldc2 (v := (-1)) hx hb hown (hg _ mw_168) dX5_merge_140 ?_
          refine lv_lxor hx hb dX5_merge_143 ?_
          refine lv_land hx hb dX5_merge_144 ?_
          refine lv_iload_n hx hb dX5_merge_145 rfl (lv_at hl 3 rfl) ?_
          refine kL (rSN hx hb hml hown hg hN hK hP hD (c_bit l D cI cJ (XW ad cI cJ co fl ra li p_4 wa pi) k1) mw_78 nw_87 mw_80 mw_77 pd_X7_bit ⟨Nat.le_of_ble_eq_true rfl, Nat.le_of_ble_eq_true rfl⟩ rfl hl.1 rfl (Nat.le_of_ble_eq_true rfl) dX5_merge_146 ⟨Nat.le_of_ble_eq_true rfl, Nat.le_of_ble_eq_true rfl⟩) hD hS hA (fun r_9 u_9 H locs hp hP hD hS => ?_)
          obtain ⟨er, eu⟩ := hp
          obtain rfl := er.symm
          obtain rfl := eu.symm
          refine lv_lor hx hb dX5_merge_149 ?_
          refine kV (rSN hx hb hml hown hg hN hK hP hD (c_putL l D cI cJ (XW ad cI cJ co fl ra li p_4 wa pi) 24 (ad 24) 40 (gB p_4 0) (nI i_4) (((rdL (gB p_4 0) 40 (nI i_4)) &&& (l1 ^^^ (-1))) ||| (bitL k1)) rfl (by decide)) mw_97 nw_85 mw_98 mw_77 pd_X7_put_ ⟨Nat.le_of_ble_eq_true rfl, Nat.le_of_ble_eq_true rfl⟩ rfl hl.1 rfl (Nat.le_of_ble_eq_true rfl) dX5_merge_150 ⟨Nat.le_of_ble_eq_true rfl, Nat.le_of_ble_eq_true rfl⟩) hD hS hA (fun u_10 H locs hp hP hD hS => ?_)
          obtain rfl := hp.symm
          have hP : va_P D vwCl (XW ad cI cJ co fl ra li (sB p_4 0 (wrL (gB p_4 0) 40 (nI i_4) (((rdL (gB p_4 0) 40 (nI i_4)) &&& (l1 ^^^ (-1))) ||| (bitL k1)))) wa pi) H := hP
          have hD : va_D A (XW ad cI cJ co fl ra li (sB p_4 0 (wrL (gB p_4 0) 40 (nI i_4) (((rdL (gB p_4 0) 40 (nI i_4)) &&& (l1 ^^^ (-1))) ||| (bitL k1)))) wa pi) := hD
          refine lv_aload_n hx hb dX5_merge_153 rfl (lv_at hl 1 rfl) ?_
          refine va_get (D := D) (ci := 5) (v := .ref (ad 25)) (C := RX5) (T := TX5) (N := 8) hx hb hg inGX5 hown hK hP 5 rfl rfl 1 (by decide) (hg _ mw_179) (fun _ h9 => h9) rfl dX5_merge_154 ?_
          refine lv_iload hx hb dX5_merge_157 (lv_at hl 5 rfl) ?_
          refine kI (rSN hx hb hml hown hg hN hK hP hD (c_at l D cI cJ (XW ad cI cJ co fl ra li (sB p_4 0 (wrL (gB p_4 0) 40 (nI i_4) (((rdL (gB p_4 0) 40 (nI i_4)) &&& (l1 ^^^ (-1))) ||| (bitL k1)))) wa pi) 25 (ad 25) 40 (gA p_4 0) (nI i_4) rfl (by decide)) mw_84 nw_89 mw_85 mw_77 pd_X7_at ⟨Nat.le_of_ble_eq_true rfl, Nat.le_of_ble_eq_true rfl⟩ rfl hl.1 rfl (Nat.le_of_ble_eq_true rfl) dX5_merge_159 ⟨Nat.le_of_ble_eq_true rfl, Nat.le_of_ble_eq_true rfl⟩) hD hS hA (fun r_11 u_11 H locs hp hP hD hS => ?_)
          obtain ⟨er, eu⟩ := hp
          obtain rfl := er.symm
          obtain rfl := eu.symm
          refine lv_istore (lv' := [(10, .int (rd (gA p_4 0) 40 (nI i_4))), (8, .long (rdL (gB p_4 0) 40 (nI i_4))), (0, .ref (ad 5)), (1, .long l1), (3, .int k1), (4, .int (b2i b1)), (7, .int (nI i_4))]) hx hb dX5_merge_162 hl (by decide) rfl (fun ls hl => ?_)
          refine lv_iload hx hb dX5_merge_164 (lv_at hl 0 rfl) ?_
          refine lv_if_lt (tgt := 188) hx hb dX5_merge_166 (by decide) (fun c_166 => ?_) (fun c_166 => ?_)
          · refine lv_iinc (v := (nI (i_4 + 1))) (lv' := [(7, .int (nI (i_4 + 1))), (10, .int (rd (gA p_4 0) 40 (nI i_4))), (8, .long (rdL (gB p_4 0) 40 (nI i_4))), (0, .ref (ad 5)), (1, .long l1), (3, .int k1), (4, .int (b2i b1))]) hx hb dX5_merge_188 hl (k := 6) rfl (nI_1 i_4) (by decide) rfl (fun ls hl => ?_)
            refine lv_goto (tgt := 104) hx hb dX5_merge_191 (by decide) ?_
            exact ih_4 (sB p_4 0 (wrL (gB p_4 0) 40 (nI i_4) (((rdL (gB p_4 0) 40 (nI i_4)) &&& (l1 ^^^ (-1))) ||| (bitL k1)))) H locs ls ⟨((show (sB p_4 0 (wrL (gB p_4 0) 40 (nI i_4) (((rdL (gB p_4 0) 40 (nI i_4)) &&& (l1 ^^^ (-1))) ||| (bitL k1)))) = (mgB l1 k1) i_4 p_4 from (by first | (simp only [mgB, mgC, mgD, if_neg c_67, bf_of c_67, if_neg c_128, decide_eq_false c_128, decide_eq_true c_128, if_pos c_128, if_pos c_166, decide_eq_true c_166, decide_eq_false (not_not_intro c_166), gi_sl, gi_sA, gi_sB, gi_si_s, gi_si_n, gl_si, gl_sA, gl_sB, gl_sl_s, gl_sl_n, gA_si, gA_sl, gA_sB, gA_sA_s, gA_sA_n, gB_si, gB_sl, gB_sA, gB_sB_s, gB_sB_n, Nat.reduceBEq, if_true, if_false, eq_self, Bool.false_eq_true, reduceCtorEq, not_true_eq_false, not_false_eq_true, decide_true, decide_false, cond_true, cond_false, Bool.true_and, Bool.false_and, Bool.and_true, Bool.and_false, Bool.true_or, Bool.false_or, Bool.or_true, Bool.or_false, b2i_tt, b2i_ff]; done) | (simp only [mgB, mgC, mgD, if_neg c_67, bf_of c_67, if_neg c_128, decide_eq_false c_128, decide_eq_true c_128, if_pos c_128, if_pos c_166, decide_eq_true c_166, decide_eq_false (not_not_intro c_166), gi_sl, gi_sA, gi_sB, gi_si_s, gi_si_n, gl_si, gl_sA, gl_sB, gl_sl_s, gl_sl_n, gA_si, gA_sl, gA_sB, gA_sA_s, gA_sA_n, gB_si, gB_sl, gB_sA, gB_sB_s, gB_sB_n, Nat.reduceBEq, if_true, if_false, eq_self, Bool.false_eq_true, reduceCtorEq, not_true_eq_false, not_false_eq_true, decide_true, decide_false, cond_true, cond_false, Bool.true_and, Bool.false_and, Bool.and_true, Bool.and_false, Bool.true_or, Bool.false_or, Bool.or_true, Bool.or_false, b2i_tt, b2i_ff]; rfl) | (simp [mgB, mgC, mgD, c_67, c_128, c_166, gi_sl, gi_sA, gi_sB, gi_si_s, gi_si_n, gl_si, gl_sA, gl_sB, gl_sl_s, gl_sl_n, gA_si, gA_sl, gA_sB, gA_sA_s, gA_sA_n, gB_si, gB_sl, gB_sA, gB_sB_s, gB_sB_n, Nat.reduceBEq]; done))).trans (lp_go h_4)), hP, hD, hS, lv_sub hl [3, 4, 5, 6, 0] rfl⟩
          · refine lv_lload_n hx hb dX5_merge_169 rfl (lv_at hl 3 rfl) ?_
            refine lv_iload hx hb dX5_merge_170 (lv_at hl 0 rfl) ?_
            refine kI (rSN hx hb hml hown hg hN hK hP hD (c_has l D cI cJ (XW ad cI cJ co fl ra li (sB p_4 0 (wrL (gB p_4 0) 40 (nI i_4) (((rdL (gB p_4 0) 40 (nI i_4)) &&& (l1 ^^^ (-1))) ||| (bitL k1)))) wa pi) l1 (rd (gA p_4 0) 40 (nI i_4))) mw_89 nw_83 mw_90 mw_77 pd_X7_has ⟨Nat.le_of_ble_eq_true rfl, Nat.le_of_ble_eq_true rfl⟩ rfl hl.1 rfl (Nat.le_of_ble_eq_true rfl) dX5_merge_172 ⟨Nat.le_of_ble_eq_true rfl, Nat.le_of_ble_eq_true rfl⟩) hD hS hA (fun r_12 u_12 H locs hp hP hD hS => ?_)
            obtain ⟨er, eu⟩ := hp
            obtain rfl := er.symm
            obtain rfl := eu.symm
            refine lv_if_eq (tgt := 188) hx hb dX5_merge_175 (by decide) (fun c_175 => ?_) (fun c_175 => ?_)
            · have c_175 : ¬ (hs l1 (rd (gA p_4 0) 40 (nI i_4))) = true := b2i_0 c_175
              refine lv_iinc (v := (nI (i_4 + 1))) (lv' := [(7, .int (nI (i_4 + 1))), (10, .int (rd (gA p_4 0) 40 (nI i_4))), (8, .long (rdL (gB p_4 0) 40 (nI i_4))), (0, .ref (ad 5)), (1, .long l1), (3, .int k1), (4, .int (b2i b1))]) hx hb dX5_merge_188 hl (k := 6) rfl (nI_1 i_4) (by decide) rfl (fun ls hl => ?_)
              refine lv_goto (tgt := 104) hx hb dX5_merge_191 (by decide) ?_
              exact ih_4 (sB p_4 0 (wrL (gB p_4 0) 40 (nI i_4) (((rdL (gB p_4 0) 40 (nI i_4)) &&& (l1 ^^^ (-1))) ||| (bitL k1)))) H locs ls ⟨((show (sB p_4 0 (wrL (gB p_4 0) 40 (nI i_4) (((rdL (gB p_4 0) 40 (nI i_4)) &&& (l1 ^^^ (-1))) ||| (bitL k1)))) = (mgB l1 k1) i_4 p_4 from (by first | (simp only [mgB, mgC, mgD, if_neg c_67, bf_of c_67, if_neg c_128, decide_eq_false c_128, decide_eq_true c_128, if_pos c_128, if_neg c_166, decide_eq_false c_166, decide_eq_true c_166, if_pos c_166, if_neg c_175, bf_of c_175, gi_sl, gi_sA, gi_sB, gi_si_s, gi_si_n, gl_si, gl_sA, gl_sB, gl_sl_s, gl_sl_n, gA_si, gA_sl, gA_sB, gA_sA_s, gA_sA_n, gB_si, gB_sl, gB_sA, gB_sB_s, gB_sB_n, Nat.reduceBEq, if_true, if_false, eq_self, Bool.false_eq_true, reduceCtorEq, not_true_eq_false, not_false_eq_true, decide_true, decide_false, cond_true, cond_false, Bool.true_and, Bool.false_and, Bool.and_true, Bool.and_false, Bool.true_or, Bool.false_or, Bool.or_true, Bool.or_false, b2i_tt, b2i_ff]; done) | (simp only [mgB, mgC, mgD, if_neg c_67, bf_of c_67, if_neg c_128, decide_eq_false c_128, decide_eq_true c_128, if_pos c_128, if_neg c_166, decide_eq_false c_166, decide_eq_true c_166, if_pos c_166, if_neg c_175, bf_of c_175, gi_sl, gi_sA, gi_sB, gi_si_s, gi_si_n, gl_si, gl_sA, gl_sB, gl_sl_s, gl_sl_n, gA_si, gA_sl, gA_sB, gA_sA_s, gA_sA_n, gB_si, gB_sl, gB_sA, gB_sB_s, gB_sB_n, Nat.reduceBEq, if_true, if_false, eq_self, Bool.false_eq_true, reduceCtorEq, not_true_eq_false, not_false_eq_true, decide_true, decide_false, cond_true, cond_false, Bool.true_and, Bool.false_and, Bool.and_true, Bool.and_false, Bool.true_or, Bool.false_or, Bool.or_true, Bool.or_false, b2i_tt, b2i_ff]; rfl) | (simp [mgB, mgC, mgD, c_67, c_128, c_166, c_175, gi_sl, gi_sA, gi_sB, gi_si_s, gi_si_n, gl_si, gl_sA, gl_sB, gl_sl_s, gl_sl_n, gA_si, gA_sl, gA_sB, gA_sA_s, gA_sA_n, gB_si, gB_sl, gB_sA, gB_sB_s, gB_sB_n, Nat.reduceBEq]; done))).trans (lp_go h_4)), hP, hD, hS, lv_sub hl [3, 4, 5, 6, 0] rfl⟩
            · have c_175 : (hs l1 (rd (gA p_4 0) 40 (nI i_4))) = true := b2i_1 c_175
              refine lv_aload_n hx hb dX5_merge_178 rfl (lv_at hl 2 rfl) ?_
              refine va_get (D := D) (ci := 5) (v := .ref (ad 25)) (C := RX5) (T := TX5) (N := 8) hx hb hg inGX5 hown hK hP 5 rfl rfl 1 (by decide) (hg _ mw_179) (fun _ h9 => h9) rfl dX5_merge_179 ?_
              refine lv_iload hx hb dX5_merge_182 (lv_at hl 6 rfl) ?_
              refine lv_iload_n hx hb dX5_merge_184 rfl (lv_at hl 4 rfl) ?_
              refine kV (rSN hx hb hml hown hg hN hK hP hD (c_put l D cI cJ (XW ad cI cJ co fl ra li (sB p_4 0 (wrL (gB p_4 0) 40 (nI i_4) (((rdL (gB p_4 0) 40 (nI i_4)) &&& (l1 ^^^ (-1))) ||| (bitL k1)))) wa pi) 25 (ad 25) 40 (gA p_4 0) (nI i_4) k1 rfl (by decide)) mw_92 nw_86 mw_93 mw_77 pd_X7_put ⟨Nat.le_of_ble_eq_true rfl, Nat.le_of_ble_eq_true rfl⟩ rfl hl.1 rfl (Nat.le_of_ble_eq_true rfl) dX5_merge_185 ⟨Nat.le_of_ble_eq_true rfl, Nat.le_of_ble_eq_true rfl⟩) hD hS hA (fun u_13 H locs hp hP hD hS => ?_)
              obtain rfl := hp.symm
              have hP : va_P D vwCl (XW ad cI cJ co fl ra li (sA (sB p_4 0 (wrL (gB p_4 0) 40 (nI i_4) (((rdL (gB p_4 0) 40 (nI i_4)) &&& (l1 ^^^ (-1))) ||| (bitL k1)))) 0 (wr (gA p_4 0) 40 (nI i_4) k1)) wa pi) H := hP
              have hD : va_D A (XW ad cI cJ co fl ra li (sA (sB p_4 0 (wrL (gB p_4 0) 40 (nI i_4) (((rdL (gB p_4 0) 40 (nI i_4)) &&& (l1 ^^^ (-1))) ||| (bitL k1)))) 0 (wr (gA p_4 0) 40 (nI i_4) k1)) wa pi) := hD
              refine lv_iinc (v := (nI (i_4 + 1))) (lv' := [(7, .int (nI (i_4 + 1))), (10, .int (rd (gA p_4 0) 40 (nI i_4))), (8, .long (rdL (gB p_4 0) 40 (nI i_4))), (0, .ref (ad 5)), (1, .long l1), (3, .int k1), (4, .int (b2i b1))]) hx hb dX5_merge_188 hl (k := 6) rfl (nI_1 i_4) (by decide) rfl (fun ls hl => ?_)
              refine lv_goto (tgt := 104) hx hb dX5_merge_191 (by decide) ?_
              exact ih_4 (sA (sB p_4 0 (wrL (gB p_4 0) 40 (nI i_4) (((rdL (gB p_4 0) 40 (nI i_4)) &&& (l1 ^^^ (-1))) ||| (bitL k1)))) 0 (wr (gA p_4 0) 40 (nI i_4) k1)) H locs ls ⟨((show (sA (sB p_4 0 (wrL (gB p_4 0) 40 (nI i_4) (((rdL (gB p_4 0) 40 (nI i_4)) &&& (l1 ^^^ (-1))) ||| (bitL k1)))) 0 (wr (gA p_4 0) 40 (nI i_4) k1)) = (mgB l1 k1) i_4 p_4 from (by first | (simp only [mgB, mgC, mgD, if_neg c_67, bf_of c_67, if_neg c_128, decide_eq_false c_128, decide_eq_true c_128, if_pos c_128, if_neg c_166, decide_eq_false c_166, decide_eq_true c_166, if_pos c_166, if_pos c_175, c_175, gi_sl, gi_sA, gi_sB, gi_si_s, gi_si_n, gl_si, gl_sA, gl_sB, gl_sl_s, gl_sl_n, gA_si, gA_sl, gA_sB, gA_sA_s, gA_sA_n, gB_si, gB_sl, gB_sA, gB_sB_s, gB_sB_n, Nat.reduceBEq, if_true, if_false, eq_self, Bool.false_eq_true, reduceCtorEq, not_true_eq_false, not_false_eq_true, decide_true, decide_false, cond_true, cond_false, Bool.true_and, Bool.false_and, Bool.and_true, Bool.and_false, Bool.true_or, Bool.false_or, Bool.or_true, Bool.or_false, b2i_tt, b2i_ff]; done) | (simp only [mgB, mgC, mgD, if_neg c_67, bf_of c_67, if_neg c_128, decide_eq_false c_128, decide_eq_true c_128, if_pos c_128, if_neg c_166, decide_eq_false c_166, decide_eq_true c_166, if_pos c_166, if_pos c_175, c_175, gi_sl, gi_sA, gi_sB, gi_si_s, gi_si_n, gl_si, gl_sA, gl_sB, gl_sl_s, gl_sl_n, gA_si, gA_sl, gA_sB, gA_sA_s, gA_sA_n, gB_si, gB_sl, gB_sA, gB_sB_s, gB_sB_n, Nat.reduceBEq, if_true, if_false, eq_self, Bool.false_eq_true, reduceCtorEq, not_true_eq_false, not_false_eq_true, decide_true, decide_false, cond_true, cond_false, Bool.true_and, Bool.false_and, Bool.and_true, Bool.and_false, Bool.true_or, Bool.false_or, Bool.or_true, Bool.or_false, b2i_tt, b2i_ff]; rfl) | (simp [mgB, mgC, mgD, c_67, c_128, c_166, c_175, gi_sl, gi_sA, gi_sB, gi_si_s, gi_si_n, gl_si, gl_sA, gl_sB, gl_sl_s, gl_sl_n, gA_si, gA_sl, gA_sB, gA_sA_s, gA_sA_n, gB_si, gB_sl, gB_sA, gB_sB_s, gB_sB_n, Nat.reduceBEq]; done))).trans (lp_go h_4)), hP, hD, hS, lv_sub hl [3, 4, 5, 6, 0] rfl⟩
    · have c_67 : b1 = true := b2i_1 c_67
      refine lv_iload_n hx hb dX5_merge_70 rfl (lv_at hl 2 rfl) ?_
      refine kL (rSN hx hb hml hown hg hN hK hP hD (c_bit l D cI cJ (XW ad cI cJ co fl ra li ((lp (mgA l1) (40) (re, 0)).1) wa pi) k1) mw_78 nw_87 mw_80 mw_77 pd_X7_bit ⟨Nat.le_of_ble_eq_true rfl, Nat.le_of_ble_eq_true rfl⟩ rfl hl.1 rfl (Nat.le_of_ble_eq_true rfl) dX5_merge_71 ⟨Nat.le_of_ble_eq_true rfl, Nat.le_of_ble_eq_true rfl⟩) hD hS hA (fun r_14 u_14 H locs hp hP hD hS => ?_)
      obtain ⟨er, eu⟩ := hp
      obtain rfl := er.symm
      obtain rfl := eu.symm
      refine lv_goto (tgt := 78) hx hb dX5_merge_74 (by decide) ?_
      refine lv_lor hx hb dX5_merge_78 ?_
      refine kV (rSN hx hb hml hown hg hN hK hP hD (c_putL l D cI cJ (XW ad cI cJ co fl ra li ((lp (mgA l1) (40) (re, 0)).1) wa pi) 24 (ad 24) 40 (gB ((lp (mgA l1) (40) (re, 0)).1) 0) k1 ((((lp (mgA l1) (40) (re, 0)).2) &&& (l1 ^^^ (-1))) ||| (bitL k1)) rfl (by decide)) mw_97 nw_85 mw_98 mw_77 pd_X7_put_ ⟨Nat.le_of_ble_eq_true rfl, Nat.le_of_ble_eq_true rfl⟩ rfl hl.1 rfl (Nat.le_of_ble_eq_true rfl) dX5_merge_79 ⟨Nat.le_of_ble_eq_true rfl, Nat.le_of_ble_eq_true rfl⟩) hD hS hA (fun u_15 H locs hp hP hD hS => ?_)
      obtain rfl := hp.symm
      have hP : va_P D vwCl (XW ad cI cJ co fl ra li (sB ((lp (mgA l1) (40) (re, 0)).1) 0 (wrL (gB ((lp (mgA l1) (40) (re, 0)).1) 0) 40 k1 ((((lp (mgA l1) (40) (re, 0)).2) &&& (l1 ^^^ (-1))) ||| (bitL k1)))) wa pi) H := hP
      have hD : va_D A (XW ad cI cJ co fl ra li (sB ((lp (mgA l1) (40) (re, 0)).1) 0 (wrL (gB ((lp (mgA l1) (40) (re, 0)).1) 0) 40 k1 ((((lp (mgA l1) (40) (re, 0)).2) &&& (l1 ^^^ (-1))) ||| (bitL k1)))) wa pi) := hD
      refine lv_aload_n hx hb dX5_merge_82 rfl (lv_at hl 0 rfl) ?_
      refine lv_aload_n hx hb dX5_merge_83 rfl (lv_at hl 0 rfl) ?_
      refine va_get (D := D) (ci := 5) (v := .long (gl ((lp (mgA l1) (40) (re, 0)).1) 0)) (C := RX5) (T := TX5) (N := 8) hx hb hg inGX5 hown hK hP 5 rfl rfl 5 (by decide) (hg _ mw_178) (fun _ h9 => h9) rfl dX5_merge_84 ?_
      refine lv_lload_n hx hb dX5_merge_87 rfl (lv_at hl 1 rfl) ?_
      refine lv_ldc2 (v := (-1)) hx hb hown (hg _ mw_168) dX5_merge_88 ?_
      refine lv_lxor hx hb dX5_merge_91 ?_
      refine lv_land hx hb dX5_merge_92 ?_
      refine lv_iload_n hx hb dX5_merge_93 rfl (lv_at hl 2 rfl) ?_
      refine kL (rSN hx hb hml hown hg hN hK hP hD (c_bit l D cI cJ (XW ad cI cJ co fl ra li (sB ((lp (mgA l1) (40) (re, 0)).1) 0 (wrL (gB ((lp (mgA l1) (40) (re, 0)).1) 0) 40 k1 ((((lp (mgA l1) (40) (re, 0)).2) &&& (l1 ^^^ (-1))) ||| (bitL k1)))) wa pi) k1) mw_78 nw_87 mw_80 mw_77 pd_X7_bit ⟨Nat.le_of_ble_eq_true rfl, Nat.le_of_ble_eq_true rfl⟩ rfl hl.1 rfl (Nat.le_of_ble_eq_true rfl) dX5_merge_94 ⟨Nat.le_of_ble_eq_true rfl, Nat.le_of_ble_eq_true rfl⟩) hD hS hA (fun r_16 u_16 H locs hp hP hD hS => ?_)
      obtain ⟨er, eu⟩ := hp
      obtain rfl := er.symm
      obtain rfl := eu.symm
      refine lv_lor hx hb dX5_merge_97 ?_
      refine va_put (D := D) (ci := 5) (v := .long (((gl ((lp (mgA l1) (40) (re, 0)).1) 0) &&& (l1 ^^^ (-1))) ||| (bitL k1))) (C := RX5) (T := TX5) (N := 8) hx hb hg inGX5 tyX5 tyX5_ok nmX5 hown hK hP hD hS 5 rfl rfl 5 (by decide) (hg _ mw_178) (fun _ h9 => h9) rfl (tyX5_ok 5 (by decide)) rfl rfl (Nat.le_of_ble_eq_true rfl) dX5_merge_98 (fun H locs hP hD hS => ?_)
      have hP : va_P D vwCl (XW ad cI cJ co fl ra li (sl (sB ((lp (mgA l1) (40) (re, 0)).1) 0 (wrL (gB ((lp (mgA l1) (40) (re, 0)).1) 0) 40 k1 ((((lp (mgA l1) (40) (re, 0)).2) &&& (l1 ^^^ (-1))) ||| (bitL k1)))) 0 (((gl ((lp (mgA l1) (40) (re, 0)).1) 0) &&& (l1 ^^^ (-1))) ||| (bitL k1))) wa pi) H := hP
      have hD : va_D A (XW ad cI cJ co fl ra li (sl (sB ((lp (mgA l1) (40) (re, 0)).1) 0 (wrL (gB ((lp (mgA l1) (40) (re, 0)).1) 0) 40 k1 ((((lp (mgA l1) (40) (re, 0)).2) &&& (l1 ^^^ (-1))) ||| (bitL k1)))) 0 (((gl ((lp (mgA l1) (40) (re, 0)).1) 0) &&& (l1 ^^^ (-1))) ||| (bitL k1))) wa pi) := hD
      refine lv_iconst (v := 0) hx hb dX5_merge_101 (by decide) ?_
      refine lv_istore (lv' := [(7, .int 0), (0, .ref (ad 5)), (1, .long l1), (3, .int k1), (4, .int (b2i b1)), (5, .long ((lp (mgA l1) (40) (re, 0)).2))]) hx hb dX5_merge_102 hl (by decide) rfl (fun ls hl => ?_)
      refine w_loop (σ := Ob) (fun (i_17 : Nat) (p_17 : Ob) (H : Heap) (locs : List Loc) (ls : Array Slot) => p_17 = (lp (mgB l1 k1) i_17 (sl (sB ((lp (mgA l1) (40) (re, 0)).1) 0 (wrL (gB ((lp (mgA l1) (40) (re, 0)).1) 0) 40 k1 ((((lp (mgA l1) (40) (re, 0)).2) &&& (l1 ^^^ (-1))) ||| (bitL k1)))) 0 (((gl ((lp (mgA l1) (40) (re, 0)).1) 0) &&& (l1 ^^^ (-1))) ||| (bitL k1)))) ∧ va_P D vwCl (XW ad cI cJ co fl ra li p_17 wa pi) H ∧ va_D A (XW ad cI cJ co fl ra li p_17 wa pi) ∧ va_S A s.heap H locs ∧ lv_has ls 11 [(0, .ref (ad 5)), (1, .long l1), (3, .int k1), (4, .int (b2i b1)), (7, .int (nI i_17))]) (40) (fun p_17 H locs ls hI => ?_) (fun i_17 p_17 H locs ls hi_17 hI ih_17 => ?_) 0 (sl (sB ((lp (mgA l1) (40) (re, 0)).1) 0 (wrL (gB ((lp (mgA l1) (40) (re, 0)).1) 0) 40 k1 ((((lp (mgA l1) (40) (re, 0)).2) &&& (l1 ^^^ (-1))) ||| (bitL k1)))) 0 (((gl ((lp (mgA l1) (40) (re, 0)).1) 0) &&& (l1 ^^^ (-1))) ||| (bitL k1))) (Nat.zero_le _) ⟨rfl, hP, hD, hS, (by rw [nI_0]; exact lv_sub hl [1, 2, 3, 4, 0] rfl)⟩
      · obtain ⟨h_17, hP, hD, hS, hl⟩ := hI
        have h_17 := h_17.symm
        subst h_17
        have hP : va_P D vwCl (XW ad cI cJ co fl ra li ((lp (mgB l1 k1) (40) (sl (sB ((lp (mgA l1) (40) (re, 0)).1) 0 (wrL (gB ((lp (mgA l1) (40) (re, 0)).1) 0) 40 k1 ((((lp (mgA l1) (40) (re, 0)).2) &&& (l1 ^^^ (-1))) ||| (bitL k1)))) 0 (((gl ((lp (mgA l1) (40) (re, 0)).1) 0) &&& (l1 ^^^ (-1))) ||| (bitL k1))))) wa pi) H := hP
        have hD : va_D A (XW ad cI cJ co fl ra li ((lp (mgB l1 k1) (40) (sl (sB ((lp (mgA l1) (40) (re, 0)).1) 0 (wrL (gB ((lp (mgA l1) (40) (re, 0)).1) 0) 40 k1 ((((lp (mgA l1) (40) (re, 0)).2) &&& (l1 ^^^ (-1))) ||| (bitL k1)))) 0 (((gl ((lp (mgA l1) (40) (re, 0)).1) 0) &&& (l1 ^^^ (-1))) ||| (bitL k1))))) wa pi) := hD
        have hl : lv_has ls 11 [(0, .ref (ad 5)), (1, .long l1), (3, .int k1), (4, .int (b2i b1)), (7, .int (nI 40))] := hl
        refine lv_iload hx hb dX5_merge_104 (lv_at hl 4 rfl) ?_
        refine lv_bipush (v := 40) hx hb dX5_merge_106 (by decide) ?_
        refine lv_icmp_ge (tgt := 194) hx hb dX5_merge_108 (by decide) (fun _ => ?_) (fun c_108 => absurd (by decide) c_108)
        exact W.vret hx hb hr (fun t ht hW => ⟨⟨(XW ad cI cJ co fl ra li ((lp (mgB l1 k1) (40) (sl (sB ((lp (mgA l1) (40) (re, 0)).1) 0 (wrL (gB ((lp (mgA l1) (40) (re, 0)).1) 0) 40 k1 ((((lp (mgA l1) (40) (re, 0)).2) &&& (l1 ^^^ (-1))) ||| (bitL k1)))) 0 (((gl ((lp (mgA l1) (40) (re, 0)).1) 0) &&& (l1 ^^^ (-1))) ||| (bitL k1))))) wa pi), rfl, xw_eq rfl rfl rfl rfl (show ((lp (mgB l1 k1) (40) (sl (sB ((lp (mgA l1) (40) (re, 0)).1) 0 (wrL (gB ((lp (mgA l1) (40) (re, 0)).1) 0) 40 k1 ((((lp (mgA l1) (40) (re, 0)).2) &&& (l1 ^^^ (-1))) ||| (bitL k1)))) 0 (((gl ((lp (mgA l1) (40) (re, 0)).1) 0) &&& (l1 ^^^ (-1))) ||| (bitL k1))))) = (merge re l1 k1 b1) from (by first | (simp only [merge, mgN, if_pos c_67, c_67, gi_sl, gi_sA, gi_sB, gi_si_s, gi_si_n, gl_si, gl_sA, gl_sB, gl_sl_s, gl_sl_n, gA_si, gA_sl, gA_sB, gA_sA_s, gA_sA_n, gB_si, gB_sl, gB_sA, gB_sB_s, gB_sB_n, Nat.reduceBEq, if_true, if_false, eq_self, Bool.false_eq_true, reduceCtorEq, not_true_eq_false, not_false_eq_true, decide_true, decide_false, cond_true, cond_false, Bool.true_and, Bool.false_and, Bool.and_true, Bool.and_false, Bool.true_or, Bool.false_or, Bool.or_true, Bool.or_false, b2i_tt, b2i_ff]; done) | (simp only [merge, mgN, if_pos c_67, c_67, gi_sl, gi_sA, gi_sB, gi_si_s, gi_si_n, gl_si, gl_sA, gl_sB, gl_sl_s, gl_sl_n, gA_si, gA_sl, gA_sB, gA_sA_s, gA_sA_n, gB_si, gB_sl, gB_sA, gB_sB_s, gB_sB_n, Nat.reduceBEq, if_true, if_false, eq_self, Bool.false_eq_true, reduceCtorEq, not_true_eq_false, not_false_eq_true, decide_true, decide_false, cond_true, cond_false, Bool.true_and, Bool.false_and, Bool.and_true, Bool.and_false, Bool.true_or, Bool.false_or, Bool.or_true, Bool.or_false, b2i_tt, b2i_ff]; rfl) | (simp [merge, mgN, c_67, gi_sl, gi_sA, gi_sB, gi_si_s, gi_si_n, gl_si, gl_sA, gl_sB, gl_sl_s, gl_sl_n, gA_si, gA_sl, gA_sB, gA_sA_s, gA_sA_n, gB_si, gB_sl, gB_sA, gB_sB_s, gB_sB_n, Nat.reduceBEq]; done))) rfl rfl, ⟨by rw [ht]; exact hP, va_K.moved hW.alike hK, hD⟩⟩, hS.F ht⟩) hS.2.2 dX5_merge_194
      · obtain ⟨h_17, hP, hD, hS, hl⟩ := hI
        have hP : va_P D vwCl (XW ad cI cJ co fl ra li p_17 wa pi) H := hP
        have hD : va_D A (XW ad cI cJ co fl ra li p_17 wa pi) := hD
        have hl : lv_has ls 11 [(0, .ref (ad 5)), (1, .long l1), (3, .int k1), (4, .int (b2i b1)), (7, .int (nI i_17))] := hl
        refine lv_iload hx hb dX5_merge_104 (lv_at hl 4 rfl) ?_
        refine lv_bipush (v := 40) hx hb dX5_merge_106 (by decide) ?_
        refine lv_icmp_ge (tgt := 194) hx hb dX5_merge_108 (by decide) (fun c_108 => absurd c_108 (nI_ge hi_17 (by decide))) (fun _ => ?_)
        refine lv_aload_n hx hb dX5_merge_111 rfl (lv_at hl 0 rfl) ?_
        refine va_get (D := D) (ci := 5) (v := .ref (ad 24)) (C := RX5) (T := TX5) (N := 8) hx hb hg inGX5 hown hK hP 5 rfl rfl 0 (by decide) (hg _ mw_166) (fun _ h9 => h9) rfl dX5_merge_112 ?_
        refine lv_iload hx hb dX5_merge_115 (lv_at hl 4 rfl) ?_
        refine kL (rSN hx hb hml hown hg hN hK hP hD (c_atL l D cI cJ (XW ad cI cJ co fl ra li p_17 wa pi) 24 (ad 24) 40 (gB p_17 0) (nI i_17) rfl (by decide)) mw_81 nw_84 mw_83 mw_77 pd_X7_at_ ⟨Nat.le_of_ble_eq_true rfl, Nat.le_of_ble_eq_true rfl⟩ rfl hl.1 rfl (Nat.le_of_ble_eq_true rfl) dX5_merge_117 ⟨Nat.le_of_ble_eq_true rfl, Nat.le_of_ble_eq_true rfl⟩) hD hS hA (fun r_18 u_18 H locs hp hP hD hS => ?_)
        obtain ⟨er, eu⟩ := hp
        obtain rfl := er.symm
        obtain rfl := eu.symm
        refine lv_lstore (lv' := [(8, .long (rdL (gB p_17 0) 40 (nI i_17))), (0, .ref (ad 5)), (1, .long l1), (3, .int k1), (4, .int (b2i b1)), (7, .int (nI i_17))]) hx hb dX5_merge_120 hl (by decide) rfl (fun ls hl => ?_)
        refine lv_lload hx hb dX5_merge_122 (lv_at hl 0 rfl) ?_
        refine lv_lload_n hx hb dX5_merge_124 rfl (lv_at hl 2 rfl) ?_
        refine lv_land hx hb dX5_merge_125 ?_
        refine lv_lconst (v := 0) hx hb dX5_merge_126 (by decide) ?_
        refine W.lcmp hx hb dX5_merge_127 ?_
        refine lv_if_eq (tgt := 153) hx hb dX5_merge_128 (by decide) (fun c_128 => ?_) (fun c_128 => ?_)
        · have c_128 : ((rdL (gB p_17 0) 40 (nI i_17)) &&& l1) = 0 := lcmp_0 c_128
          refine lv_aload_n hx hb dX5_merge_153 rfl (lv_at hl 1 rfl) ?_
          refine va_get (D := D) (ci := 5) (v := .ref (ad 25)) (C := RX5) (T := TX5) (N := 8) hx hb hg inGX5 hown hK hP 5 rfl rfl 1 (by decide) (hg _ mw_179) (fun _ h9 => h9) rfl dX5_merge_154 ?_
          refine lv_iload hx hb dX5_merge_157 (lv_at hl 5 rfl) ?_
          refine kI (rSN hx hb hml hown hg hN hK hP hD (c_at l D cI cJ (XW ad cI cJ co fl ra li p_17 wa pi) 25 (ad 25) 40 (gA p_17 0) (nI i_17) rfl (by decide)) mw_84 nw_89 mw_85 mw_77 pd_X7_at ⟨Nat.le_of_ble_eq_true rfl, Nat.le_of_ble_eq_true rfl⟩ rfl hl.1 rfl (Nat.le_of_ble_eq_true rfl) dX5_merge_159 ⟨Nat.le_of_ble_eq_true rfl, Nat.le_of_ble_eq_true rfl⟩) hD hS hA (fun r_19 u_19 H locs hp hP hD hS => ?_)
          obtain ⟨er, eu⟩ := hp
          obtain rfl := er.symm
          obtain rfl := eu.symm
          refine lv_istore (lv' := [(10, .int (rd (gA p_17 0) 40 (nI i_17))), (8, .long (rdL (gB p_17 0) 40 (nI i_17))), (0, .ref (ad 5)), (1, .long l1), (3, .int k1), (4, .int (b2i b1)), (7, .int (nI i_17))]) hx hb dX5_merge_162 hl (by decide) rfl (fun ls hl => ?_)
          refine lv_iload hx hb dX5_merge_164 (lv_at hl 0 rfl) ?_
          refine lv_if_lt (tgt := 188) hx hb dX5_merge_166 (by decide) (fun c_166 => ?_) (fun c_166 => ?_)
          · refine lv_iinc (v := (nI (i_17 + 1))) (lv' := [(7, .int (nI (i_17 + 1))), (10, .int (rd (gA p_17 0) 40 (nI i_17))), (8, .long (rdL (gB p_17 0) 40 (nI i_17))), (0, .ref (ad 5)), (1, .long l1), (3, .int k1), (4, .int (b2i b1))]) hx hb dX5_merge_188 hl (k := 6) rfl (nI_1 i_17) (by decide) rfl (fun ls hl => ?_)
            refine lv_goto (tgt := 104) hx hb dX5_merge_191 (by decide) ?_
            exact ih_17 p_17 H locs ls ⟨((show p_17 = (mgB l1 k1) i_17 p_17 from (by first | (simp only [mgB, mgC, mgD, if_pos c_67, c_67, if_pos c_128, decide_eq_true c_128, decide_eq_false (not_not_intro c_128), if_pos c_166, decide_eq_true c_166, decide_eq_false (not_not_intro c_166), gi_sl, gi_sA, gi_sB, gi_si_s, gi_si_n, gl_si, gl_sA, gl_sB, gl_sl_s, gl_sl_n, gA_si, gA_sl, gA_sB, gA_sA_s, gA_sA_n, gB_si, gB_sl, gB_sA, gB_sB_s, gB_sB_n, Nat.reduceBEq, if_true, if_false, eq_self, Bool.false_eq_true, reduceCtorEq, not_true_eq_false, not_false_eq_true, decide_true, decide_false, cond_true, cond_false, Bool.true_and, Bool.false_and, Bool.and_true, Bool.and_false, Bool.true_or, Bool.false_or, Bool.or_true, Bool.or_false, b2i_tt, b2i_ff]; done) | (simp only [mgB, mgC, mgD, if_pos c_67, c_67, if_pos c_128, decide_eq_true c_128, decide_eq_false (not_not_intro c_128), if_pos c_166, decide_eq_true c_166, decide_eq_false (not_not_intro c_166), gi_sl, gi_sA, gi_sB, gi_si_s, gi_si_n, gl_si, gl_sA, gl_sB, gl_sl_s, gl_sl_n, gA_si, gA_sl, gA_sB, gA_sA_s, gA_sA_n, gB_si, gB_sl, gB_sA, gB_sB_s, gB_sB_n, Nat.reduceBEq, if_true, if_false, eq_self, Bool.false_eq_true, reduceCtorEq, not_true_eq_false, not_false_eq_true, decide_true, decide_false, cond_true, cond_false, Bool.true_and, Bool.false_and, Bool.and_true, Bool.and_false, Bool.true_or, Bool.false_or, Bool.or_true, Bool.or_false, b2i_tt, b2i_ff]; rfl) | (simp [mgB, mgC, mgD, c_67, c_128, c_166, gi_sl, gi_sA, gi_sB, gi_si_s, gi_si_n, gl_si, gl_sA, gl_sB, gl_sl_s, gl_sl_n, gA_si, gA_sl, gA_sB, gA_sA_s, gA_sA_n, gB_si, gB_sl, gB_sA, gB_sB_s, gB_sB_n, Nat.reduceBEq]; done))).trans (lp_go h_17)), hP, hD, hS, lv_sub hl [3, 4, 5, 6, 0] rfl⟩
          · refine lv_lload_n hx hb dX5_merge_169 rfl (lv_at hl 3 rfl) ?_
            refine lv_iload hx hb dX5_merge_170 (lv_at hl 0 rfl) ?_
            refine kI (rSN hx hb hml hown hg hN hK hP hD (c_has l D cI cJ (XW ad cI cJ co fl ra li p_17 wa pi) l1 (rd (gA p_17 0) 40 (nI i_17))) mw_89 nw_83 mw_90 mw_77 pd_X7_has ⟨Nat.le_of_ble_eq_true rfl, Nat.le_of_ble_eq_true rfl⟩ rfl hl.1 rfl (Nat.le_of_ble_eq_true rfl) dX5_merge_172 ⟨Nat.le_of_ble_eq_true rfl, Nat.le_of_ble_eq_true rfl⟩) hD hS hA (fun r_20 u_20 H locs hp hP hD hS => ?_)
            obtain ⟨er, eu⟩ := hp
            obtain rfl := er.symm
            obtain rfl := eu.symm
            refine lv_if_eq (tgt := 188) hx hb dX5_merge_175 (by decide) (fun c_175 => ?_) (fun c_175 => ?_)
            · have c_175 : ¬ (hs l1 (rd (gA p_17 0) 40 (nI i_17))) = true := b2i_0 c_175
              refine lv_iinc (v := (nI (i_17 + 1))) (lv' := [(7, .int (nI (i_17 + 1))), (10, .int (rd (gA p_17 0) 40 (nI i_17))), (8, .long (rdL (gB p_17 0) 40 (nI i_17))), (0, .ref (ad 5)), (1, .long l1), (3, .int k1), (4, .int (b2i b1))]) hx hb dX5_merge_188 hl (k := 6) rfl (nI_1 i_17) (by decide) rfl (fun ls hl => ?_)
              refine lv_goto (tgt := 104) hx hb dX5_merge_191 (by decide) ?_
              exact ih_17 p_17 H locs ls ⟨((show p_17 = (mgB l1 k1) i_17 p_17 from (by first | (simp only [mgB, mgC, mgD, if_pos c_67, c_67, if_pos c_128, decide_eq_true c_128, decide_eq_false (not_not_intro c_128), if_neg c_166, decide_eq_false c_166, decide_eq_true c_166, if_pos c_166, if_neg c_175, bf_of c_175, gi_sl, gi_sA, gi_sB, gi_si_s, gi_si_n, gl_si, gl_sA, gl_sB, gl_sl_s, gl_sl_n, gA_si, gA_sl, gA_sB, gA_sA_s, gA_sA_n, gB_si, gB_sl, gB_sA, gB_sB_s, gB_sB_n, Nat.reduceBEq, if_true, if_false, eq_self, Bool.false_eq_true, reduceCtorEq, not_true_eq_false, not_false_eq_true, decide_true, decide_false, cond_true, cond_false, Bool.true_and, Bool.false_and, Bool.and_true, Bool.and_false, Bool.true_or, Bool.false_or, Bool.or_true, Bool.or_false, b2i_tt, b2i_ff]; done) | (simp only [mgB, mgC, mgD, if_pos c_67, c_67, if_pos c_128, decide_eq_true c_128, decide_eq_false (not_not_intro c_128), if_neg c_166, decide_eq_false c_166, decide_eq_true c_166, if_pos c_166, if_neg c_175, bf_of c_175, gi_sl, gi_sA, gi_sB, gi_si_s, gi_si_n, gl_si, gl_sA, gl_sB, gl_sl_s, gl_sl_n, gA_si, gA_sl, gA_sB, gA_sA_s, gA_sA_n, gB_si, gB_sl, gB_sA, gB_sB_s, gB_sB_n, Nat.reduceBEq, if_true, if_false, eq_self, Bool.false_eq_true, reduceCtorEq, not_true_eq_false, not_false_eq_true, decide_true, decide_false, cond_true, cond_false, Bool.true_and, Bool.false_and, Bool.and_true, Bool.and_false, Bool.true_or, Bool.false_or, Bool.or_true, Bool.or_false, b2i_tt, b2i_ff]; rfl) | (simp [mgB, mgC, mgD, c_67, c_128, c_166, c_175, gi_sl, gi_sA, gi_sB, gi_si_s, gi_si_n, gl_si, gl_sA, gl_sB, gl_sl_s, gl_sl_n, gA_si, gA_sl, gA_sB, gA_sA_s, gA_sA_n, gB_si, gB_sl, gB_sA, gB_sB_s, gB_sB_n, Nat.reduceBEq]; done))).trans (lp_go h_17)), hP, hD, hS, lv_sub hl [3, 4, 5, 6, 0] rfl⟩
            · have c_175 : (hs l1 (rd (gA p_17 0) 40 (nI i_17))) = true := b2i_1 c_175
              refine lv_aload_n hx hb dX5_merge_178 rfl (lv_at hl 2 rfl) ?_
              refine va_get (D := D) (ci := 5) (v := .ref (ad 25)) (C := RX5) (T := TX5) (N := 8) hx hb hg inGX5 hown hK hP 5 rfl rfl 1 (by decide) (hg _ mw_179) (fun _ h9 => h9) rfl dX5_merge_179 ?_
              refine lv_iload hx hb dX5_merge_182 (lv_at hl 6 rfl) ?_
              refine lv_iload_n hx hb dX5_merge_184 rfl (lv_at hl 4 rfl) ?_
              refine kV (rSN hx hb hml hown hg hN hK hP hD (c_put l D cI cJ (XW ad cI cJ co fl ra li p_17 wa pi) 25 (ad 25) 40 (gA p_17 0) (nI i_17) k1 rfl (by decide)) mw_92 nw_86 mw_93 mw_77 pd_X7_put ⟨Nat.le_of_ble_eq_true rfl, Nat.le_of_ble_eq_true rfl⟩ rfl hl.1 rfl (Nat.le_of_ble_eq_true rfl) dX5_merge_185 ⟨Nat.le_of_ble_eq_true rfl, Nat.le_of_ble_eq_true rfl⟩) hD hS hA (fun u_21 H locs hp hP hD hS => ?_)
              obtain rfl := hp.symm
              have hP : va_P D vwCl (XW ad cI cJ co fl ra li (sA p_17 0 (wr (gA p_17 0) 40 (nI i_17) k1)) wa pi) H := hP
              have hD : va_D A (XW ad cI cJ co fl ra li (sA p_17 0 (wr (gA p_17 0) 40 (nI i_17) k1)) wa pi) := hD
              refine lv_iinc (v := (nI (i_17 + 1))) (lv' := [(7, .int (nI (i_17 + 1))), (10, .int (rd (gA p_17 0) 40 (nI i_17))), (8, .long (rdL (gB p_17 0) 40 (nI i_17))), (0, .ref (ad 5)), (1, .long l1), (3, .int k1), (4, .int (b2i b1))]) hx hb dX5_merge_188 hl (k := 6) rfl (nI_1 i_17) (by decide) rfl (fun ls hl => ?_)
              refine lv_goto (tgt := 104) hx hb dX5_merge_191 (by decide) ?_
              exact ih_17 (sA p_17 0 (wr (gA p_17 0) 40 (nI i_17) k1)) H locs ls ⟨((show (sA p_17 0 (wr (gA p_17 0) 40 (nI i_17) k1)) = (mgB l1 k1) i_17 p_17 from (by first | (simp only [mgB, mgC, mgD, if_pos c_67, c_67, if_pos c_128, decide_eq_true c_128, decide_eq_false (not_not_intro c_128), if_neg c_166, decide_eq_false c_166, decide_eq_true c_166, if_pos c_166, if_pos c_175, c_175, gi_sl, gi_sA, gi_sB, gi_si_s, gi_si_n, gl_si, gl_sA, gl_sB, gl_sl_s, gl_sl_n, gA_si, gA_sl, gA_sB, gA_sA_s, gA_sA_n, gB_si, gB_sl, gB_sA, gB_sB_s, gB_sB_n, Nat.reduceBEq, if_true, if_false, eq_self, Bool.false_eq_true, reduceCtorEq, not_true_eq_false, not_false_eq_true, decide_true, decide_false, cond_true, cond_false, Bool.true_and, Bool.false_and, Bool.and_true, Bool.and_false, Bool.true_or, Bool.false_or, Bool.or_true, Bool.or_false, b2i_tt, b2i_ff]; done) | (simp only [mgB, mgC, mgD, if_pos c_67, c_67, if_pos c_128, decide_eq_true c_128, decide_eq_false (not_not_intro c_128), if_neg c_166, decide_eq_false c_166, decide_eq_true c_166, if_pos c_166, if_pos c_175, c_175, gi_sl, gi_sA, gi_sB, gi_si_s, gi_si_n, gl_si, gl_sA, gl_sB, gl_sl_s, gl_sl_n, gA_si, gA_sl, gA_sB, gA_sA_s, gA_sA_n, gB_si, gB_sl, gB_sA, gB_sB_s, gB_sB_n, Nat.reduceBEq, if_true, if_false, eq_self, Bool.false_eq_true, reduceCtorEq, not_true_eq_false, not_false_eq_true, decide_true, decide_false, cond_true, cond_false, Bool.true_and, Bool.false_and, Bool.and_true, Bool.and_false, Bool.true_or, Bool.false_or, Bool.or_true, Bool.or_false, b2i_tt, b2i_ff]; rfl) | (simp [mgB, mgC, mgD, c_67, c_128, c_166, c_175, gi_sl, gi_sA, gi_sB, gi_si_s, gi_si_n, gl_si, gl_sA, gl_sB, gl_sl_s, gl_sl_n, gA_si, gA_sl, gA_sB, gA_sA_s, gA_sA_n, gB_si, gB_sl, gB_sA, gB_sB_s, gB_sB_n, Nat.reduceBEq]; done))).trans (lp_go h_17)), hP, hD, hS, lv_sub hl [3, 4, 5, 6, 0] rfl⟩
        · have c_128 : ¬ ((rdL (gB p_17 0) 40 (nI i_17)) &&& l1) = 0 := lcmp_1 c_128
          refine lv_aload_n hx hb dX5_merge_131 rfl (lv_at hl 1 rfl) ?_
          refine va_get (D := D) (ci := 5) (v := .ref (ad 24)) (C := RX5) (T := TX5) (N := 8) hx hb hg inGX5 hown hK hP 5 rfl rfl 0 (by decide) (hg _ mw_166) (fun _ h9 => h9) rfl dX5_merge_132 ?_
          refine lv_iload hx hb dX5_merge_135 (lv_at hl 5 rfl) ?_
          refine lv_lload hx hb dX5_merge_137 (lv_at hl 0 rfl) ?_
          refine lv_lload_n hx hb dX5_merge_139 rfl (lv_at hl 2 rfl) ?_
          refine lv_ldc2 (v := (-1)) hx hb hown (hg _ mw_168) dX5_merge_140 ?_
          refine lv_lxor hx hb dX5_merge_143 ?_
          refine lv_land hx hb dX5_merge_144 ?_
          refine lv_iload_n hx hb dX5_merge_145 rfl (lv_at hl 3 rfl) ?_
          refine kL (rSN hx hb hml hown hg hN hK hP hD (c_bit l D cI cJ (XW ad cI cJ co fl ra li p_17 wa pi) k1) mw_78 nw_87 mw_80 mw_77 pd_X7_bit ⟨Nat.le_of_ble_eq_true rfl, Nat.le_of_ble_eq_true rfl⟩ rfl hl.1 rfl (Nat.le_of_ble_eq_true rfl) dX5_merge_146 ⟨Nat.le_of_ble_eq_true rfl, Nat.le_of_ble_eq_true rfl⟩) hD hS hA (fun r_22 u_22 H locs hp hP hD hS => ?_)
          obtain ⟨er, eu⟩ := hp
          obtain rfl := er.symm
          obtain rfl := eu.symm
          refine lv_lor hx hb dX5_merge_149 ?_
          refine kV (rSN hx hb hml hown hg hN hK hP hD (c_putL l D cI cJ (XW ad cI cJ co fl ra li p_17 wa pi) 24 (ad 24) 40 (gB p_17 0) (nI i_17) (((rdL (gB p_17 0) 40 (nI i_17)) &&& (l1 ^^^ (-1))) ||| (bitL k1)) rfl (by decide)) mw_97 nw_85 mw_98 mw_77 pd_X7_put_ ⟨Nat.le_of_ble_eq_true rfl, Nat.le_of_ble_eq_true rfl⟩ rfl hl.1 rfl (Nat.le_of_ble_eq_true rfl) dX5_merge_150 ⟨Nat.le_of_ble_eq_true rfl, Nat.le_of_ble_eq_true rfl⟩) hD hS hA (fun u_23 H locs hp hP hD hS => ?_)
          obtain rfl := hp.symm
          have hP : va_P D vwCl (XW ad cI cJ co fl ra li (sB p_17 0 (wrL (gB p_17 0) 40 (nI i_17) (((rdL (gB p_17 0) 40 (nI i_17)) &&& (l1 ^^^ (-1))) ||| (bitL k1)))) wa pi) H := hP
          have hD : va_D A (XW ad cI cJ co fl ra li (sB p_17 0 (wrL (gB p_17 0) 40 (nI i_17) (((rdL (gB p_17 0) 40 (nI i_17)) &&& (l1 ^^^ (-1))) ||| (bitL k1)))) wa pi) := hD
          refine lv_aload_n hx hb dX5_merge_153 rfl (lv_at hl 1 rfl) ?_
          refine va_get (D := D) (ci := 5) (v := .ref (ad 25)) (C := RX5) (T := TX5) (N := 8) hx hb hg inGX5 hown hK hP 5 rfl rfl 1 (by decide) (hg _ mw_179) (fun _ h9 => h9) rfl dX5_merge_154 ?_
          refine lv_iload hx hb dX5_merge_157 (lv_at hl 5 rfl) ?_
          refine kI (rSN hx hb hml hown hg hN hK hP hD (c_at l D cI cJ (XW ad cI cJ co fl ra li (sB p_17 0 (wrL (gB p_17 0) 40 (nI i_17) (((rdL (gB p_17 0) 40 (nI i_17)) &&& (l1 ^^^ (-1))) ||| (bitL k1)))) wa pi) 25 (ad 25) 40 (gA p_17 0) (nI i_17) rfl (by decide)) mw_84 nw_89 mw_85 mw_77 pd_X7_at ⟨Nat.le_of_ble_eq_true rfl, Nat.le_of_ble_eq_true rfl⟩ rfl hl.1 rfl (Nat.le_of_ble_eq_true rfl) dX5_merge_159 ⟨Nat.le_of_ble_eq_true rfl, Nat.le_of_ble_eq_true rfl⟩) hD hS hA (fun r_24 u_24 H locs hp hP hD hS => ?_)
          obtain ⟨er, eu⟩ := hp
          obtain rfl := er.symm
          obtain rfl := eu.symm
          refine lv_istore (lv' := [(10, .int (rd (gA p_17 0) 40 (nI i_17))), (8, .long (rdL (gB p_17 0) 40 (nI i_17))), (0, .ref (ad 5)), (1, .long l1), (3, .int k1), (4, .int (b2i b1)), (7, .int (nI i_17))]) hx hb dX5_merge_162 hl (by decide) rfl (fun ls hl => ?_)
          refine lv_iload hx hb dX5_merge_164 (lv_at hl 0 rfl) ?_
          refine lv_if_lt (tgt := 188) hx hb dX5_merge_166 (by decide) (fun c_166 => ?_) (fun c_166 => ?_)
          · refine lv_iinc (v := (nI (i_17 + 1))) (lv' := [(7, .int (nI (i_17 + 1))), (10, .int (rd (gA p_17 0) 40 (nI i_17))), (8, .long (rdL (gB p_17 0) 40 (nI i_17))), (0, .ref (ad 5)), (1, .long l1), (3, .int k1), (4, .int (b2i b1))]) hx hb dX5_merge_188 hl (k := 6) rfl (nI_1 i_17) (by decide) rfl (fun ls hl => ?_)
            refine lv_goto (tgt := 104) hx hb dX5_merge_191 (by decide) ?_
            exact ih_17 (sB p_17 0 (wrL (gB p_17 0) 40 (nI i_17) (((rdL (gB p_17 0) 40 (nI i_17)) &&& (l1 ^^^ (-1))) ||| (bitL k1)))) H locs ls ⟨((show (sB p_17 0 (wrL (gB p_17 0) 40 (nI i_17) (((rdL (gB p_17 0) 40 (nI i_17)) &&& (l1 ^^^ (-1))) ||| (bitL k1)))) = (mgB l1 k1) i_17 p_17 from (by first | (simp only [mgB, mgC, mgD, if_pos c_67, c_67, if_neg c_128, decide_eq_false c_128, decide_eq_true c_128, if_pos c_128, if_pos c_166, decide_eq_true c_166, decide_eq_false (not_not_intro c_166), gi_sl, gi_sA, gi_sB, gi_si_s, gi_si_n, gl_si, gl_sA, gl_sB, gl_sl_s, gl_sl_n, gA_si, gA_sl, gA_sB, gA_sA_s, gA_sA_n, gB_si, gB_sl, gB_sA, gB_sB_s, gB_sB_n, Nat.reduceBEq, if_true, if_false, eq_self, Bool.false_eq_true, reduceCtorEq, not_true_eq_false, not_false_eq_true, decide_true, decide_false, cond_true, cond_false, Bool.true_and, Bool.false_and, Bool.and_true, Bool.and_false, Bool.true_or, Bool.false_or, Bool.or_true, Bool.or_false, b2i_tt, b2i_ff]; done) | (simp only [mgB, mgC, mgD, if_pos c_67, c_67, if_neg c_128, decide_eq_false c_128, decide_eq_true c_128, if_pos c_128, if_pos c_166, decide_eq_true c_166, decide_eq_false (not_not_intro c_166), gi_sl, gi_sA, gi_sB, gi_si_s, gi_si_n, gl_si, gl_sA, gl_sB, gl_sl_s, gl_sl_n, gA_si, gA_sl, gA_sB, gA_sA_s, gA_sA_n, gB_si, gB_sl, gB_sA, gB_sB_s, gB_sB_n, Nat.reduceBEq, if_true, if_false, eq_self, Bool.false_eq_true, reduceCtorEq, not_true_eq_false, not_false_eq_true, decide_true, decide_false, cond_true, cond_false, Bool.true_and, Bool.false_and, Bool.and_true, Bool.and_false, Bool.true_or, Bool.false_or, Bool.or_true, Bool.or_false, b2i_tt, b2i_ff]; rfl) | (simp [mgB, mgC, mgD, c_67, c_128, c_166, gi_sl, gi_sA, gi_sB, gi_si_s, gi_si_n, gl_si, gl_sA, gl_sB, gl_sl_s, gl_sl_n, gA_si, gA_sl, gA_sB, gA_sA_s, gA_sA_n, gB_si, gB_sl, gB_sA, gB_sB_s, gB_sB_n, Nat.reduceBEq]; done))).trans (lp_go h_17)), hP, hD, hS, lv_sub hl [3, 4, 5, 6, 0] rfl⟩
          · refine lv_lload_n hx hb dX5_merge_169 rfl (lv_at hl 3 rfl) ?_
            refine lv_iload hx hb dX5_merge_170 (lv_at hl 0 rfl) ?_
            refine kI (rSN hx hb hml hown hg hN hK hP hD (c_has l D cI cJ (XW ad cI cJ co fl ra li (sB p_17 0 (wrL (gB p_17 0) 40 (nI i_17) (((rdL (gB p_17 0) 40 (nI i_17)) &&& (l1 ^^^ (-1))) ||| (bitL k1)))) wa pi) l1 (rd (gA p_17 0) 40 (nI i_17))) mw_89 nw_83 mw_90 mw_77 pd_X7_has ⟨Nat.le_of_ble_eq_true rfl, Nat.le_of_ble_eq_true rfl⟩ rfl hl.1 rfl (Nat.le_of_ble_eq_true rfl) dX5_merge_172 ⟨Nat.le_of_ble_eq_true rfl, Nat.le_of_ble_eq_true rfl⟩) hD hS hA (fun r_25 u_25 H locs hp hP hD hS => ?_)
            obtain ⟨er, eu⟩ := hp
            obtain rfl := er.symm
            obtain rfl := eu.symm
            refine lv_if_eq (tgt := 188) hx hb dX5_merge_175 (by decide) (fun c_175 => ?_) (fun c_175 => ?_)
            · have c_175 : ¬ (hs l1 (rd (gA p_17 0) 40 (nI i_17))) = true := b2i_0 c_175
              refine lv_iinc (v := (nI (i_17 + 1))) (lv' := [(7, .int (nI (i_17 + 1))), (10, .int (rd (gA p_17 0) 40 (nI i_17))), (8, .long (rdL (gB p_17 0) 40 (nI i_17))), (0, .ref (ad 5)), (1, .long l1), (3, .int k1), (4, .int (b2i b1))]) hx hb dX5_merge_188 hl (k := 6) rfl (nI_1 i_17) (by decide) rfl (fun ls hl => ?_)
              refine lv_goto (tgt := 104) hx hb dX5_merge_191 (by decide) ?_
              exact ih_17 (sB p_17 0 (wrL (gB p_17 0) 40 (nI i_17) (((rdL (gB p_17 0) 40 (nI i_17)) &&& (l1 ^^^ (-1))) ||| (bitL k1)))) H locs ls ⟨((show (sB p_17 0 (wrL (gB p_17 0) 40 (nI i_17) (((rdL (gB p_17 0) 40 (nI i_17)) &&& (l1 ^^^ (-1))) ||| (bitL k1)))) = (mgB l1 k1) i_17 p_17 from (by first | (simp only [mgB, mgC, mgD, if_pos c_67, c_67, if_neg c_128, decide_eq_false c_128, decide_eq_true c_128, if_pos c_128, if_neg c_166, decide_eq_false c_166, decide_eq_true c_166, if_pos c_166, if_neg c_175, bf_of c_175, gi_sl, gi_sA, gi_sB, gi_si_s, gi_si_n, gl_si, gl_sA, gl_sB, gl_sl_s, gl_sl_n, gA_si, gA_sl, gA_sB, gA_sA_s, gA_sA_n, gB_si, gB_sl, gB_sA, gB_sB_s, gB_sB_n, Nat.reduceBEq, if_true, if_false, eq_self, Bool.false_eq_true, reduceCtorEq, not_true_eq_false, not_false_eq_true, decide_true, decide_false, cond_true, cond_false, Bool.true_and, Bool.false_and, Bool.and_true, Bool.and_false, Bool.true_or, Bool.false_or, Bool.or_true, Bool.or_false, b2i_tt, b2i_ff]; done) | (simp only [mgB, mgC, mgD, if_pos c_67, c_67, if_neg c_128, decide_eq_false c_128, decide_eq_true c_128, if_pos c_128, if_neg c_166, decide_eq_false c_166, decide_eq_true c_166, if_pos c_166, if_neg c_175, bf_of c_175, gi_sl, gi_sA, gi_sB, gi_si_s, gi_si_n, gl_si, gl_sA, gl_sB, gl_sl_s, gl_sl_n, gA_si, gA_sl, gA_sB, gA_sA_s, gA_sA_n, gB_si, gB_sl, gB_sA, gB_sB_s, gB_sB_n, Nat.reduceBEq, if_true, if_false, eq_self, Bool.false_eq_true, reduceCtorEq, not_true_eq_false, not_false_eq_true, decide_true, decide_false, cond_true, cond_false, Bool.true_and, Bool.false_and, Bool.and_true, Bool.and_false, Bool.true_or, Bool.false_or, Bool.or_true, Bool.or_false, b2i_tt, b2i_ff]; rfl) | (simp [mgB, mgC, mgD, c_67, c_128, c_166, c_175, gi_sl, gi_sA, gi_sB, gi_si_s, gi_si_n, gl_si, gl_sA, gl_sB, gl_sl_s, gl_sl_n, gA_si, gA_sl, gA_sB, gA_sA_s, gA_sA_n, gB_si, gB_sl, gB_sA, gB_sB_s, gB_sB_n, Nat.reduceBEq]; done))).trans (lp_go h_17)), hP, hD, hS, lv_sub hl [3, 4, 5, 6, 0] rfl⟩
            · have c_175 : (hs l1 (rd (gA p_17 0) 40 (nI i_17))) = true := b2i_1 c_175
              refine lv_aload_n hx hb dX5_merge_178 rfl (lv_at hl 2 rfl) ?_
              refine va_get (D := D) (ci := 5) (v := .ref (ad 25)) (C := RX5) (T := TX5) (N := 8) hx hb hg inGX5 hown hK hP 5 rfl rfl 1 (by decide) (hg _ mw_179) (fun _ h9 => h9) rfl dX5_merge_179 ?_
              refine lv_iload hx hb dX5_merge_182 (lv_at hl 6 rfl) ?_
              refine lv_iload_n hx hb dX5_merge_184 rfl (lv_at hl 4 rfl) ?_
              refine kV (rSN hx hb hml hown hg hN hK hP hD (c_put l D cI cJ (XW ad cI cJ co fl ra li (sB p_17 0 (wrL (gB p_17 0) 40 (nI i_17) (((rdL (gB p_17 0) 40 (nI i_17)) &&& (l1 ^^^ (-1))) ||| (bitL k1)))) wa pi) 25 (ad 25) 40 (gA p_17 0) (nI i_17) k1 rfl (by decide)) mw_92 nw_86 mw_93 mw_77 pd_X7_put ⟨Nat.le_of_ble_eq_true rfl, Nat.le_of_ble_eq_true rfl⟩ rfl hl.1 rfl (Nat.le_of_ble_eq_true rfl) dX5_merge_185 ⟨Nat.le_of_ble_eq_true rfl, Nat.le_of_ble_eq_true rfl⟩) hD hS hA (fun u_26 H locs hp hP hD hS => ?_)
              obtain rfl := hp.symm
              have hP : va_P D vwCl (XW ad cI cJ co fl ra li (sA (sB p_17 0 (wrL (gB p_17 0) 40 (nI i_17) (((rdL (gB p_17 0) 40 (nI i_17)) &&& (l1 ^^^ (-1))) ||| (bitL k1)))) 0 (wr (gA p_17 0) 40 (nI i_17) k1)) wa pi) H := hP
              have hD : va_D A (XW ad cI cJ co fl ra li (sA (sB p_17 0 (wrL (gB p_17 0) 40 (nI i_17) (((rdL (gB p_17 0) 40 (nI i_17)) &&& (l1 ^^^ (-1))) ||| (bitL k1)))) 0 (wr (gA p_17 0) 40 (nI i_17) k1)) wa pi) := hD
              refine lv_iinc (v := (nI (i_17 + 1))) (lv' := [(7, .int (nI (i_17 + 1))), (10, .int (rd (gA p_17 0) 40 (nI i_17))), (8, .long (rdL (gB p_17 0) 40 (nI i_17))), (0, .ref (ad 5)), (1, .long l1), (3, .int k1), (4, .int (b2i b1))]) hx hb dX5_merge_188 hl (k := 6) rfl (nI_1 i_17) (by decide) rfl (fun ls hl => ?_)
              refine lv_goto (tgt := 104) hx hb dX5_merge_191 (by decide) ?_
              exact ih_17 (sA (sB p_17 0 (wrL (gB p_17 0) 40 (nI i_17) (((rdL (gB p_17 0) 40 (nI i_17)) &&& (l1 ^^^ (-1))) ||| (bitL k1)))) 0 (wr (gA p_17 0) 40 (nI i_17) k1)) H locs ls ⟨((show (sA (sB p_17 0 (wrL (gB p_17 0) 40 (nI i_17) (((rdL (gB p_17 0) 40 (nI i_17)) &&& (l1 ^^^ (-1))) ||| (bitL k1)))) 0 (wr (gA p_17 0) 40 (nI i_17) k1)) = (mgB l1 k1) i_17 p_17 from (by first | (simp only [mgB, mgC, mgD, if_pos c_67, c_67, if_neg c_128, decide_eq_false c_128, decide_eq_true c_128, if_pos c_128, if_neg c_166, decide_eq_false c_166, decide_eq_true c_166, if_pos c_166, if_pos c_175, c_175, gi_sl, gi_sA, gi_sB, gi_si_s, gi_si_n, gl_si, gl_sA, gl_sB, gl_sl_s, gl_sl_n, gA_si, gA_sl, gA_sB, gA_sA_s, gA_sA_n, gB_si, gB_sl, gB_sA, gB_sB_s, gB_sB_n, Nat.reduceBEq, if_true, if_false, eq_self, Bool.false_eq_true, reduceCtorEq, not_true_eq_false, not_false_eq_true, decide_true, decide_false, cond_true, cond_false, Bool.true_and, Bool.false_and, Bool.and_true, Bool.and_false, Bool.true_or, Bool.false_or, Bool.or_true, Bool.or_false, b2i_tt, b2i_ff]; done) | (simp only [mgB, mgC, mgD, if_pos c_67, c_67, if_neg c_128, decide_eq_false c_128, decide_eq_true c_128, if_pos c_128, if_neg c_166, decide_eq_false c_166, decide_eq_true c_166, if_pos c_166, if_pos c_175, c_175, gi_sl, gi_sA, gi_sB, gi_si_s, gi_si_n, gl_si, gl_sA, gl_sB, gl_sl_s, gl_sl_n, gA_si, gA_sl, gA_sB, gA_sA_s, gA_sA_n, gB_si, gB_sl, gB_sA, gB_sB_s, gB_sB_n, Nat.reduceBEq, if_true, if_false, eq_self, Bool.false_eq_true, reduceCtorEq, not_true_eq_false, not_false_eq_true, decide_true, decide_false, cond_true, cond_false, Bool.true_and, Bool.false_and, Bool.and_true, Bool.and_false, Bool.true_or, Bool.false_or, Bool.or_true, Bool.or_false, b2i_tt, b2i_ff]; rfl) | (simp [mgB, mgC, mgD, c_67, c_128, c_166, c_175, gi_sl, gi_sA, gi_sB, gi_si_s, gi_si_n, gl_si, gl_sA, gl_sB, gl_sl_s, gl_sl_n, gA_si, gA_sl, gA_sB, gA_sA_s, gA_sA_n, gB_si, gB_sl, gB_sA, gB_sB_s, gB_sB_n, Nat.reduceBEq]; done))).trans (lp_go h_17)), hP, hD, hS, lv_sub hl [3, 4, 5, 6, 0] rfl⟩
  · obtain ⟨h_1, hP, hD, hS, hl⟩ := hI
    have hP : va_P D vwCl (XW ad cI cJ co fl ra li p_1.1 wa pi) H := hP
    have hD : va_D A (XW ad cI cJ co fl ra li p_1.1 wa pi) := hD
    have hl : lv_has ls 11 [(0, .ref (ad 5)), (1, .long l1), (3, .int k1), (4, .int (b2i b1)), (5, .long p_1.2), (7, .int (nI i_1))] := hl
    refine lv_iload hx hb dX5_merge_6 (lv_at hl 5 rfl) ?_
    refine lv_bipush (v := 40) hx hb dX5_merge_8 (by decide) ?_
    refine lv_icmp_ge (tgt := 52) hx hb dX5_merge_10 (by decide) (fun c_10 => absurd c_10 (nI_ge hi_1 (by decide))) (fun _ => ?_)
    refine lv_lload_n hx hb dX5_merge_13 rfl (lv_at hl 1 rfl) ?_
    refine lv_iload hx hb dX5_merge_14 (lv_at hl 5 rfl) ?_
    refine kI (rSN hx hb hml hown hg hN hK hP hD (c_has l D cI cJ (XW ad cI cJ co fl ra li p_1.1 wa pi) l1 (nI i_1)) mw_89 nw_83 mw_90 mw_77 pd_X7_has ⟨Nat.le_of_ble_eq_true rfl, Nat.le_of_ble_eq_true rfl⟩ rfl hl.1 rfl (Nat.le_of_ble_eq_true rfl) dX5_merge_16 ⟨Nat.le_of_ble_eq_true rfl, Nat.le_of_ble_eq_true rfl⟩) hD hS hA (fun r_27 u_27 H locs hp hP hD hS => ?_)
    obtain ⟨er, eu⟩ := hp
    obtain rfl := er.symm
    obtain rfl := eu.symm
    refine lv_if_eq (tgt := 46) hx hb dX5_merge_19 (by decide) (fun c_19 => ?_) (fun c_19 => ?_)
    · have c_19 : ¬ (hs l1 (nI i_1)) = true := b2i_0 c_19
      refine lv_iinc (v := (nI (i_1 + 1))) (lv' := [(7, .int (nI (i_1 + 1))), (0, .ref (ad 5)), (1, .long l1), (3, .int k1), (4, .int (b2i b1)), (5, .long p_1.2)]) hx hb dX5_merge_46 hl (k := 5) rfl (nI_1 i_1) (by decide) rfl (fun ls hl => ?_)
      refine lv_goto (tgt := 6) hx hb dX5_merge_49 (by decide) ?_
      exact ih_1 (p_1.1, p_1.2) H locs ls ⟨((show (p_1.1, p_1.2) = (mgA l1) i_1 p_1 from (by first | (simp only [mgA, if_neg c_19, bf_of c_19, gi_sl, gi_sA, gi_sB, gi_si_s, gi_si_n, gl_si, gl_sA, gl_sB, gl_sl_s, gl_sl_n, gA_si, gA_sl, gA_sB, gA_sA_s, gA_sA_n, gB_si, gB_sl, gB_sA, gB_sB_s, gB_sB_n, Nat.reduceBEq, if_true, if_false, eq_self, Bool.false_eq_true, reduceCtorEq, not_true_eq_false, not_false_eq_true, decide_true, decide_false, cond_true, cond_false, Bool.true_and, Bool.false_and, Bool.and_true, Bool.and_false, Bool.true_or, Bool.false_or, Bool.or_true, Bool.or_false, b2i_tt, b2i_ff]; done) | (simp only [mgA, if_neg c_19, bf_of c_19, gi_sl, gi_sA, gi_sB, gi_si_s, gi_si_n, gl_si, gl_sA, gl_sB, gl_sl_s, gl_sl_n, gA_si, gA_sl, gA_sB, gA_sA_s, gA_sA_n, gB_si, gB_sl, gB_sA, gB_sB_s, gB_sB_n, Nat.reduceBEq, if_true, if_false, eq_self, Bool.false_eq_true, reduceCtorEq, not_true_eq_false, not_false_eq_true, decide_true, decide_false, cond_true, cond_false, Bool.true_and, Bool.false_and, Bool.and_true, Bool.and_false, Bool.true_or, Bool.false_or, Bool.or_true, Bool.or_false, b2i_tt, b2i_ff]; rfl) | (simp [mgA, c_19, gi_sl, gi_sA, gi_sB, gi_si_s, gi_si_n, gl_si, gl_sA, gl_sB, gl_sl_s, gl_sl_n, gA_si, gA_sl, gA_sB, gA_sA_s, gA_sA_n, gB_si, gB_sl, gB_sA, gB_sB_s, gB_sB_n, Nat.reduceBEq]; done))).trans (lp_go h_1)), hP, hD, hS, lv_sub hl [1, 2, 3, 4, 5, 0] rfl⟩
    · have c_19 : (hs l1 (nI i_1)) = true := b2i_1 c_19
      refine lv_lload hx hb dX5_merge_22 (lv_at hl 4 rfl) ?_
      refine lv_aload_n hx hb dX5_merge_24 rfl (lv_at hl 0 rfl) ?_
      refine va_get (D := D) (ci := 5) (v := .ref (ad 24)) (C := RX5) (T := TX5) (N := 8) hx hb hg inGX5 hown hK hP 5 rfl rfl 0 (by decide) (hg _ mw_166) (fun _ h9 => h9) rfl dX5_merge_25 ?_
      refine lv_iload hx hb dX5_merge_28 (lv_at hl 5 rfl) ?_
      refine kL (rSN hx hb hml hown hg hN hK hP hD (c_atL l D cI cJ (XW ad cI cJ co fl ra li p_1.1 wa pi) 24 (ad 24) 40 (gB p_1.1 0) (nI i_1) rfl (by decide)) mw_81 nw_84 mw_83 mw_77 pd_X7_at_ ⟨Nat.le_of_ble_eq_true rfl, Nat.le_of_ble_eq_true rfl⟩ rfl hl.1 rfl (Nat.le_of_ble_eq_true rfl) dX5_merge_30 ⟨Nat.le_of_ble_eq_true rfl, Nat.le_of_ble_eq_true rfl⟩) hD hS hA (fun r_28 u_28 H locs hp hP hD hS => ?_)
      obtain ⟨er, eu⟩ := hp
      obtain rfl := er.symm
      obtain rfl := eu.symm
      refine lv_lor hx hb dX5_merge_33 ?_
      refine lv_lstore (lv' := [(5, .long (p_1.2 ||| (rdL (gB p_1.1 0) 40 (nI i_1)))), (0, .ref (ad 5)), (1, .long l1), (3, .int k1), (4, .int (b2i b1)), (7, .int (nI i_1))]) hx hb dX5_merge_34 hl (by decide) rfl (fun ls hl => ?_)
      refine lv_aload_n hx hb dX5_merge_36 rfl (lv_at hl 1 rfl) ?_
      refine va_get (D := D) (ci := 5) (v := .ref (ad 24)) (C := RX5) (T := TX5) (N := 8) hx hb hg inGX5 hown hK hP 5 rfl rfl 0 (by decide) (hg _ mw_166) (fun _ h9 => h9) rfl dX5_merge_37 ?_
      refine lv_iload hx hb dX5_merge_40 (lv_at hl 5 rfl) ?_
      refine lv_lconst (v := 0) hx hb dX5_merge_42 (by decide) ?_
      refine kV (rSN hx hb hml hown hg hN hK hP hD (c_putL l D cI cJ (XW ad cI cJ co fl ra li p_1.1 wa pi) 24 (ad 24) 40 (gB p_1.1 0) (nI i_1) 0 rfl (by decide)) mw_97 nw_85 mw_98 mw_77 pd_X7_put_ ⟨Nat.le_of_ble_eq_true rfl, Nat.le_of_ble_eq_true rfl⟩ rfl hl.1 rfl (Nat.le_of_ble_eq_true rfl) dX5_merge_43 ⟨Nat.le_of_ble_eq_true rfl, Nat.le_of_ble_eq_true rfl⟩) hD hS hA (fun u_29 H locs hp hP hD hS => ?_)
      obtain rfl := hp.symm
      have hP : va_P D vwCl (XW ad cI cJ co fl ra li (sB p_1.1 0 (wrL (gB p_1.1 0) 40 (nI i_1) 0)) wa pi) H := hP
      have hD : va_D A (XW ad cI cJ co fl ra li (sB p_1.1 0 (wrL (gB p_1.1 0) 40 (nI i_1) 0)) wa pi) := hD
      refine lv_iinc (v := (nI (i_1 + 1))) (lv' := [(7, .int (nI (i_1 + 1))), (5, .long (p_1.2 ||| (rdL (gB p_1.1 0) 40 (nI i_1)))), (0, .ref (ad 5)), (1, .long l1), (3, .int k1), (4, .int (b2i b1))]) hx hb dX5_merge_46 hl (k := 5) rfl (nI_1 i_1) (by decide) rfl (fun ls hl => ?_)
      refine lv_goto (tgt := 6) hx hb dX5_merge_49 (by decide) ?_
      exact ih_1 ((sB p_1.1 0 (wrL (gB p_1.1 0) 40 (nI i_1) 0)), (p_1.2 ||| (rdL (gB p_1.1 0) 40 (nI i_1)))) H locs ls ⟨((show ((sB p_1.1 0 (wrL (gB p_1.1 0) 40 (nI i_1) 0)), (p_1.2 ||| (rdL (gB p_1.1 0) 40 (nI i_1)))) = (mgA l1) i_1 p_1 from (by first | (simp only [mgA, if_pos c_19, c_19, gi_sl, gi_sA, gi_sB, gi_si_s, gi_si_n, gl_si, gl_sA, gl_sB, gl_sl_s, gl_sl_n, gA_si, gA_sl, gA_sB, gA_sA_s, gA_sA_n, gB_si, gB_sl, gB_sA, gB_sB_s, gB_sB_n, Nat.reduceBEq, if_true, if_false, eq_self, Bool.false_eq_true, reduceCtorEq, not_true_eq_false, not_false_eq_true, decide_true, decide_false, cond_true, cond_false, Bool.true_and, Bool.false_and, Bool.and_true, Bool.and_false, Bool.true_or, Bool.false_or, Bool.or_true, Bool.or_false, b2i_tt, b2i_ff]; done) | (simp only [mgA, if_pos c_19, c_19, gi_sl, gi_sA, gi_sB, gi_si_s, gi_si_n, gl_si, gl_sA, gl_sB, gl_sl_s, gl_sl_n, gA_si, gA_sl, gA_sB, gA_sA_s, gA_sA_n, gB_si, gB_sl, gB_sA, gB_sB_s, gB_sB_n, Nat.reduceBEq, if_true, if_false, eq_self, Bool.false_eq_true, reduceCtorEq, not_true_eq_false, not_false_eq_true, decide_true, decide_false, cond_true, cond_false, Bool.true_and, Bool.false_and, Bool.and_true, Bool.and_false, Bool.true_or, Bool.false_or, Bool.or_true, Bool.or_false, b2i_tt, b2i_ff]; rfl) | (simp [mgA, c_19, gi_sl, gi_sA, gi_sB, gi_si_s, gi_si_n, gl_si, gl_sA, gl_sB, gl_sl_s, gl_sl_n, gA_si, gA_sl, gA_sB, gA_sA_s, gA_sA_n, gB_si, gB_sl, gB_sA, gB_sB_s, gB_sB_n, Nat.reduceBEq]; done))).trans (lp_go h_1)), hP, hD, hS, lv_sub hl [2, 3, 4, 5, 1, 0] rfl⟩
set_option maxHeartbeats 4000000 in
set_option maxRecDepth 100000 in
theorem c_apply (l : Launch) (D : va_G) (cI cJ : ClassId) (ad : Nat → Nat) (co fl ra li re wa pi : Ob) (k1 : Int32) (k2 : Int32) : CT l D (TY cI cJ) yX5_apply (.code yX5_apply cX5_apply 9 (none : Option FieldType)) 3 0 0 (XW ad cI cJ co fl ra li re wa pi) [.ref (ad 5), .int k1, .int k2] (QV D (TY cI cJ) (fun u => u = (XW ad cI cJ co fl ra li (apply re k1 k2) wa pi))) := by
  refine ent (by decide) (Nat.le_of_ble_eq_true rfl) ?_
  intro p e s m below meth c ls A hx hb hr hg hown hml hlocks hnm hP hK hD hS hA hN hl
  have hl : lv_has ls 9 [(0, .ref (ad 5)), (1, .int k1), (2, .int k2)] := hl
  refine lv_aload_n hx hb dX5_apply_0 rfl (lv_at hl 0 rfl) ?_
  refine va_get (D := D) (ci := 5) (v := .ref (ad 24)) (C := RX5) (T := TX5) (N := 8) hx hb hg inGX5 hown hK hP 5 rfl rfl 0 (by decide) (hg _ mw_166) (fun _ h9 => h9) rfl dX5_apply_1 ?_
  refine lv_iload_n hx hb dX5_apply_4 rfl (lv_at hl 2 rfl) ?_
  refine kL (rSN hx hb hml hown hg hN hK hP hD (c_atL l D cI cJ (XW ad cI cJ co fl ra li re wa pi) 24 (ad 24) 40 (gB re 0) k2 rfl (by decide)) mw_81 nw_84 mw_83 mw_77 pd_X7_at_ ⟨Nat.le_of_ble_eq_true rfl, Nat.le_of_ble_eq_true rfl⟩ rfl hl.1 rfl (Nat.le_of_ble_eq_true rfl) dX5_apply_5 ⟨Nat.le_of_ble_eq_true rfl, Nat.le_of_ble_eq_true rfl⟩) hD hS hA (fun r_1 u_1 H locs hp hP hD hS => ?_)
  obtain ⟨er, eu⟩ := hp
  obtain rfl := er.symm
  obtain rfl := eu.symm
  refine lv_lstore_n (lv' := [(3, .long (rdL (gB re 0) 40 k2)), (0, .ref (ad 5)), (1, .int k1), (2, .int k2)]) hx hb dX5_apply_8 rfl hl (by decide) rfl (fun ls hl => ?_)
  refine lv_iload_n hx hb dX5_apply_9 rfl (lv_at hl 2 rfl) ?_
  refine lv_if_ne (tgt := 32) hx hb dX5_apply_10 (by decide) (fun c_10 => ?_) (fun c_10 => ?_)
  · refine lv_iload_n hx hb dX5_apply_32 rfl (lv_at hl 3 rfl) ?_
    refine kL (rSN hx hb hml hown hg hN hK hP hD (c_bit l D cI cJ (XW ad cI cJ co fl ra li re wa pi) k2) mw_78 nw_87 mw_80 mw_77 pd_X7_bit ⟨Nat.le_of_ble_eq_true rfl, Nat.le_of_ble_eq_true rfl⟩ rfl hl.1 rfl (Nat.le_of_ble_eq_true rfl) dX5_apply_33 ⟨Nat.le_of_ble_eq_true rfl, Nat.le_of_ble_eq_true rfl⟩) hD hS hA (fun r_2 u_2 H locs hp hP hD hS => ?_)
    obtain ⟨er, eu⟩ := hp
    obtain rfl := er.symm
    obtain rfl := eu.symm
    refine lv_lload_n hx hb dX5_apply_36 rfl (lv_at hl 0 rfl) ?_
    refine lv_lor hx hb dX5_apply_37 ?_
    refine lv_lstore (lv' := [(5, .long ((bitL k2) ||| (rdL (gB re 0) 40 k2))), (3, .long (rdL (gB re 0) 40 k2)), (0, .ref (ad 5)), (1, .int k1), (2, .int k2)]) hx hb dX5_apply_38 hl (by decide) rfl (fun ls hl => ?_)
    refine lv_iload_n hx hb dX5_apply_40 rfl (lv_at hl 3 rfl) ?_
    refine lv_iconst (v := 2) hx hb dX5_apply_41 (by decide) ?_
    refine lv_icmp_ne (tgt := 98) hx hb dX5_apply_42 (by decide) (fun c_42 => ?_) (fun c_42 => ?_)
    · refine lv_iload_n hx hb dX5_apply_98 rfl (lv_at hl 3 rfl) ?_
      refine lv_iconst (v := 1) hx hb dX5_apply_99 (by decide) ?_
      refine lv_icmp_ne (tgt := 125) hx hb dX5_apply_100 (by decide) (fun c_100 => ?_) (fun c_100 => ?_)
      · refine lv_iconst (v := 0) hx hb dX5_apply_125 (by decide) ?_
        refine lv_istore (lv' := [(7, .int 0), (5, .long ((bitL k2) ||| (rdL (gB re 0) 40 k2))), (3, .long (rdL (gB re 0) 40 k2)), (0, .ref (ad 5)), (1, .int k1), (2, .int k2)]) hx hb dX5_apply_126 hl (by decide) rfl (fun ls hl => ?_)
        refine lv_aload_n hx hb dX5_apply_128 rfl (lv_at hl 3 rfl) ?_
        refine lv_lload hx hb dX5_apply_129 (lv_at hl 1 rfl) ?_
        refine lv_lload hx hb dX5_apply_131 (lv_at hl 1 rfl) ?_
        refine kI (rSN hx hb hml hown hg hN hK hP hD (c_lowest l D cI cJ (XW ad cI cJ co fl ra li re wa pi) ((bitL k2) ||| (rdL (gB re 0) 40 k2))) mw_74 nw_88 mw_76 mw_77 pd_X7_lowest ⟨Nat.le_of_ble_eq_true rfl, Nat.le_of_ble_eq_true rfl⟩ rfl hl.1 rfl (Nat.le_of_ble_eq_true rfl) dX5_apply_133 ⟨Nat.le_of_ble_eq_true rfl, Nat.le_of_ble_eq_true rfl⟩) hD hS hA (fun r_3 u_3 H locs hp hP hD hS => ?_)
        obtain ⟨er, eu⟩ := hp
        obtain rfl := er.symm
        obtain rfl := eu.symm
        refine lv_iload hx hb dX5_apply_136 (lv_at hl 0 rfl) ?_
        refine kV (rV (q0 := 5) (ci := 5) hx hb hml hown hg hN hK hP hD (c_merge l D cI cJ ad co fl ra li re wa pi ((bitL k2) ||| (rdL (gB re 0) 40 k2)) (lowest ((bitL k2) ||| (rdL (gB re 0) 40 k2))) false) mw_180 mw_181 mw_182 mw_183 mw_173 pdv_X5_merge ⟨Nat.le_of_ble_eq_true rfl, Nat.le_of_ble_eq_true rfl⟩ rfl rfl rfl hl.1 rfl (Nat.le_of_ble_eq_true rfl) dX5_apply_138 ⟨Nat.le_of_ble_eq_true rfl, Nat.le_of_ble_eq_true rfl⟩) hD hS hA (fun u_4 H locs hp hP hD hS => ?_)
        obtain rfl := hp.symm
        have hP : va_P D vwCl (XW ad cI cJ co fl ra li (merge re ((bitL k2) ||| (rdL (gB re 0) 40 k2)) (lowest ((bitL k2) ||| (rdL (gB re 0) 40 k2))) false) wa pi) H := hP
        have hD : va_D A (XW ad cI cJ co fl ra li (merge re ((bitL k2) ||| (rdL (gB re 0) 40 k2)) (lowest ((bitL k2) ||| (rdL (gB re 0) 40 k2))) false) wa pi) := hD
        exact W.vret hx hb hr (fun t ht hW => ⟨⟨(XW ad cI cJ co fl ra li (merge re ((bitL k2) ||| (rdL (gB re 0) 40 k2)) (lowest ((bitL k2) ||| (rdL (gB re 0) 40 k2))) false) wa pi), rfl, xw_eq rfl rfl rfl rfl (show (merge re ((bitL k2) ||| (rdL (gB re 0) 40 k2)) (lowest ((bitL k2) ||| (rdL (gB re 0) 40 k2))) false) = (apply re k1 k2) from (by first | (simp only [apply, apM, apC, rfC, if_neg c_10, decide_eq_false c_10, decide_eq_true c_10, if_pos c_10, if_neg c_42, decide_eq_false c_42, decide_eq_true c_42, if_pos c_42, if_neg c_100, decide_eq_false c_100, decide_eq_true c_100, if_pos c_100, gi_sl, gi_sA, gi_sB, gi_si_s, gi_si_n, gl_si, gl_sA, gl_sB, gl_sl_s, gl_sl_n, gA_si, gA_sl, gA_sB, gA_sA_s, gA_sA_n, gB_si, gB_sl, gB_sA, gB_sB_s, gB_sB_n, Nat.reduceBEq, if_true, if_false, eq_self, Bool.false_eq_true, reduceCtorEq, not_true_eq_false, not_false_eq_true, decide_true, decide_false, cond_true, cond_false, Bool.true_and, Bool.false_and, Bool.and_true, Bool.and_false, Bool.true_or, Bool.false_or, Bool.or_true, Bool.or_false, b2i_tt, b2i_ff]; done) | (simp only [apply, apM, apC, rfC, if_neg c_10, decide_eq_false c_10, decide_eq_true c_10, if_pos c_10, if_neg c_42, decide_eq_false c_42, decide_eq_true c_42, if_pos c_42, if_neg c_100, decide_eq_false c_100, decide_eq_true c_100, if_pos c_100, gi_sl, gi_sA, gi_sB, gi_si_s, gi_si_n, gl_si, gl_sA, gl_sB, gl_sl_s, gl_sl_n, gA_si, gA_sl, gA_sB, gA_sA_s, gA_sA_n, gB_si, gB_sl, gB_sA, gB_sB_s, gB_sB_n, Nat.reduceBEq, if_true, if_false, eq_self, Bool.false_eq_true, reduceCtorEq, not_true_eq_false, not_false_eq_true, decide_true, decide_false, cond_true, cond_false, Bool.true_and, Bool.false_and, Bool.and_true, Bool.and_false, Bool.true_or, Bool.false_or, Bool.or_true, Bool.or_false, b2i_tt, b2i_ff]; rfl) | (simp [apply, apM, apC, rfC, c_10, c_42, c_100, gi_sl, gi_sA, gi_sB, gi_si_s, gi_si_n, gl_si, gl_sA, gl_sB, gl_sl_s, gl_sl_n, gA_si, gA_sl, gA_sB, gA_sA_s, gA_sA_n, gB_si, gB_sl, gB_sA, gB_sB_s, gB_sB_n, Nat.reduceBEq]; done))) rfl rfl, ⟨by rw [ht]; exact hP, va_K.moved hW.alike hK, hD⟩⟩, hS.F ht⟩) hS.2.2 dX5_apply_141
      · refine lv_aload_n hx hb dX5_apply_103 rfl (lv_at hl 2 rfl) ?_
        refine va_get (D := D) (ci := 5) (v := .ref (ad 24)) (C := RX5) (T := TX5) (N := 8) hx hb hg inGX5 hown hK hP 5 rfl rfl 0 (by decide) (hg _ mw_166) (fun _ h9 => h9) rfl dX5_apply_104 ?_
        refine lv_lload_n hx hb dX5_apply_107 rfl (lv_at hl 1 rfl) ?_
        refine kI (rSN hx hb hml hown hg hN hK hP hD (c_lowest l D cI cJ (XW ad cI cJ co fl ra li re wa pi) (rdL (gB re 0) 40 k2)) mw_74 nw_88 mw_76 mw_77 pd_X7_lowest ⟨Nat.le_of_ble_eq_true rfl, Nat.le_of_ble_eq_true rfl⟩ rfl hl.1 rfl (Nat.le_of_ble_eq_true rfl) dX5_apply_108 ⟨Nat.le_of_ble_eq_true rfl, Nat.le_of_ble_eq_true rfl⟩) hD hS hA (fun r_5 u_5 H locs hp hP hD hS => ?_)
        obtain ⟨er, eu⟩ := hp
        obtain rfl := er.symm
        obtain rfl := eu.symm
        refine kL (rSN hx hb hml hown hg hN hK hP hD (c_atL l D cI cJ (XW ad cI cJ co fl ra li re wa pi) 24 (ad 24) 40 (gB re 0) (lowest (rdL (gB re 0) 40 k2)) rfl (by decide)) mw_81 nw_84 mw_83 mw_77 pd_X7_at_ ⟨Nat.le_of_ble_eq_true rfl, Nat.le_of_ble_eq_true rfl⟩ rfl hl.1 rfl (Nat.le_of_ble_eq_true rfl) dX5_apply_111 ⟨Nat.le_of_ble_eq_true rfl, Nat.le_of_ble_eq_true rfl⟩) hD hS hA (fun r_6 u_6 H locs hp hP hD hS => ?_)
        obtain ⟨er, eu⟩ := hp
        obtain rfl := er.symm
        obtain rfl := eu.symm
        refine lv_iload_n hx hb dX5_apply_114 rfl (lv_at hl 4 rfl) ?_
        refine kI (rSN hx hb hml hown hg hN hK hP hD (c_has l D cI cJ (XW ad cI cJ co fl ra li re wa pi) (rdL (gB re 0) 40 (lowest (rdL (gB re 0) 40 k2))) k2) mw_89 nw_83 mw_90 mw_77 pd_X7_has ⟨Nat.le_of_ble_eq_true rfl, Nat.le_of_ble_eq_true rfl⟩ rfl hl.1 rfl (Nat.le_of_ble_eq_true rfl) dX5_apply_115 ⟨Nat.le_of_ble_eq_true rfl, Nat.le_of_ble_eq_true rfl⟩) hD hS hA (fun r_7 u_7 H locs hp hP hD hS => ?_)
        obtain ⟨er, eu⟩ := hp
        obtain rfl := er.symm
        obtain rfl := eu.symm
        refine lv_if_eq (tgt := 125) hx hb dX5_apply_118 (by decide) (fun c_118 => ?_) (fun c_118 => ?_)
        · have c_118 : ¬ (hs (rdL (gB re 0) 40 (lowest (rdL (gB re 0) 40 k2))) k2) = true := b2i_0 c_118
          refine lv_iconst (v := 0) hx hb dX5_apply_125 (by decide) ?_
          refine lv_istore (lv' := [(7, .int 0), (5, .long ((bitL k2) ||| (rdL (gB re 0) 40 k2))), (3, .long (rdL (gB re 0) 40 k2)), (0, .ref (ad 5)), (1, .int k1), (2, .int k2)]) hx hb dX5_apply_126 hl (by decide) rfl (fun ls hl => ?_)
          refine lv_aload_n hx hb dX5_apply_128 rfl (lv_at hl 3 rfl) ?_
          refine lv_lload hx hb dX5_apply_129 (lv_at hl 1 rfl) ?_
          refine lv_lload hx hb dX5_apply_131 (lv_at hl 1 rfl) ?_
          refine kI (rSN hx hb hml hown hg hN hK hP hD (c_lowest l D cI cJ (XW ad cI cJ co fl ra li re wa pi) ((bitL k2) ||| (rdL (gB re 0) 40 k2))) mw_74 nw_88 mw_76 mw_77 pd_X7_lowest ⟨Nat.le_of_ble_eq_true rfl, Nat.le_of_ble_eq_true rfl⟩ rfl hl.1 rfl (Nat.le_of_ble_eq_true rfl) dX5_apply_133 ⟨Nat.le_of_ble_eq_true rfl, Nat.le_of_ble_eq_true rfl⟩) hD hS hA (fun r_8 u_8 H locs hp hP hD hS => ?_)
          obtain ⟨er, eu⟩ := hp
          obtain rfl := er.symm
          obtain rfl := eu.symm
          refine lv_iload hx hb dX5_apply_136 (lv_at hl 0 rfl) ?_
          refine kV (rV (q0 := 5) (ci := 5) hx hb hml hown hg hN hK hP hD (c_merge l D cI cJ ad co fl ra li re wa pi ((bitL k2) ||| (rdL (gB re 0) 40 k2)) (lowest ((bitL k2) ||| (rdL (gB re 0) 40 k2))) false) mw_180 mw_181 mw_182 mw_183 mw_173 pdv_X5_merge ⟨Nat.le_of_ble_eq_true rfl, Nat.le_of_ble_eq_true rfl⟩ rfl rfl rfl hl.1 rfl (Nat.le_of_ble_eq_true rfl) dX5_apply_138 ⟨Nat.le_of_ble_eq_true rfl, Nat.le_of_ble_eq_true rfl⟩) hD hS hA (fun u_9 H locs hp hP hD hS => ?_)
          obtain rfl := hp.symm
          have hP : va_P D vwCl (XW ad cI cJ co fl ra li (merge re ((bitL k2) ||| (rdL (gB re 0) 40 k2)) (lowest ((bitL k2) ||| (rdL (gB re 0) 40 k2))) false) wa pi) H := hP
          have hD : va_D A (XW ad cI cJ co fl ra li (merge re ((bitL k2) ||| (rdL (gB re 0) 40 k2)) (lowest ((bitL k2) ||| (rdL (gB re 0) 40 k2))) false) wa pi) := hD
          exact W.vret hx hb hr (fun t ht hW => ⟨⟨(XW ad cI cJ co fl ra li (merge re ((bitL k2) ||| (rdL (gB re 0) 40 k2)) (lowest ((bitL k2) ||| (rdL (gB re 0) 40 k2))) false) wa pi), rfl, xw_eq rfl rfl rfl rfl (show (merge re ((bitL k2) ||| (rdL (gB re 0) 40 k2)) (lowest ((bitL k2) ||| (rdL (gB re 0) 40 k2))) false) = (apply re k1 k2) from (by first | (simp only [apply, apM, apC, rfC, if_neg c_10, decide_eq_false c_10, decide_eq_true c_10, if_pos c_10, if_neg c_42, decide_eq_false c_42, decide_eq_true c_42, if_pos c_42, if_pos c_100, decide_eq_true c_100, decide_eq_false (not_not_intro c_100), if_neg c_118, bf_of c_118, gi_sl, gi_sA, gi_sB, gi_si_s, gi_si_n, gl_si, gl_sA, gl_sB, gl_sl_s, gl_sl_n, gA_si, gA_sl, gA_sB, gA_sA_s, gA_sA_n, gB_si, gB_sl, gB_sA, gB_sB_s, gB_sB_n, Nat.reduceBEq, if_true, if_false, eq_self, Bool.false_eq_true, reduceCtorEq, not_true_eq_false, not_false_eq_true, decide_true, decide_false, cond_true, cond_false, Bool.true_and, Bool.false_and, Bool.and_true, Bool.and_false, Bool.true_or, Bool.false_or, Bool.or_true, Bool.or_false, b2i_tt, b2i_ff]; done) | (simp only [apply, apM, apC, rfC, if_neg c_10, decide_eq_false c_10, decide_eq_true c_10, if_pos c_10, if_neg c_42, decide_eq_false c_42, decide_eq_true c_42, if_pos c_42, if_pos c_100, decide_eq_true c_100, decide_eq_false (not_not_intro c_100), if_neg c_118, bf_of c_118, gi_sl, gi_sA, gi_sB, gi_si_s, gi_si_n, gl_si, gl_sA, gl_sB, gl_sl_s, gl_sl_n, gA_si, gA_sl, gA_sB, gA_sA_s, gA_sA_n, gB_si, gB_sl, gB_sA, gB_sB_s, gB_sB_n, Nat.reduceBEq, if_true, if_false, eq_self, Bool.false_eq_true, reduceCtorEq, not_true_eq_false, not_false_eq_true, decide_true, decide_false, cond_true, cond_false, Bool.true_and, Bool.false_and, Bool.and_true, Bool.and_false, Bool.true_or, Bool.false_or, Bool.or_true, Bool.or_false, b2i_tt, b2i_ff]; rfl) | (simp [apply, apM, apC, rfC, c_10, c_42, c_100, c_118, gi_sl, gi_sA, gi_sB, gi_si_s, gi_si_n, gl_si, gl_sA, gl_sB, gl_sl_s, gl_sl_n, gA_si, gA_sl, gA_sB, gA_sA_s, gA_sA_n, gB_si, gB_sl, gB_sA, gB_sB_s, gB_sB_n, Nat.reduceBEq]; done))) rfl rfl, ⟨by rw [ht]; exact hP, va_K.moved hW.alike hK, hD⟩⟩, hS.F ht⟩) hS.2.2 dX5_apply_141
        · have c_118 : (hs (rdL (gB re 0) 40 (lowest (rdL (gB re 0) 40 k2))) k2) = true := b2i_1 c_118
          refine lv_iconst (v := 1) hx hb dX5_apply_121 (by decide) ?_
          refine lv_goto (tgt := 126) hx hb dX5_apply_122 (by decide) ?_
          refine lv_istore (lv' := [(7, .int 1), (5, .long ((bitL k2) ||| (rdL (gB re 0) 40 k2))), (3, .long (rdL (gB re 0) 40 k2)), (0, .ref (ad 5)), (1, .int k1), (2, .int k2)]) hx hb dX5_apply_126 hl (by decide) rfl (fun ls hl => ?_)
          refine lv_aload_n hx hb dX5_apply_128 rfl (lv_at hl 3 rfl) ?_
          refine lv_lload hx hb dX5_apply_129 (lv_at hl 1 rfl) ?_
          refine lv_lload hx hb dX5_apply_131 (lv_at hl 1 rfl) ?_
          refine kI (rSN hx hb hml hown hg hN hK hP hD (c_lowest l D cI cJ (XW ad cI cJ co fl ra li re wa pi) ((bitL k2) ||| (rdL (gB re 0) 40 k2))) mw_74 nw_88 mw_76 mw_77 pd_X7_lowest ⟨Nat.le_of_ble_eq_true rfl, Nat.le_of_ble_eq_true rfl⟩ rfl hl.1 rfl (Nat.le_of_ble_eq_true rfl) dX5_apply_133 ⟨Nat.le_of_ble_eq_true rfl, Nat.le_of_ble_eq_true rfl⟩) hD hS hA (fun r_10 u_10 H locs hp hP hD hS => ?_)
          obtain ⟨er, eu⟩ := hp
          obtain rfl := er.symm
          obtain rfl := eu.symm
          refine lv_iload hx hb dX5_apply_136 (lv_at hl 0 rfl) ?_
          refine kV (rV (q0 := 5) (ci := 5) hx hb hml hown hg hN hK hP hD (c_merge l D cI cJ ad co fl ra li re wa pi ((bitL k2) ||| (rdL (gB re 0) 40 k2)) (lowest ((bitL k2) ||| (rdL (gB re 0) 40 k2))) true) mw_180 mw_181 mw_182 mw_183 mw_173 pdv_X5_merge ⟨Nat.le_of_ble_eq_true rfl, Nat.le_of_ble_eq_true rfl⟩ rfl rfl rfl hl.1 rfl (Nat.le_of_ble_eq_true rfl) dX5_apply_138 ⟨Nat.le_of_ble_eq_true rfl, Nat.le_of_ble_eq_true rfl⟩) hD hS hA (fun u_11 H locs hp hP hD hS => ?_)
          obtain rfl := hp.symm
          have hP : va_P D vwCl (XW ad cI cJ co fl ra li (merge re ((bitL k2) ||| (rdL (gB re 0) 40 k2)) (lowest ((bitL k2) ||| (rdL (gB re 0) 40 k2))) true) wa pi) H := hP
          have hD : va_D A (XW ad cI cJ co fl ra li (merge re ((bitL k2) ||| (rdL (gB re 0) 40 k2)) (lowest ((bitL k2) ||| (rdL (gB re 0) 40 k2))) true) wa pi) := hD
          exact W.vret hx hb hr (fun t ht hW => ⟨⟨(XW ad cI cJ co fl ra li (merge re ((bitL k2) ||| (rdL (gB re 0) 40 k2)) (lowest ((bitL k2) ||| (rdL (gB re 0) 40 k2))) true) wa pi), rfl, xw_eq rfl rfl rfl rfl (show (merge re ((bitL k2) ||| (rdL (gB re 0) 40 k2)) (lowest ((bitL k2) ||| (rdL (gB re 0) 40 k2))) true) = (apply re k1 k2) from (by first | (simp only [apply, apM, apC, rfC, if_neg c_10, decide_eq_false c_10, decide_eq_true c_10, if_pos c_10, if_neg c_42, decide_eq_false c_42, decide_eq_true c_42, if_pos c_42, if_pos c_100, decide_eq_true c_100, decide_eq_false (not_not_intro c_100), if_pos c_118, c_118, gi_sl, gi_sA, gi_sB, gi_si_s, gi_si_n, gl_si, gl_sA, gl_sB, gl_sl_s, gl_sl_n, gA_si, gA_sl, gA_sB, gA_sA_s, gA_sA_n, gB_si, gB_sl, gB_sA, gB_sB_s, gB_sB_n, Nat.reduceBEq, if_true, if_false, eq_self, Bool.false_eq_true, reduceCtorEq, not_true_eq_false, not_false_eq_true, decide_true, decide_false, cond_true, cond_false, Bool.true_and, Bool.false_and, Bool.and_true, Bool.and_false, Bool.true_or, Bool.false_or, Bool.or_true, Bool.or_false, b2i_tt, b2i_ff]; done) | (simp only [apply, apM, apC, rfC, if_neg c_10, decide_eq_false c_10, decide_eq_true c_10, if_pos c_10, if_neg c_42, decide_eq_false c_42, decide_eq_true c_42, if_pos c_42, if_pos c_100, decide_eq_true c_100, decide_eq_false (not_not_intro c_100), if_pos c_118, c_118, gi_sl, gi_sA, gi_sB, gi_si_s, gi_si_n, gl_si, gl_sA, gl_sB, gl_sl_s, gl_sl_n, gA_si, gA_sl, gA_sB, gA_sA_s, gA_sA_n, gB_si, gB_sl, gB_sA, gB_sB_s, gB_sB_n, Nat.reduceBEq, if_true, if_false, eq_self, Bool.false_eq_true, reduceCtorEq, not_true_eq_false, not_false_eq_true, decide_true, decide_false, cond_true, cond_false, Bool.true_and, Bool.false_and, Bool.and_true, Bool.and_false, Bool.true_or, Bool.false_or, Bool.or_true, Bool.or_false, b2i_tt, b2i_ff]; rfl) | (simp [apply, apM, apC, rfC, c_10, c_42, c_100, c_118, gi_sl, gi_sA, gi_sB, gi_si_s, gi_si_n, gl_si, gl_sA, gl_sB, gl_sl_s, gl_sl_n, gA_si, gA_sl, gA_sB, gA_sA_s, gA_sA_n, gB_si, gB_sl, gB_sA, gB_sB_s, gB_sB_n, Nat.reduceBEq]; done))) rfl rfl, ⟨by rw [ht]; exact hP, va_K.moved hW.alike hK, hD⟩⟩, hS.F ht⟩) hS.2.2 dX5_apply_141
    · refine lv_lload_n hx hb dX5_apply_45 rfl (lv_at hl 1 rfl) ?_
      refine kI (rSN hx hb hml hown hg hN hK hP hD (c_lowest l D cI cJ (XW ad cI cJ co fl ra li re wa pi) (rdL (gB re 0) 40 k2)) mw_74 nw_88 mw_76 mw_77 pd_X7_lowest ⟨Nat.le_of_ble_eq_true rfl, Nat.le_of_ble_eq_true rfl⟩ rfl hl.1 rfl (Nat.le_of_ble_eq_true rfl) dX5_apply_46 ⟨Nat.le_of_ble_eq_true rfl, Nat.le_of_ble_eq_true rfl⟩) hD hS hA (fun r_12 u_12 H locs hp hP hD hS => ?_)
      obtain ⟨er, eu⟩ := hp
      obtain rfl := er.symm
      obtain rfl := eu.symm
      refine lv_istore (lv' := [(7, .int (lowest (rdL (gB re 0) 40 k2))), (5, .long ((bitL k2) ||| (rdL (gB re 0) 40 k2))), (3, .long (rdL (gB re 0) 40 k2)), (0, .ref (ad 5)), (1, .int k1), (2, .int k2)]) hx hb dX5_apply_49 hl (by decide) rfl (fun ls hl => ?_)
      refine lv_lload_n hx hb dX5_apply_51 rfl (lv_at hl 2 rfl) ?_
      refine lv_iload hx hb dX5_apply_52 (lv_at hl 0 rfl) ?_
      refine kL (rSN hx hb hml hown hg hN hK hP hD (c_bit l D cI cJ (XW ad cI cJ co fl ra li re wa pi) (lowest (rdL (gB re 0) 40 k2))) mw_78 nw_87 mw_80 mw_77 pd_X7_bit ⟨Nat.le_of_ble_eq_true rfl, Nat.le_of_ble_eq_true rfl⟩ rfl hl.1 rfl (Nat.le_of_ble_eq_true rfl) dX5_apply_54 ⟨Nat.le_of_ble_eq_true rfl, Nat.le_of_ble_eq_true rfl⟩) hD hS hA (fun r_13 u_13 H locs hp hP hD hS => ?_)
      obtain ⟨er, eu⟩ := hp
      obtain rfl := er.symm
      obtain rfl := eu.symm
      refine lv_ldc2 (v := (-1)) hx hb hown (hg _ mw_168) dX5_apply_57 ?_
      refine lv_lxor hx hb dX5_apply_60 ?_
      refine lv_land hx hb dX5_apply_61 ?_
      refine kI (rSN hx hb hml hown hg hN hK hP hD (c_lowest l D cI cJ (XW ad cI cJ co fl ra li re wa pi) ((rdL (gB re 0) 40 k2) &&& ((bitL (lowest (rdL (gB re 0) 40 k2))) ^^^ (-1)))) mw_74 nw_88 mw_76 mw_77 pd_X7_lowest ⟨Nat.le_of_ble_eq_true rfl, Nat.le_of_ble_eq_true rfl⟩ rfl hl.1 rfl (Nat.le_of_ble_eq_true rfl) dX5_apply_62 ⟨Nat.le_of_ble_eq_true rfl, Nat.le_of_ble_eq_true rfl⟩) hD hS hA (fun r_14 u_14 H locs hp hP hD hS => ?_)
      obtain ⟨er, eu⟩ := hp
      obtain rfl := er.symm
      obtain rfl := eu.symm
      refine lv_istore (lv' := [(8, .int (lowest ((rdL (gB re 0) 40 k2) &&& ((bitL (lowest (rdL (gB re 0) 40 k2))) ^^^ (-1))))), (7, .int (lowest (rdL (gB re 0) 40 k2))), (5, .long ((bitL k2) ||| (rdL (gB re 0) 40 k2))), (3, .long (rdL (gB re 0) 40 k2)), (0, .ref (ad 5)), (1, .int k1), (2, .int k2)]) hx hb dX5_apply_65 hl (by decide) rfl (fun ls hl => ?_)
      refine lv_lload hx hb dX5_apply_67 (lv_at hl 2 rfl) ?_
      refine lv_aload_n hx hb dX5_apply_69 rfl (lv_at hl 4 rfl) ?_
      refine lv_iload_n hx hb dX5_apply_70 rfl (lv_at hl 6 rfl) ?_
      refine lv_iload hx hb dX5_apply_71 (lv_at hl 1 rfl) ?_
      refine lv_iload hx hb dX5_apply_73 (lv_at hl 0 rfl) ?_
      refine kI (rV (q0 := 5) (ci := 5) hx hb hml hown hg hN hK hP hD (c_isSingle l D cI cJ ad co fl ra li re wa pi k2 (lowest (rdL (gB re 0) 40 k2)) (lowest ((rdL (gB re 0) 40 k2) &&& ((bitL (lowest (rdL (gB re 0) 40 k2))) ^^^ (-1))))) mw_169 mw_170 mw_171 mw_172 mw_173 pdv_X5_isSingle ⟨Nat.le_of_ble_eq_true rfl, Nat.le_of_ble_eq_true rfl⟩ rfl rfl rfl hl.1 rfl (Nat.le_of_ble_eq_true rfl) dX5_apply_75 ⟨Nat.le_of_ble_eq_true rfl, Nat.le_of_ble_eq_true rfl⟩) hD hS hA (fun r_15 u_15 H locs hp hP hD hS => ?_)
      obtain ⟨er, eu⟩ := hp
      obtain rfl := er.symm
      obtain rfl := eu.symm
      refine lv_if_eq (tgt := 86) hx hb dX5_apply_78 (by decide) (fun c_78 => ?_) (fun c_78 => ?_)
      · have c_78 : ¬ (isSingle re k2 (lowest (rdL (gB re 0) 40 k2)) (lowest ((rdL (gB re 0) 40 k2) &&& ((bitL (lowest (rdL (gB re 0) 40 k2))) ^^^ (-1))))) = true := b2i_0 c_78
        refine lv_iload hx hb dX5_apply_86 (lv_at hl 1 rfl) ?_
        refine kL (rSN hx hb hml hown hg hN hK hP hD (c_bit l D cI cJ (XW ad cI cJ co fl ra li re wa pi) (lowest (rdL (gB re 0) 40 k2))) mw_78 nw_87 mw_80 mw_77 pd_X7_bit ⟨Nat.le_of_ble_eq_true rfl, Nat.le_of_ble_eq_true rfl⟩ rfl hl.1 rfl (Nat.le_of_ble_eq_true rfl) dX5_apply_88 ⟨Nat.le_of_ble_eq_true rfl, Nat.le_of_ble_eq_true rfl⟩) hD hS hA (fun r_16 u_16 H locs hp hP hD hS => ?_)
        obtain ⟨er, eu⟩ := hp
        obtain rfl := er.symm
        obtain rfl := eu.symm
        refine lv_ldc2 (v := (-1)) hx hb hown (hg _ mw_168) dX5_apply_91 ?_
        refine lv_lxor hx hb dX5_apply_94 ?_
        refine lv_land hx hb dX5_apply_95 ?_
        refine lv_lstore (lv' := [(5, .long (((bitL k2) ||| (rdL (gB re 0) 40 k2)) &&& ((bitL (lowest (rdL (gB re 0) 40 k2))) ^^^ (-1)))), (8, .int (lowest ((rdL (gB re 0) 40 k2) &&& ((bitL (lowest (rdL (gB re 0) 40 k2))) ^^^ (-1))))), (7, .int (lowest (rdL (gB re 0) 40 k2))), (3, .long (rdL (gB re 0) 40 k2)), (0, .ref (ad 5)), (1, .int k1), (2, .int k2)]) hx hb dX5_apply_96 hl (by decide) rfl (fun ls hl => ?_)
        refine lv_iload_n hx hb dX5_apply_98 rfl (lv_at hl 5 rfl) ?_
        refine lv_iconst (v := 1) hx hb dX5_apply_99 (by decide) ?_
        refine lv_icmp_ne (tgt := 125) hx hb dX5_apply_100 (by decide) (fun c_100 => ?_) (fun c_100 => ?_)
        · refine lv_iconst (v := 0) hx hb dX5_apply_125 (by decide) ?_
          refine lv_istore (lv' := [(7, .int 0), (5, .long (((bitL k2) ||| (rdL (gB re 0) 40 k2)) &&& ((bitL (lowest (rdL (gB re 0) 40 k2))) ^^^ (-1)))), (8, .int (lowest ((rdL (gB re 0) 40 k2) &&& ((bitL (lowest (rdL (gB re 0) 40 k2))) ^^^ (-1))))), (3, .long (rdL (gB re 0) 40 k2)), (0, .ref (ad 5)), (1, .int k1), (2, .int k2)]) hx hb dX5_apply_126 hl (by decide) rfl (fun ls hl => ?_)
          refine lv_aload_n hx hb dX5_apply_128 rfl (lv_at hl 4 rfl) ?_
          refine lv_lload hx hb dX5_apply_129 (lv_at hl 1 rfl) ?_
          refine lv_lload hx hb dX5_apply_131 (lv_at hl 1 rfl) ?_
          refine kI (rSN hx hb hml hown hg hN hK hP hD (c_lowest l D cI cJ (XW ad cI cJ co fl ra li re wa pi) (((bitL k2) ||| (rdL (gB re 0) 40 k2)) &&& ((bitL (lowest (rdL (gB re 0) 40 k2))) ^^^ (-1)))) mw_74 nw_88 mw_76 mw_77 pd_X7_lowest ⟨Nat.le_of_ble_eq_true rfl, Nat.le_of_ble_eq_true rfl⟩ rfl hl.1 rfl (Nat.le_of_ble_eq_true rfl) dX5_apply_133 ⟨Nat.le_of_ble_eq_true rfl, Nat.le_of_ble_eq_true rfl⟩) hD hS hA (fun r_17 u_17 H locs hp hP hD hS => ?_)
          obtain ⟨er, eu⟩ := hp
          obtain rfl := er.symm
          obtain rfl := eu.symm
          refine lv_iload hx hb dX5_apply_136 (lv_at hl 0 rfl) ?_
          refine kV (rV (q0 := 5) (ci := 5) hx hb hml hown hg hN hK hP hD (c_merge l D cI cJ ad co fl ra li re wa pi (((bitL k2) ||| (rdL (gB re 0) 40 k2)) &&& ((bitL (lowest (rdL (gB re 0) 40 k2))) ^^^ (-1))) (lowest (((bitL k2) ||| (rdL (gB re 0) 40 k2)) &&& ((bitL (lowest (rdL (gB re 0) 40 k2))) ^^^ (-1)))) false) mw_180 mw_181 mw_182 mw_183 mw_173 pdv_X5_merge ⟨Nat.le_of_ble_eq_true rfl, Nat.le_of_ble_eq_true rfl⟩ rfl rfl rfl hl.1 rfl (Nat.le_of_ble_eq_true rfl) dX5_apply_138 ⟨Nat.le_of_ble_eq_true rfl, Nat.le_of_ble_eq_true rfl⟩) hD hS hA (fun u_18 H locs hp hP hD hS => ?_)
          obtain rfl := hp.symm
          have hP : va_P D vwCl (XW ad cI cJ co fl ra li (merge re (((bitL k2) ||| (rdL (gB re 0) 40 k2)) &&& ((bitL (lowest (rdL (gB re 0) 40 k2))) ^^^ (-1))) (lowest (((bitL k2) ||| (rdL (gB re 0) 40 k2)) &&& ((bitL (lowest (rdL (gB re 0) 40 k2))) ^^^ (-1)))) false) wa pi) H := hP
          have hD : va_D A (XW ad cI cJ co fl ra li (merge re (((bitL k2) ||| (rdL (gB re 0) 40 k2)) &&& ((bitL (lowest (rdL (gB re 0) 40 k2))) ^^^ (-1))) (lowest (((bitL k2) ||| (rdL (gB re 0) 40 k2)) &&& ((bitL (lowest (rdL (gB re 0) 40 k2))) ^^^ (-1)))) false) wa pi) := hD
          exact W.vret hx hb hr (fun t ht hW => ⟨⟨(XW ad cI cJ co fl ra li (merge re (((bitL k2) ||| (rdL (gB re 0) 40 k2)) &&& ((bitL (lowest (rdL (gB re 0) 40 k2))) ^^^ (-1))) (lowest (((bitL k2) ||| (rdL (gB re 0) 40 k2)) &&& ((bitL (lowest (rdL (gB re 0) 40 k2))) ^^^ (-1)))) false) wa pi), rfl, xw_eq rfl rfl rfl rfl (show (merge re (((bitL k2) ||| (rdL (gB re 0) 40 k2)) &&& ((bitL (lowest (rdL (gB re 0) 40 k2))) ^^^ (-1))) (lowest (((bitL k2) ||| (rdL (gB re 0) 40 k2)) &&& ((bitL (lowest (rdL (gB re 0) 40 k2))) ^^^ (-1)))) false) = (apply re k1 k2) from (by first | (simp only [apply, apM, apC, rfC, if_neg c_10, decide_eq_false c_10, decide_eq_true c_10, if_pos c_10, if_pos c_42, decide_eq_true c_42, decide_eq_false (not_not_intro c_42), if_neg c_78, bf_of c_78, if_neg c_100, decide_eq_false c_100, decide_eq_true c_100, if_pos c_100, gi_sl, gi_sA, gi_sB, gi_si_s, gi_si_n, gl_si, gl_sA, gl_sB, gl_sl_s, gl_sl_n, gA_si, gA_sl, gA_sB, gA_sA_s, gA_sA_n, gB_si, gB_sl, gB_sA, gB_sB_s, gB_sB_n, Nat.reduceBEq, if_true, if_false, eq_self, Bool.false_eq_true, reduceCtorEq, not_true_eq_false, not_false_eq_true, decide_true, decide_false, cond_true, cond_false, Bool.true_and, Bool.false_and, Bool.and_true, Bool.and_false, Bool.true_or, Bool.false_or, Bool.or_true, Bool.or_false, b2i_tt, b2i_ff]; done) | (simp only [apply, apM, apC, rfC, if_neg c_10, decide_eq_false c_10, decide_eq_true c_10, if_pos c_10, if_pos c_42, decide_eq_true c_42, decide_eq_false (not_not_intro c_42), if_neg c_78, bf_of c_78, if_neg c_100, decide_eq_false c_100, decide_eq_true c_100, if_pos c_100, gi_sl, gi_sA, gi_sB, gi_si_s, gi_si_n, gl_si, gl_sA, gl_sB, gl_sl_s, gl_sl_n, gA_si, gA_sl, gA_sB, gA_sA_s, gA_sA_n, gB_si, gB_sl, gB_sA, gB_sB_s, gB_sB_n, Nat.reduceBEq, if_true, if_false, eq_self, Bool.false_eq_true, reduceCtorEq, not_true_eq_false, not_false_eq_true, decide_true, decide_false, cond_true, cond_false, Bool.true_and, Bool.false_and, Bool.and_true, Bool.and_false, Bool.true_or, Bool.false_or, Bool.or_true, Bool.or_false, b2i_tt, b2i_ff]; rfl) | (simp [apply, apM, apC, rfC, c_10, c_42, c_78, c_100, gi_sl, gi_sA, gi_sB, gi_si_s, gi_si_n, gl_si, gl_sA, gl_sB, gl_sl_s, gl_sl_n, gA_si, gA_sl, gA_sB, gA_sA_s, gA_sA_n, gB_si, gB_sl, gB_sA, gB_sB_s, gB_sB_n, Nat.reduceBEq]; done))) rfl rfl, ⟨by rw [ht]; exact hP, va_K.moved hW.alike hK, hD⟩⟩, hS.F ht⟩) hS.2.2 dX5_apply_141
        · refine lv_aload_n hx hb dX5_apply_103 rfl (lv_at hl 4 rfl) ?_
          refine va_get (D := D) (ci := 5) (v := .ref (ad 24)) (C := RX5) (T := TX5) (N := 8) hx hb hg inGX5 hown hK hP 5 rfl rfl 0 (by decide) (hg _ mw_166) (fun _ h9 => h9) rfl dX5_apply_104 ?_
          refine lv_lload_n hx hb dX5_apply_107 rfl (lv_at hl 3 rfl) ?_
          refine kI (rSN hx hb hml hown hg hN hK hP hD (c_lowest l D cI cJ (XW ad cI cJ co fl ra li re wa pi) (rdL (gB re 0) 40 k2)) mw_74 nw_88 mw_76 mw_77 pd_X7_lowest ⟨Nat.le_of_ble_eq_true rfl, Nat.le_of_ble_eq_true rfl⟩ rfl hl.1 rfl (Nat.le_of_ble_eq_true rfl) dX5_apply_108 ⟨Nat.le_of_ble_eq_true rfl, Nat.le_of_ble_eq_true rfl⟩) hD hS hA (fun r_19 u_19 H locs hp hP hD hS => ?_)
          obtain ⟨er, eu⟩ := hp
          obtain rfl := er.symm
          obtain rfl := eu.symm
          refine kL (rSN hx hb hml hown hg hN hK hP hD (c_atL l D cI cJ (XW ad cI cJ co fl ra li re wa pi) 24 (ad 24) 40 (gB re 0) (lowest (rdL (gB re 0) 40 k2)) rfl (by decide)) mw_81 nw_84 mw_83 mw_77 pd_X7_at_ ⟨Nat.le_of_ble_eq_true rfl, Nat.le_of_ble_eq_true rfl⟩ rfl hl.1 rfl (Nat.le_of_ble_eq_true rfl) dX5_apply_111 ⟨Nat.le_of_ble_eq_true rfl, Nat.le_of_ble_eq_true rfl⟩) hD hS hA (fun r_20 u_20 H locs hp hP hD hS => ?_)
          obtain ⟨er, eu⟩ := hp
          obtain rfl := er.symm
          obtain rfl := eu.symm
          refine lv_iload_n hx hb dX5_apply_114 rfl (lv_at hl 6 rfl) ?_
          refine kI (rSN hx hb hml hown hg hN hK hP hD (c_has l D cI cJ (XW ad cI cJ co fl ra li re wa pi) (rdL (gB re 0) 40 (lowest (rdL (gB re 0) 40 k2))) k2) mw_89 nw_83 mw_90 mw_77 pd_X7_has ⟨Nat.le_of_ble_eq_true rfl, Nat.le_of_ble_eq_true rfl⟩ rfl hl.1 rfl (Nat.le_of_ble_eq_true rfl) dX5_apply_115 ⟨Nat.le_of_ble_eq_true rfl, Nat.le_of_ble_eq_true rfl⟩) hD hS hA (fun r_21 u_21 H locs hp hP hD hS => ?_)
          obtain ⟨er, eu⟩ := hp
          obtain rfl := er.symm
          obtain rfl := eu.symm
          refine lv_if_eq (tgt := 125) hx hb dX5_apply_118 (by decide) (fun c_118 => ?_) (fun c_118 => ?_)
          · have c_118 : ¬ (hs (rdL (gB re 0) 40 (lowest (rdL (gB re 0) 40 k2))) k2) = true := b2i_0 c_118
            refine lv_iconst (v := 0) hx hb dX5_apply_125 (by decide) ?_
            refine lv_istore (lv' := [(7, .int 0), (5, .long (((bitL k2) ||| (rdL (gB re 0) 40 k2)) &&& ((bitL (lowest (rdL (gB re 0) 40 k2))) ^^^ (-1)))), (8, .int (lowest ((rdL (gB re 0) 40 k2) &&& ((bitL (lowest (rdL (gB re 0) 40 k2))) ^^^ (-1))))), (3, .long (rdL (gB re 0) 40 k2)), (0, .ref (ad 5)), (1, .int k1), (2, .int k2)]) hx hb dX5_apply_126 hl (by decide) rfl (fun ls hl => ?_)
            refine lv_aload_n hx hb dX5_apply_128 rfl (lv_at hl 4 rfl) ?_
            refine lv_lload hx hb dX5_apply_129 (lv_at hl 1 rfl) ?_
            refine lv_lload hx hb dX5_apply_131 (lv_at hl 1 rfl) ?_
            refine kI (rSN hx hb hml hown hg hN hK hP hD (c_lowest l D cI cJ (XW ad cI cJ co fl ra li re wa pi) (((bitL k2) ||| (rdL (gB re 0) 40 k2)) &&& ((bitL (lowest (rdL (gB re 0) 40 k2))) ^^^ (-1)))) mw_74 nw_88 mw_76 mw_77 pd_X7_lowest ⟨Nat.le_of_ble_eq_true rfl, Nat.le_of_ble_eq_true rfl⟩ rfl hl.1 rfl (Nat.le_of_ble_eq_true rfl) dX5_apply_133 ⟨Nat.le_of_ble_eq_true rfl, Nat.le_of_ble_eq_true rfl⟩) hD hS hA (fun r_22 u_22 H locs hp hP hD hS => ?_)
            obtain ⟨er, eu⟩ := hp
            obtain rfl := er.symm
            obtain rfl := eu.symm
            refine lv_iload hx hb dX5_apply_136 (lv_at hl 0 rfl) ?_
            refine kV (rV (q0 := 5) (ci := 5) hx hb hml hown hg hN hK hP hD (c_merge l D cI cJ ad co fl ra li re wa pi (((bitL k2) ||| (rdL (gB re 0) 40 k2)) &&& ((bitL (lowest (rdL (gB re 0) 40 k2))) ^^^ (-1))) (lowest (((bitL k2) ||| (rdL (gB re 0) 40 k2)) &&& ((bitL (lowest (rdL (gB re 0) 40 k2))) ^^^ (-1)))) false) mw_180 mw_181 mw_182 mw_183 mw_173 pdv_X5_merge ⟨Nat.le_of_ble_eq_true rfl, Nat.le_of_ble_eq_true rfl⟩ rfl rfl rfl hl.1 rfl (Nat.le_of_ble_eq_true rfl) dX5_apply_138 ⟨Nat.le_of_ble_eq_true rfl, Nat.le_of_ble_eq_true rfl⟩) hD hS hA (fun u_23 H locs hp hP hD hS => ?_)
            obtain rfl := hp.symm
            have hP : va_P D vwCl (XW ad cI cJ co fl ra li (merge re (((bitL k2) ||| (rdL (gB re 0) 40 k2)) &&& ((bitL (lowest (rdL (gB re 0) 40 k2))) ^^^ (-1))) (lowest (((bitL k2) ||| (rdL (gB re 0) 40 k2)) &&& ((bitL (lowest (rdL (gB re 0) 40 k2))) ^^^ (-1)))) false) wa pi) H := hP
            have hD : va_D A (XW ad cI cJ co fl ra li (merge re (((bitL k2) ||| (rdL (gB re 0) 40 k2)) &&& ((bitL (lowest (rdL (gB re 0) 40 k2))) ^^^ (-1))) (lowest (((bitL k2) ||| (rdL (gB re 0) 40 k2)) &&& ((bitL (lowest (rdL (gB re 0) 40 k2))) ^^^ (-1)))) false) wa pi) := hD
            exact W.vret hx hb hr (fun t ht hW => ⟨⟨(XW ad cI cJ co fl ra li (merge re (((bitL k2) ||| (rdL (gB re 0) 40 k2)) &&& ((bitL (lowest (rdL (gB re 0) 40 k2))) ^^^ (-1))) (lowest (((bitL k2) ||| (rdL (gB re 0) 40 k2)) &&& ((bitL (lowest (rdL (gB re 0) 40 k2))) ^^^ (-1)))) false) wa pi), rfl, xw_eq rfl rfl rfl rfl (show (merge re (((bitL k2) ||| (rdL (gB re 0) 40 k2)) &&& ((bitL (lowest (rdL (gB re 0) 40 k2))) ^^^ (-1))) (lowest (((bitL k2) ||| (rdL (gB re 0) 40 k2)) &&& ((bitL (lowest (rdL (gB re 0) 40 k2))) ^^^ (-1)))) false) = (apply re k1 k2) from (by first | (simp only [apply, apM, apC, rfC, if_neg c_10, decide_eq_false c_10, decide_eq_true c_10, if_pos c_10, if_pos c_42, decide_eq_true c_42, decide_eq_false (not_not_intro c_42), if_neg c_78, bf_of c_78, if_pos c_100, decide_eq_true c_100, decide_eq_false (not_not_intro c_100), if_neg c_118, bf_of c_118, gi_sl, gi_sA, gi_sB, gi_si_s, gi_si_n, gl_si, gl_sA, gl_sB, gl_sl_s, gl_sl_n, gA_si, gA_sl, gA_sB, gA_sA_s, gA_sA_n, gB_si, gB_sl, gB_sA, gB_sB_s, gB_sB_n, Nat.reduceBEq, if_true, if_false, eq_self, Bool.false_eq_true, reduceCtorEq, not_true_eq_false, not_false_eq_true, decide_true, decide_false, cond_true, cond_false, Bool.true_and, Bool.false_and, Bool.and_true, Bool.and_false, Bool.true_or, Bool.false_or, Bool.or_true, Bool.or_false, b2i_tt, b2i_ff]; done) | (simp only [apply, apM, apC, rfC, if_neg c_10, decide_eq_false c_10, decide_eq_true c_10, if_pos c_10, if_pos c_42, decide_eq_true c_42, decide_eq_false (not_not_intro c_42), if_neg c_78, bf_of c_78, if_pos c_100, decide_eq_true c_100, decide_eq_false (not_not_intro c_100), if_neg c_118, bf_of c_118, gi_sl, gi_sA, gi_sB, gi_si_s, gi_si_n, gl_si, gl_sA, gl_sB, gl_sl_s, gl_sl_n, gA_si, gA_sl, gA_sB, gA_sA_s, gA_sA_n, gB_si, gB_sl, gB_sA, gB_sB_s, gB_sB_n, Nat.reduceBEq, if_true, if_false, eq_self, Bool.false_eq_true, reduceCtorEq, not_true_eq_false, not_false_eq_true, decide_true, decide_false, cond_true, cond_false, Bool.true_and, Bool.false_and, Bool.and_true, Bool.and_false, Bool.true_or, Bool.false_or, Bool.or_true, Bool.or_false, b2i_tt, b2i_ff]; rfl) | (simp [apply, apM, apC, rfC, c_10, c_42, c_78, c_100, c_118, gi_sl, gi_sA, gi_sB, gi_si_s, gi_si_n, gl_si, gl_sA, gl_sB, gl_sl_s, gl_sl_n, gA_si, gA_sl, gA_sB, gA_sA_s, gA_sA_n, gB_si, gB_sl, gB_sA, gB_sB_s, gB_sB_n, Nat.reduceBEq]; done))) rfl rfl, ⟨by rw [ht]; exact hP, va_K.moved hW.alike hK, hD⟩⟩, hS.F ht⟩) hS.2.2 dX5_apply_141
          · have c_118 : (hs (rdL (gB re 0) 40 (lowest (rdL (gB re 0) 40 k2))) k2) = true := b2i_1 c_118
            refine lv_iconst (v := 1) hx hb dX5_apply_121 (by decide) ?_
            refine lv_goto (tgt := 126) hx hb dX5_apply_122 (by decide) ?_
            refine lv_istore (lv' := [(7, .int 1), (5, .long (((bitL k2) ||| (rdL (gB re 0) 40 k2)) &&& ((bitL (lowest (rdL (gB re 0) 40 k2))) ^^^ (-1)))), (8, .int (lowest ((rdL (gB re 0) 40 k2) &&& ((bitL (lowest (rdL (gB re 0) 40 k2))) ^^^ (-1))))), (3, .long (rdL (gB re 0) 40 k2)), (0, .ref (ad 5)), (1, .int k1), (2, .int k2)]) hx hb dX5_apply_126 hl (by decide) rfl (fun ls hl => ?_)
            refine lv_aload_n hx hb dX5_apply_128 rfl (lv_at hl 4 rfl) ?_
            refine lv_lload hx hb dX5_apply_129 (lv_at hl 1 rfl) ?_
            refine lv_lload hx hb dX5_apply_131 (lv_at hl 1 rfl) ?_
            refine kI (rSN hx hb hml hown hg hN hK hP hD (c_lowest l D cI cJ (XW ad cI cJ co fl ra li re wa pi) (((bitL k2) ||| (rdL (gB re 0) 40 k2)) &&& ((bitL (lowest (rdL (gB re 0) 40 k2))) ^^^ (-1)))) mw_74 nw_88 mw_76 mw_77 pd_X7_lowest ⟨Nat.le_of_ble_eq_true rfl, Nat.le_of_ble_eq_true rfl⟩ rfl hl.1 rfl (Nat.le_of_ble_eq_true rfl) dX5_apply_133 ⟨Nat.le_of_ble_eq_true rfl, Nat.le_of_ble_eq_true rfl⟩) hD hS hA (fun r_24 u_24 H locs hp hP hD hS => ?_)
            obtain ⟨er, eu⟩ := hp
            obtain rfl := er.symm
            obtain rfl := eu.symm
            refine lv_iload hx hb dX5_apply_136 (lv_at hl 0 rfl) ?_
            refine kV (rV (q0 := 5) (ci := 5) hx hb hml hown hg hN hK hP hD (c_merge l D cI cJ ad co fl ra li re wa pi (((bitL k2) ||| (rdL (gB re 0) 40 k2)) &&& ((bitL (lowest (rdL (gB re 0) 40 k2))) ^^^ (-1))) (lowest (((bitL k2) ||| (rdL (gB re 0) 40 k2)) &&& ((bitL (lowest (rdL (gB re 0) 40 k2))) ^^^ (-1)))) true) mw_180 mw_181 mw_182 mw_183 mw_173 pdv_X5_merge ⟨Nat.le_of_ble_eq_true rfl, Nat.le_of_ble_eq_true rfl⟩ rfl rfl rfl hl.1 rfl (Nat.le_of_ble_eq_true rfl) dX5_apply_138 ⟨Nat.le_of_ble_eq_true rfl, Nat.le_of_ble_eq_true rfl⟩) hD hS hA (fun u_25 H locs hp hP hD hS => ?_)
            obtain rfl := hp.symm
            have hP : va_P D vwCl (XW ad cI cJ co fl ra li (merge re (((bitL k2) ||| (rdL (gB re 0) 40 k2)) &&& ((bitL (lowest (rdL (gB re 0) 40 k2))) ^^^ (-1))) (lowest (((bitL k2) ||| (rdL (gB re 0) 40 k2)) &&& ((bitL (lowest (rdL (gB re 0) 40 k2))) ^^^ (-1)))) true) wa pi) H := hP
            have hD : va_D A (XW ad cI cJ co fl ra li (merge re (((bitL k2) ||| (rdL (gB re 0) 40 k2)) &&& ((bitL (lowest (rdL (gB re 0) 40 k2))) ^^^ (-1))) (lowest (((bitL k2) ||| (rdL (gB re 0) 40 k2)) &&& ((bitL (lowest (rdL (gB re 0) 40 k2))) ^^^ (-1)))) true) wa pi) := hD
            exact W.vret hx hb hr (fun t ht hW => ⟨⟨(XW ad cI cJ co fl ra li (merge re (((bitL k2) ||| (rdL (gB re 0) 40 k2)) &&& ((bitL (lowest (rdL (gB re 0) 40 k2))) ^^^ (-1))) (lowest (((bitL k2) ||| (rdL (gB re 0) 40 k2)) &&& ((bitL (lowest (rdL (gB re 0) 40 k2))) ^^^ (-1)))) true) wa pi), rfl, xw_eq rfl rfl rfl rfl (show (merge re (((bitL k2) ||| (rdL (gB re 0) 40 k2)) &&& ((bitL (lowest (rdL (gB re 0) 40 k2))) ^^^ (-1))) (lowest (((bitL k2) ||| (rdL (gB re 0) 40 k2)) &&& ((bitL (lowest (rdL (gB re 0) 40 k2))) ^^^ (-1)))) true) = (apply re k1 k2) from (by first | (simp only [apply, apM, apC, rfC, if_neg c_10, decide_eq_false c_10, decide_eq_true c_10, if_pos c_10, if_pos c_42, decide_eq_true c_42, decide_eq_false (not_not_intro c_42), if_neg c_78, bf_of c_78, if_pos c_100, decide_eq_true c_100, decide_eq_false (not_not_intro c_100), if_pos c_118, c_118, gi_sl, gi_sA, gi_sB, gi_si_s, gi_si_n, gl_si, gl_sA, gl_sB, gl_sl_s, gl_sl_n, gA_si, gA_sl, gA_sB, gA_sA_s, gA_sA_n, gB_si, gB_sl, gB_sA, gB_sB_s, gB_sB_n, Nat.reduceBEq, if_true, if_false, eq_self, Bool.false_eq_true, reduceCtorEq, not_true_eq_false, not_false_eq_true, decide_true, decide_false, cond_true, cond_false, Bool.true_and, Bool.false_and, Bool.and_true, Bool.and_false, Bool.true_or, Bool.false_or, Bool.or_true, Bool.or_false, b2i_tt, b2i_ff]; done) | (simp only [apply, apM, apC, rfC, if_neg c_10, decide_eq_false c_10, decide_eq_true c_10, if_pos c_10, if_pos c_42, decide_eq_true c_42, decide_eq_false (not_not_intro c_42), if_neg c_78, bf_of c_78, if_pos c_100, decide_eq_true c_100, decide_eq_false (not_not_intro c_100), if_pos c_118, c_118, gi_sl, gi_sA, gi_sB, gi_si_s, gi_si_n, gl_si, gl_sA, gl_sB, gl_sl_s, gl_sl_n, gA_si, gA_sl, gA_sB, gA_sA_s, gA_sA_n, gB_si, gB_sl, gB_sA, gB_sB_s, gB_sB_n, Nat.reduceBEq, if_true, if_false, eq_self, Bool.false_eq_true, reduceCtorEq, not_true_eq_false, not_false_eq_true, decide_true, decide_false, cond_true, cond_false, Bool.true_and, Bool.false_and, Bool.and_true, Bool.and_false, Bool.true_or, Bool.false_or, Bool.or_true, Bool.or_false, b2i_tt, b2i_ff]; rfl) | (simp [apply, apM, apC, rfC, c_10, c_42, c_78, c_100, c_118, gi_sl, gi_sA, gi_sB, gi_si_s, gi_si_n, gl_si, gl_sA, gl_sB, gl_sl_s, gl_sl_n, gA_si, gA_sl, gA_sB, gA_sA_s, gA_sA_n, gB_si, gB_sl, gB_sA, gB_sB_s, gB_sB_n, Nat.reduceBEq]; done))) rfl rfl, ⟨by rw [ht]; exact hP, va_K.moved hW.alike hK, hD⟩⟩, hS.F ht⟩) hS.2.2 dX5_apply_141
      · have c_78 : (isSingle re k2 (lowest (rdL (gB re 0) 40 k2)) (lowest ((rdL (gB re 0) 40 k2) &&& ((bitL (lowest (rdL (gB re 0) 40 k2))) ^^^ (-1))))) = true := b2i_1 c_78
        refine lv_iload hx hb dX5_apply_81 (lv_at hl 0 rfl) ?_
        refine lv_goto (tgt := 88) hx hb dX5_apply_83 (by decide) ?_
        refine kL (rSN hx hb hml hown hg hN hK hP hD (c_bit l D cI cJ (XW ad cI cJ co fl ra li re wa pi) (lowest ((rdL (gB re 0) 40 k2) &&& ((bitL (lowest (rdL (gB re 0) 40 k2))) ^^^ (-1))))) mw_78 nw_87 mw_80 mw_77 pd_X7_bit ⟨Nat.le_of_ble_eq_true rfl, Nat.le_of_ble_eq_true rfl⟩ rfl hl.1 rfl (Nat.le_of_ble_eq_true rfl) dX5_apply_88 ⟨Nat.le_of_ble_eq_true rfl, Nat.le_of_ble_eq_true rfl⟩) hD hS hA (fun r_26 u_26 H locs hp hP hD hS => ?_)
        obtain ⟨er, eu⟩ := hp
        obtain rfl := er.symm
        obtain rfl := eu.symm
        refine lv_ldc2 (v := (-1)) hx hb hown (hg _ mw_168) dX5_apply_91 ?_
        refine lv_lxor hx hb dX5_apply_94 ?_
        refine lv_land hx hb dX5_apply_95 ?_
        refine lv_lstore (lv' := [(5, .long (((bitL k2) ||| (rdL (gB re 0) 40 k2)) &&& ((bitL (lowest ((rdL (gB re 0) 40 k2) &&& ((bitL (lowest (rdL (gB re 0) 40 k2))) ^^^ (-1))))) ^^^ (-1)))), (8, .int (lowest ((rdL (gB re 0) 40 k2) &&& ((bitL (lowest (rdL (gB re 0) 40 k2))) ^^^ (-1))))), (7, .int (lowest (rdL (gB re 0) 40 k2))), (3, .long (rdL (gB re 0) 40 k2)), (0, .ref (ad 5)), (1, .int k1), (2, .int k2)]) hx hb dX5_apply_96 hl (by decide) rfl (fun ls hl => ?_)
        refine lv_iload_n hx hb dX5_apply_98 rfl (lv_at hl 5 rfl) ?_
        refine lv_iconst (v := 1) hx hb dX5_apply_99 (by decide) ?_
        refine lv_icmp_ne (tgt := 125) hx hb dX5_apply_100 (by decide) (fun c_100 => ?_) (fun c_100 => ?_)
        · refine lv_iconst (v := 0) hx hb dX5_apply_125 (by decide) ?_
          refine lv_istore (lv' := [(7, .int 0), (5, .long (((bitL k2) ||| (rdL (gB re 0) 40 k2)) &&& ((bitL (lowest ((rdL (gB re 0) 40 k2) &&& ((bitL (lowest (rdL (gB re 0) 40 k2))) ^^^ (-1))))) ^^^ (-1)))), (8, .int (lowest ((rdL (gB re 0) 40 k2) &&& ((bitL (lowest (rdL (gB re 0) 40 k2))) ^^^ (-1))))), (3, .long (rdL (gB re 0) 40 k2)), (0, .ref (ad 5)), (1, .int k1), (2, .int k2)]) hx hb dX5_apply_126 hl (by decide) rfl (fun ls hl => ?_)
          refine lv_aload_n hx hb dX5_apply_128 rfl (lv_at hl 4 rfl) ?_
          refine lv_lload hx hb dX5_apply_129 (lv_at hl 1 rfl) ?_
          refine lv_lload hx hb dX5_apply_131 (lv_at hl 1 rfl) ?_
          refine kI (rSN hx hb hml hown hg hN hK hP hD (c_lowest l D cI cJ (XW ad cI cJ co fl ra li re wa pi) (((bitL k2) ||| (rdL (gB re 0) 40 k2)) &&& ((bitL (lowest ((rdL (gB re 0) 40 k2) &&& ((bitL (lowest (rdL (gB re 0) 40 k2))) ^^^ (-1))))) ^^^ (-1)))) mw_74 nw_88 mw_76 mw_77 pd_X7_lowest ⟨Nat.le_of_ble_eq_true rfl, Nat.le_of_ble_eq_true rfl⟩ rfl hl.1 rfl (Nat.le_of_ble_eq_true rfl) dX5_apply_133 ⟨Nat.le_of_ble_eq_true rfl, Nat.le_of_ble_eq_true rfl⟩) hD hS hA (fun r_27 u_27 H locs hp hP hD hS => ?_)
          obtain ⟨er, eu⟩ := hp
          obtain rfl := er.symm
          obtain rfl := eu.symm
          refine lv_iload hx hb dX5_apply_136 (lv_at hl 0 rfl) ?_
          refine kV (rV (q0 := 5) (ci := 5) hx hb hml hown hg hN hK hP hD (c_merge l D cI cJ ad co fl ra li re wa pi (((bitL k2) ||| (rdL (gB re 0) 40 k2)) &&& ((bitL (lowest ((rdL (gB re 0) 40 k2) &&& ((bitL (lowest (rdL (gB re 0) 40 k2))) ^^^ (-1))))) ^^^ (-1))) (lowest (((bitL k2) ||| (rdL (gB re 0) 40 k2)) &&& ((bitL (lowest ((rdL (gB re 0) 40 k2) &&& ((bitL (lowest (rdL (gB re 0) 40 k2))) ^^^ (-1))))) ^^^ (-1)))) false) mw_180 mw_181 mw_182 mw_183 mw_173 pdv_X5_merge ⟨Nat.le_of_ble_eq_true rfl, Nat.le_of_ble_eq_true rfl⟩ rfl rfl rfl hl.1 rfl (Nat.le_of_ble_eq_true rfl) dX5_apply_138 ⟨Nat.le_of_ble_eq_true rfl, Nat.le_of_ble_eq_true rfl⟩) hD hS hA (fun u_28 H locs hp hP hD hS => ?_)
          obtain rfl := hp.symm
          have hP : va_P D vwCl (XW ad cI cJ co fl ra li (merge re (((bitL k2) ||| (rdL (gB re 0) 40 k2)) &&& ((bitL (lowest ((rdL (gB re 0) 40 k2) &&& ((bitL (lowest (rdL (gB re 0) 40 k2))) ^^^ (-1))))) ^^^ (-1))) (lowest (((bitL k2) ||| (rdL (gB re 0) 40 k2)) &&& ((bitL (lowest ((rdL (gB re 0) 40 k2) &&& ((bitL (lowest (rdL (gB re 0) 40 k2))) ^^^ (-1))))) ^^^ (-1)))) false) wa pi) H := hP
          have hD : va_D A (XW ad cI cJ co fl ra li (merge re (((bitL k2) ||| (rdL (gB re 0) 40 k2)) &&& ((bitL (lowest ((rdL (gB re 0) 40 k2) &&& ((bitL (lowest (rdL (gB re 0) 40 k2))) ^^^ (-1))))) ^^^ (-1))) (lowest (((bitL k2) ||| (rdL (gB re 0) 40 k2)) &&& ((bitL (lowest ((rdL (gB re 0) 40 k2) &&& ((bitL (lowest (rdL (gB re 0) 40 k2))) ^^^ (-1))))) ^^^ (-1)))) false) wa pi) := hD
          exact W.vret hx hb hr (fun t ht hW => ⟨⟨(XW ad cI cJ co fl ra li (merge re (((bitL k2) ||| (rdL (gB re 0) 40 k2)) &&& ((bitL (lowest ((rdL (gB re 0) 40 k2) &&& ((bitL (lowest (rdL (gB re 0) 40 k2))) ^^^ (-1))))) ^^^ (-1))) (lowest (((bitL k2) ||| (rdL (gB re 0) 40 k2)) &&& ((bitL (lowest ((rdL (gB re 0) 40 k2) &&& ((bitL (lowest (rdL (gB re 0) 40 k2))) ^^^ (-1))))) ^^^ (-1)))) false) wa pi), rfl, xw_eq rfl rfl rfl rfl (show (merge re (((bitL k2) ||| (rdL (gB re 0) 40 k2)) &&& ((bitL (lowest ((rdL (gB re 0) 40 k2) &&& ((bitL (lowest (rdL (gB re 0) 40 k2))) ^^^ (-1))))) ^^^ (-1))) (lowest (((bitL k2) ||| (rdL (gB re 0) 40 k2)) &&& ((bitL (lowest ((rdL (gB re 0) 40 k2) &&& ((bitL (lowest (rdL (gB re 0) 40 k2))) ^^^ (-1))))) ^^^ (-1)))) false) = (apply re k1 k2) from (by first | (simp only [apply, apM, apC, rfC, if_neg c_10, decide_eq_false c_10, decide_eq_true c_10, if_pos c_10, if_pos c_42, decide_eq_true c_42, decide_eq_false (not_not_intro c_42), if_pos c_78, c_78, if_neg c_100, decide_eq_false c_100, decide_eq_true c_100, if_pos c_100, gi_sl, gi_sA, gi_sB, gi_si_s, gi_si_n, gl_si, gl_sA, gl_sB, gl_sl_s, gl_sl_n, gA_si, gA_sl, gA_sB, gA_sA_s, gA_sA_n, gB_si, gB_sl, gB_sA, gB_sB_s, gB_sB_n, Nat.reduceBEq, if_true, if_false, eq_self, Bool.false_eq_true, reduceCtorEq, not_true_eq_false, not_false_eq_true, decide_true, decide_false, cond_true, cond_false, Bool.true_and, Bool.false_and, Bool.and_true, Bool.and_false, Bool.true_or, Bool.false_or, Bool.or_true, Bool.or_false, b2i_tt, b2i_ff]; done) | (simp only [apply, apM, apC, rfC, if_neg c_10, decide_eq_false c_10, decide_eq_true c_10, if_pos c_10, if_pos c_42, decide_eq_true c_42, decide_eq_false (not_not_intro c_42), if_pos c_78, c_78, if_neg c_100, decide_eq_false c_100, decide_eq_true c_100, if_pos c_100, gi_sl, gi_sA, gi_sB, gi_si_s, gi_si_n, gl_si, gl_sA, gl_sB, gl_sl_s, gl_sl_n, gA_si, gA_sl, gA_sB, gA_sA_s, gA_sA_n, gB_si, gB_sl, gB_sA, gB_sB_s, gB_sB_n, Nat.reduceBEq, if_true, if_false, eq_self, Bool.false_eq_true, reduceCtorEq, not_true_eq_false, not_false_eq_true, decide_true, decide_false, cond_true, cond_false, Bool.true_and, Bool.false_and, Bool.and_true, Bool.and_false, Bool.true_or, Bool.false_or, Bool.or_true, Bool.or_false, b2i_tt, b2i_ff]; rfl) | (simp [apply, apM, apC, rfC, c_10, c_42, c_78, c_100, gi_sl, gi_sA, gi_sB, gi_si_s, gi_si_n, gl_si, gl_sA, gl_sB, gl_sl_s, gl_sl_n, gA_si, gA_sl, gA_sB, gA_sA_s, gA_sA_n, gB_si, gB_sl, gB_sA, gB_sB_s, gB_sB_n, Nat.reduceBEq]; done))) rfl rfl, ⟨by rw [ht]; exact hP, va_K.moved hW.alike hK, hD⟩⟩, hS.F ht⟩) hS.2.2 dX5_apply_141
        · refine lv_aload_n hx hb dX5_apply_103 rfl (lv_at hl 4 rfl) ?_
          refine va_get (D := D) (ci := 5) (v := .ref (ad 24)) (C := RX5) (T := TX5) (N := 8) hx hb hg inGX5 hown hK hP 5 rfl rfl 0 (by decide) (hg _ mw_166) (fun _ h9 => h9) rfl dX5_apply_104 ?_
          refine lv_lload_n hx hb dX5_apply_107 rfl (lv_at hl 3 rfl) ?_
          refine kI (rSN hx hb hml hown hg hN hK hP hD (c_lowest l D cI cJ (XW ad cI cJ co fl ra li re wa pi) (rdL (gB re 0) 40 k2)) mw_74 nw_88 mw_76 mw_77 pd_X7_lowest ⟨Nat.le_of_ble_eq_true rfl, Nat.le_of_ble_eq_true rfl⟩ rfl hl.1 rfl (Nat.le_of_ble_eq_true rfl) dX5_apply_108 ⟨Nat.le_of_ble_eq_true rfl, Nat.le_of_ble_eq_true rfl⟩) hD hS hA (fun r_29 u_29 H locs hp hP hD hS => ?_)
          obtain ⟨er, eu⟩ := hp
          obtain rfl := er.symm
          obtain rfl := eu.symm
          refine kL (rSN hx hb hml hown hg hN hK hP hD (c_atL l D cI cJ (XW ad cI cJ co fl ra li re wa pi) 24 (ad 24) 40 (gB re 0) (lowest (rdL (gB re 0) 40 k2)) rfl (by decide)) mw_81 nw_84 mw_83 mw_77 pd_X7_at_ ⟨Nat.le_of_ble_eq_true rfl, Nat.le_of_ble_eq_true rfl⟩ rfl hl.1 rfl (Nat.le_of_ble_eq_true rfl) dX5_apply_111 ⟨Nat.le_of_ble_eq_true rfl, Nat.le_of_ble_eq_true rfl⟩) hD hS hA (fun r_30 u_30 H locs hp hP hD hS => ?_)
          obtain ⟨er, eu⟩ := hp
          obtain rfl := er.symm
          obtain rfl := eu.symm
          refine lv_iload_n hx hb dX5_apply_114 rfl (lv_at hl 6 rfl) ?_
          refine kI (rSN hx hb hml hown hg hN hK hP hD (c_has l D cI cJ (XW ad cI cJ co fl ra li re wa pi) (rdL (gB re 0) 40 (lowest (rdL (gB re 0) 40 k2))) k2) mw_89 nw_83 mw_90 mw_77 pd_X7_has ⟨Nat.le_of_ble_eq_true rfl, Nat.le_of_ble_eq_true rfl⟩ rfl hl.1 rfl (Nat.le_of_ble_eq_true rfl) dX5_apply_115 ⟨Nat.le_of_ble_eq_true rfl, Nat.le_of_ble_eq_true rfl⟩) hD hS hA (fun r_31 u_31 H locs hp hP hD hS => ?_)
          obtain ⟨er, eu⟩ := hp
          obtain rfl := er.symm
          obtain rfl := eu.symm
          refine lv_if_eq (tgt := 125) hx hb dX5_apply_118 (by decide) (fun c_118 => ?_) (fun c_118 => ?_)
          · have c_118 : ¬ (hs (rdL (gB re 0) 40 (lowest (rdL (gB re 0) 40 k2))) k2) = true := b2i_0 c_118
            refine lv_iconst (v := 0) hx hb dX5_apply_125 (by decide) ?_
            refine lv_istore (lv' := [(7, .int 0), (5, .long (((bitL k2) ||| (rdL (gB re 0) 40 k2)) &&& ((bitL (lowest ((rdL (gB re 0) 40 k2) &&& ((bitL (lowest (rdL (gB re 0) 40 k2))) ^^^ (-1))))) ^^^ (-1)))), (8, .int (lowest ((rdL (gB re 0) 40 k2) &&& ((bitL (lowest (rdL (gB re 0) 40 k2))) ^^^ (-1))))), (3, .long (rdL (gB re 0) 40 k2)), (0, .ref (ad 5)), (1, .int k1), (2, .int k2)]) hx hb dX5_apply_126 hl (by decide) rfl (fun ls hl => ?_)
            refine lv_aload_n hx hb dX5_apply_128 rfl (lv_at hl 4 rfl) ?_
            refine lv_lload hx hb dX5_apply_129 (lv_at hl 1 rfl) ?_
            refine lv_lload hx hb dX5_apply_131 (lv_at hl 1 rfl) ?_
            refine kI (rSN hx hb hml hown hg hN hK hP hD (c_lowest l D cI cJ (XW ad cI cJ co fl ra li re wa pi) (((bitL k2) ||| (rdL (gB re 0) 40 k2)) &&& ((bitL (lowest ((rdL (gB re 0) 40 k2) &&& ((bitL (lowest (rdL (gB re 0) 40 k2))) ^^^ (-1))))) ^^^ (-1)))) mw_74 nw_88 mw_76 mw_77 pd_X7_lowest ⟨Nat.le_of_ble_eq_true rfl, Nat.le_of_ble_eq_true rfl⟩ rfl hl.1 rfl (Nat.le_of_ble_eq_true rfl) dX5_apply_133 ⟨Nat.le_of_ble_eq_true rfl, Nat.le_of_ble_eq_true rfl⟩) hD hS hA (fun r_32 u_32 H locs hp hP hD hS => ?_)
            obtain ⟨er, eu⟩ := hp
            obtain rfl := er.symm
            obtain rfl := eu.symm
            refine lv_iload hx hb dX5_apply_136 (lv_at hl 0 rfl) ?_
            refine kV (rV (q0 := 5) (ci := 5) hx hb hml hown hg hN hK hP hD (c_merge l D cI cJ ad co fl ra li re wa pi (((bitL k2) ||| (rdL (gB re 0) 40 k2)) &&& ((bitL (lowest ((rdL (gB re 0) 40 k2) &&& ((bitL (lowest (rdL (gB re 0) 40 k2))) ^^^ (-1))))) ^^^ (-1))) (lowest (((bitL k2) ||| (rdL (gB re 0) 40 k2)) &&& ((bitL (lowest ((rdL (gB re 0) 40 k2) &&& ((bitL (lowest (rdL (gB re 0) 40 k2))) ^^^ (-1))))) ^^^ (-1)))) false) mw_180 mw_181 mw_182 mw_183 mw_173 pdv_X5_merge ⟨Nat.le_of_ble_eq_true rfl, Nat.le_of_ble_eq_true rfl⟩ rfl rfl rfl hl.1 rfl (Nat.le_of_ble_eq_true rfl) dX5_apply_138 ⟨Nat.le_of_ble_eq_true rfl, Nat.le_of_ble_eq_true rfl⟩) hD hS hA (fun u_33 H locs hp hP hD hS => ?_)
            obtain rfl := hp.symm
            have hP : va_P D vwCl (XW ad cI cJ co fl ra li (merge re (((bitL k2) ||| (rdL (gB re 0) 40 k2)) &&& ((bitL (lowest ((rdL (gB re 0) 40 k2) &&& ((bitL (lowest (rdL (gB re 0) 40 k2))) ^^^ (-1))))) ^^^ (-1))) (lowest (((bitL k2) ||| (rdL (gB re 0) 40 k2)) &&& ((bitL (lowest ((rdL (gB re 0) 40 k2) &&& ((bitL (lowest (rdL (gB re 0) 40 k2))) ^^^ (-1))))) ^^^ (-1)))) false) wa pi) H := hP
            have hD : va_D A (XW ad cI cJ co fl ra li (merge re (((bitL k2) ||| (rdL (gB re 0) 40 k2)) &&& ((bitL (lowest ((rdL (gB re 0) 40 k2) &&& ((bitL (lowest (rdL (gB re 0) 40 k2))) ^^^ (-1))))) ^^^ (-1))) (lowest (((bitL k2) ||| (rdL (gB re 0) 40 k2)) &&& ((bitL (lowest ((rdL (gB re 0) 40 k2) &&& ((bitL (lowest (rdL (gB re 0) 40 k2))) ^^^ (-1))))) ^^^ (-1)))) false) wa pi) := hD
            exact W.vret hx hb hr (fun t ht hW => ⟨⟨(XW ad cI cJ co fl ra li (merge re (((bitL k2) ||| (rdL (gB re 0) 40 k2)) &&& ((bitL (lowest ((rdL (gB re 0) 40 k2) &&& ((bitL (lowest (rdL (gB re 0) 40 k2))) ^^^ (-1))))) ^^^ (-1))) (lowest (((bitL k2) ||| (rdL (gB re 0) 40 k2)) &&& ((bitL (lowest ((rdL (gB re 0) 40 k2) &&& ((bitL (lowest (rdL (gB re 0) 40 k2))) ^^^ (-1))))) ^^^ (-1)))) false) wa pi), rfl, xw_eq rfl rfl rfl rfl (show (merge re (((bitL k2) ||| (rdL (gB re 0) 40 k2)) &&& ((bitL (lowest ((rdL (gB re 0) 40 k2) &&& ((bitL (lowest (rdL (gB re 0) 40 k2))) ^^^ (-1))))) ^^^ (-1))) (lowest (((bitL k2) ||| (rdL (gB re 0) 40 k2)) &&& ((bitL (lowest ((rdL (gB re 0) 40 k2) &&& ((bitL (lowest (rdL (gB re 0) 40 k2))) ^^^ (-1))))) ^^^ (-1)))) false) = (apply re k1 k2) from (by first | (simp only [apply, apM, apC, rfC, if_neg c_10, decide_eq_false c_10, decide_eq_true c_10, if_pos c_10, if_pos c_42, decide_eq_true c_42, decide_eq_false (not_not_intro c_42), if_pos c_78, c_78, if_pos c_100, decide_eq_true c_100, decide_eq_false (not_not_intro c_100), if_neg c_118, bf_of c_118, gi_sl, gi_sA, gi_sB, gi_si_s, gi_si_n, gl_si, gl_sA, gl_sB, gl_sl_s, gl_sl_n, gA_si, gA_sl, gA_sB, gA_sA_s, gA_sA_n, gB_si, gB_sl, gB_sA, gB_sB_s, gB_sB_n, Nat.reduceBEq, if_true, if_false, eq_self, Bool.false_eq_true, reduceCtorEq, not_true_eq_false, not_false_eq_true, decide_true, decide_false, cond_true, cond_false, Bool.true_and, Bool.false_and, Bool.and_true, Bool.and_false, Bool.true_or, Bool.false_or, Bool.or_true, Bool.or_false, b2i_tt, b2i_ff]; done) | (simp only [apply, apM, apC, rfC, if_neg c_10, decide_eq_false c_10, decide_eq_true c_10, if_pos c_10, if_pos c_42, decide_eq_true c_42, decide_eq_false (not_not_intro c_42), if_pos c_78, c_78, if_pos c_100, decide_eq_true c_100, decide_eq_false (not_not_intro c_100), if_neg c_118, bf_of c_118, gi_sl, gi_sA, gi_sB, gi_si_s, gi_si_n, gl_si, gl_sA, gl_sB, gl_sl_s, gl_sl_n, gA_si, gA_sl, gA_sB, gA_sA_s, gA_sA_n, gB_si, gB_sl, gB_sA, gB_sB_s, gB_sB_n, Nat.reduceBEq, if_true, if_false, eq_self, Bool.false_eq_true, reduceCtorEq, not_true_eq_false, not_false_eq_true, decide_true, decide_false, cond_true, cond_false, Bool.true_and, Bool.false_and, Bool.and_true, Bool.and_false, Bool.true_or, Bool.false_or, Bool.or_true, Bool.or_false, b2i_tt, b2i_ff]; rfl) | (simp [apply, apM, apC, rfC, c_10, c_42, c_78, c_100, c_118, gi_sl, gi_sA, gi_sB, gi_si_s, gi_si_n, gl_si, gl_sA, gl_sB, gl_sl_s, gl_sl_n, gA_si, gA_sl, gA_sB, gA_sA_s, gA_sA_n, gB_si, gB_sl, gB_sA, gB_sB_s, gB_sB_n, Nat.reduceBEq]; done))) rfl rfl, ⟨by rw [ht]; exact hP, va_K.moved hW.alike hK, hD⟩⟩, hS.F ht⟩) hS.2.2 dX5_apply_141
          · have c_118 : (hs (rdL (gB re 0) 40 (lowest (rdL (gB re 0) 40 k2))) k2) = true := b2i_1 c_118
            refine lv_iconst (v := 1) hx hb dX5_apply_121 (by decide) ?_
            refine lv_goto (tgt := 126) hx hb dX5_apply_122 (by decide) ?_
            refine lv_istore (lv' := [(7, .int 1), (5, .long (((bitL k2) ||| (rdL (gB re 0) 40 k2)) &&& ((bitL (lowest ((rdL (gB re 0) 40 k2) &&& ((bitL (lowest (rdL (gB re 0) 40 k2))) ^^^ (-1))))) ^^^ (-1)))), (8, .int (lowest ((rdL (gB re 0) 40 k2) &&& ((bitL (lowest (rdL (gB re 0) 40 k2))) ^^^ (-1))))), (3, .long (rdL (gB re 0) 40 k2)), (0, .ref (ad 5)), (1, .int k1), (2, .int k2)]) hx hb dX5_apply_126 hl (by decide) rfl (fun ls hl => ?_)
            refine lv_aload_n hx hb dX5_apply_128 rfl (lv_at hl 4 rfl) ?_
            refine lv_lload hx hb dX5_apply_129 (lv_at hl 1 rfl) ?_
            refine lv_lload hx hb dX5_apply_131 (lv_at hl 1 rfl) ?_
            refine kI (rSN hx hb hml hown hg hN hK hP hD (c_lowest l D cI cJ (XW ad cI cJ co fl ra li re wa pi) (((bitL k2) ||| (rdL (gB re 0) 40 k2)) &&& ((bitL (lowest ((rdL (gB re 0) 40 k2) &&& ((bitL (lowest (rdL (gB re 0) 40 k2))) ^^^ (-1))))) ^^^ (-1)))) mw_74 nw_88 mw_76 mw_77 pd_X7_lowest ⟨Nat.le_of_ble_eq_true rfl, Nat.le_of_ble_eq_true rfl⟩ rfl hl.1 rfl (Nat.le_of_ble_eq_true rfl) dX5_apply_133 ⟨Nat.le_of_ble_eq_true rfl, Nat.le_of_ble_eq_true rfl⟩) hD hS hA (fun r_34 u_34 H locs hp hP hD hS => ?_)
            obtain ⟨er, eu⟩ := hp
            obtain rfl := er.symm
            obtain rfl := eu.symm
            refine lv_iload hx hb dX5_apply_136 (lv_at hl 0 rfl) ?_
            refine kV (rV (q0 := 5) (ci := 5) hx hb hml hown hg hN hK hP hD (c_merge l D cI cJ ad co fl ra li re wa pi (((bitL k2) ||| (rdL (gB re 0) 40 k2)) &&& ((bitL (lowest ((rdL (gB re 0) 40 k2) &&& ((bitL (lowest (rdL (gB re 0) 40 k2))) ^^^ (-1))))) ^^^ (-1))) (lowest (((bitL k2) ||| (rdL (gB re 0) 40 k2)) &&& ((bitL (lowest ((rdL (gB re 0) 40 k2) &&& ((bitL (lowest (rdL (gB re 0) 40 k2))) ^^^ (-1))))) ^^^ (-1)))) true) mw_180 mw_181 mw_182 mw_183 mw_173 pdv_X5_merge ⟨Nat.le_of_ble_eq_true rfl, Nat.le_of_ble_eq_true rfl⟩ rfl rfl rfl hl.1 rfl (Nat.le_of_ble_eq_true rfl) dX5_apply_138 ⟨Nat.le_of_ble_eq_true rfl, Nat.le_of_ble_eq_true rfl⟩) hD hS hA (fun u_35 H locs hp hP hD hS => ?_)
            obtain rfl := hp.symm
            have hP : va_P D vwCl (XW ad cI cJ co fl ra li (merge re (((bitL k2) ||| (rdL (gB re 0) 40 k2)) &&& ((bitL (lowest ((rdL (gB re 0) 40 k2) &&& ((bitL (lowest (rdL (gB re 0) 40 k2))) ^^^ (-1))))) ^^^ (-1))) (lowest (((bitL k2) ||| (rdL (gB re 0) 40 k2)) &&& ((bitL (lowest ((rdL (gB re 0) 40 k2) &&& ((bitL (lowest (rdL (gB re 0) 40 k2))) ^^^ (-1))))) ^^^ (-1)))) true) wa pi) H := hP
            have hD : va_D A (XW ad cI cJ co fl ra li (merge re (((bitL k2) ||| (rdL (gB re 0) 40 k2)) &&& ((bitL (lowest ((rdL (gB re 0) 40 k2) &&& ((bitL (lowest (rdL (gB re 0) 40 k2))) ^^^ (-1))))) ^^^ (-1))) (lowest (((bitL k2) ||| (rdL (gB re 0) 40 k2)) &&& ((bitL (lowest ((rdL (gB re 0) 40 k2) &&& ((bitL (lowest (rdL (gB re 0) 40 k2))) ^^^ (-1))))) ^^^ (-1)))) true) wa pi) := hD
            exact W.vret hx hb hr (fun t ht hW => ⟨⟨(XW ad cI cJ co fl ra li (merge re (((bitL k2) ||| (rdL (gB re 0) 40 k2)) &&& ((bitL (lowest ((rdL (gB re 0) 40 k2) &&& ((bitL (lowest (rdL (gB re 0) 40 k2))) ^^^ (-1))))) ^^^ (-1))) (lowest (((bitL k2) ||| (rdL (gB re 0) 40 k2)) &&& ((bitL (lowest ((rdL (gB re 0) 40 k2) &&& ((bitL (lowest (rdL (gB re 0) 40 k2))) ^^^ (-1))))) ^^^ (-1)))) true) wa pi), rfl, xw_eq rfl rfl rfl rfl (show (merge re (((bitL k2) ||| (rdL (gB re 0) 40 k2)) &&& ((bitL (lowest ((rdL (gB re 0) 40 k2) &&& ((bitL (lowest (rdL (gB re 0) 40 k2))) ^^^ (-1))))) ^^^ (-1))) (lowest (((bitL k2) ||| (rdL (gB re 0) 40 k2)) &&& ((bitL (lowest ((rdL (gB re 0) 40 k2) &&& ((bitL (lowest (rdL (gB re 0) 40 k2))) ^^^ (-1))))) ^^^ (-1)))) true) = (apply re k1 k2) from (by first | (simp only [apply, apM, apC, rfC, if_neg c_10, decide_eq_false c_10, decide_eq_true c_10, if_pos c_10, if_pos c_42, decide_eq_true c_42, decide_eq_false (not_not_intro c_42), if_pos c_78, c_78, if_pos c_100, decide_eq_true c_100, decide_eq_false (not_not_intro c_100), if_pos c_118, c_118, gi_sl, gi_sA, gi_sB, gi_si_s, gi_si_n, gl_si, gl_sA, gl_sB, gl_sl_s, gl_sl_n, gA_si, gA_sl, gA_sB, gA_sA_s, gA_sA_n, gB_si, gB_sl, gB_sA, gB_sB_s, gB_sB_n, Nat.reduceBEq, if_true, if_false, eq_self, Bool.false_eq_true, reduceCtorEq, not_true_eq_false, not_false_eq_true, decide_true, decide_false, cond_true, cond_false, Bool.true_and, Bool.false_and, Bool.and_true, Bool.and_false, Bool.true_or, Bool.false_or, Bool.or_true, Bool.or_false, b2i_tt, b2i_ff]; done) | (simp only [apply, apM, apC, rfC, if_neg c_10, decide_eq_false c_10, decide_eq_true c_10, if_pos c_10, if_pos c_42, decide_eq_true c_42, decide_eq_false (not_not_intro c_42), if_pos c_78, c_78, if_pos c_100, decide_eq_true c_100, decide_eq_false (not_not_intro c_100), if_pos c_118, c_118, gi_sl, gi_sA, gi_sB, gi_si_s, gi_si_n, gl_si, gl_sA, gl_sB, gl_sl_s, gl_sl_n, gA_si, gA_sl, gA_sB, gA_sA_s, gA_sA_n, gB_si, gB_sl, gB_sA, gB_sB_s, gB_sB_n, Nat.reduceBEq, if_true, if_false, eq_self, Bool.false_eq_true, reduceCtorEq, not_true_eq_false, not_false_eq_true, decide_true, decide_false, cond_true, cond_false, Bool.true_and, Bool.false_and, Bool.and_true, Bool.and_false, Bool.true_or, Bool.false_or, Bool.or_true, Bool.or_false, b2i_tt, b2i_ff]; rfl) | (simp [apply, apM, apC, rfC, c_10, c_42, c_78, c_100, c_118, gi_sl, gi_sA, gi_sB, gi_si_s, gi_si_n, gl_si, gl_sA, gl_sB, gl_sl_s, gl_sl_n, gA_si, gA_sl, gA_sB, gA_sA_s, gA_sA_n, gB_si, gB_sl, gB_sA, gB_sB_s, gB_sB_n, Nat.reduceBEq]; done))) rfl rfl, ⟨by rw [ht]; exact hP, va_K.moved hW.alike hK, hD⟩⟩, hS.F ht⟩) hS.2.2 dX5_apply_141
  · refine lv_aload_n hx hb dX5_apply_13 rfl (lv_at hl 1 rfl) ?_
    refine va_get (D := D) (ci := 5) (v := .ref (ad 24)) (C := RX5) (T := TX5) (N := 8) hx hb hg inGX5 hown hK hP 5 rfl rfl 0 (by decide) (hg _ mw_166) (fun _ h9 => h9) rfl dX5_apply_14 ?_
    refine lv_iload_n hx hb dX5_apply_17 rfl (lv_at hl 3 rfl) ?_
    refine lv_lload_n hx hb dX5_apply_18 rfl (lv_at hl 0 rfl) ?_
    refine lv_iload_n hx hb dX5_apply_19 rfl (lv_at hl 3 rfl) ?_
    refine kL (rSN hx hb hml hown hg hN hK hP hD (c_bit l D cI cJ (XW ad cI cJ co fl ra li re wa pi) k2) mw_78 nw_87 mw_80 mw_77 pd_X7_bit ⟨Nat.le_of_ble_eq_true rfl, Nat.le_of_ble_eq_true rfl⟩ rfl hl.1 rfl (Nat.le_of_ble_eq_true rfl) dX5_apply_20 ⟨Nat.le_of_ble_eq_true rfl, Nat.le_of_ble_eq_true rfl⟩) hD hS hA (fun r_36 u_36 H locs hp hP hD hS => ?_)
    obtain ⟨er, eu⟩ := hp
    obtain rfl := er.symm
    obtain rfl := eu.symm
    refine lv_ldc2 (v := (-1)) hx hb hown (hg _ mw_168) dX5_apply_23 ?_
    refine lv_lxor hx hb dX5_apply_26 ?_
    refine lv_land hx hb dX5_apply_27 ?_
    refine kV (rSN hx hb hml hown hg hN hK hP hD (c_putL l D cI cJ (XW ad cI cJ co fl ra li re wa pi) 24 (ad 24) 40 (gB re 0) k2 ((rdL (gB re 0) 40 k2) &&& ((bitL k2) ^^^ (-1))) rfl (by decide)) mw_97 nw_85 mw_98 mw_77 pd_X7_put_ ⟨Nat.le_of_ble_eq_true rfl, Nat.le_of_ble_eq_true rfl⟩ rfl hl.1 rfl (Nat.le_of_ble_eq_true rfl) dX5_apply_28 ⟨Nat.le_of_ble_eq_true rfl, Nat.le_of_ble_eq_true rfl⟩) hD hS hA (fun u_37 H locs hp hP hD hS => ?_)
    obtain rfl := hp.symm
    have hP : va_P D vwCl (XW ad cI cJ co fl ra li (sB re 0 (wrL (gB re 0) 40 k2 ((rdL (gB re 0) 40 k2) &&& ((bitL k2) ^^^ (-1))))) wa pi) H := hP
    have hD : va_D A (XW ad cI cJ co fl ra li (sB re 0 (wrL (gB re 0) 40 k2 ((rdL (gB re 0) 40 k2) &&& ((bitL k2) ^^^ (-1))))) wa pi) := hD
    exact W.vret hx hb hr (fun t ht hW => ⟨⟨(XW ad cI cJ co fl ra li (sB re 0 (wrL (gB re 0) 40 k2 ((rdL (gB re 0) 40 k2) &&& ((bitL k2) ^^^ (-1))))) wa pi), rfl, xw_eq rfl rfl rfl rfl (show (sB re 0 (wrL (gB re 0) 40 k2 ((rdL (gB re 0) 40 k2) &&& ((bitL k2) ^^^ (-1))))) = (apply re k1 k2) from (by first | (simp only [apply, apM, apC, rfC, if_pos c_10, decide_eq_true c_10, decide_eq_false (not_not_intro c_10), gi_sl, gi_sA, gi_sB, gi_si_s, gi_si_n, gl_si, gl_sA, gl_sB, gl_sl_s, gl_sl_n, gA_si, gA_sl, gA_sB, gA_sA_s, gA_sA_n, gB_si, gB_sl, gB_sA, gB_sB_s, gB_sB_n, Nat.reduceBEq, if_true, if_false, eq_self, Bool.false_eq_true, reduceCtorEq, not_true_eq_false, not_false_eq_true, decide_true, decide_false, cond_true, cond_false, Bool.true_and, Bool.false_and, Bool.and_true, Bool.and_false, Bool.true_or, Bool.false_or, Bool.or_true, Bool.or_false, b2i_tt, b2i_ff]; done) | (simp only [apply, apM, apC, rfC, if_pos c_10, decide_eq_true c_10, decide_eq_false (not_not_intro c_10), gi_sl, gi_sA, gi_sB, gi_si_s, gi_si_n, gl_si, gl_sA, gl_sB, gl_sl_s, gl_sl_n, gA_si, gA_sl, gA_sB, gA_sA_s, gA_sA_n, gB_si, gB_sl, gB_sA, gB_sB_s, gB_sB_n, Nat.reduceBEq, if_true, if_false, eq_self, Bool.false_eq_true, reduceCtorEq, not_true_eq_false, not_false_eq_true, decide_true, decide_false, cond_true, cond_false, Bool.true_and, Bool.false_and, Bool.and_true, Bool.and_false, Bool.true_or, Bool.false_or, Bool.or_true, Bool.or_false, b2i_tt, b2i_ff]; rfl) | (simp [apply, apM, apC, rfC, c_10, gi_sl, gi_sA, gi_sB, gi_si_s, gi_si_n, gl_si, gl_sA, gl_sB, gl_sl_s, gl_sl_n, gA_si, gA_sl, gA_sB, gA_sA_s, gA_sA_n, gB_si, gB_sl, gB_sA, gB_sB_s, gB_sB_n, Nat.reduceBEq]; done))) rfl rfl, ⟨by rw [ht]; exact hP, va_K.moved hW.alike hK, hD⟩⟩, hS.F ht⟩) hS.2.2 dX5_apply_31
set_option maxHeartbeats 4000000 in
set_option maxRecDepth 100000 in
theorem c_findEntries (l : Launch) (D : va_G) (cI cJ : ClassId) (ad : Nat → Nat) (co fl ra li re wa pi : Ob) : CT l D (TY cI cJ) yX5_findEntries (.code yX5_findEntries cX5_findEntries 11 (none : Option FieldType)) 1 0 0 (XW ad cI cJ co fl ra li re wa pi) [.ref (ad 5)] (QV D (TY cI cJ) (fun u => u = (XW ad cI cJ co fl ra li (findEntries re) wa pi))) := by
  refine ent (by decide) (Nat.le_of_ble_eq_true rfl) ?_
  intro p e s m below meth c ls A hx hb hr hg hown hml hlocks hnm hP hK hD hS hA hN hl
  have hl : lv_has ls 11 [(0, .ref (ad 5))] := hl
  refine lv_lconst (v := 0) hx hb dX5_findEntries_0 (by decide) ?_
  refine lv_lstore_n (lv' := [(1, .long 0), (0, .ref (ad 5))]) hx hb dX5_findEntries_1 rfl hl (by decide) rfl (fun ls hl => ?_)
  refine lv_bipush (v := 40) hx hb dX5_findEntries_2 (by decide) ?_
  refine kL (rSN hx hb hml hown hg hN hK hP hD (c_bit l D cI cJ (XW ad cI cJ co fl ra li re wa pi) 40) mw_78 nw_87 mw_80 mw_77 pd_X7_bit ⟨Nat.le_of_ble_eq_true rfl, Nat.le_of_ble_eq_true rfl⟩ rfl hl.1 rfl (Nat.le_of_ble_eq_true rfl) dX5_findEntries_4 ⟨Nat.le_of_ble_eq_true rfl, Nat.le_of_ble_eq_true rfl⟩) hD hS hA (fun r_1 u_1 H locs hp hP hD hS => ?_)
  obtain ⟨er, eu⟩ := hp
  obtain rfl := er.symm
  obtain rfl := eu.symm
  refine lv_lconst (v := 1) hx hb dX5_findEntries_7 (by decide) ?_
  refine lv_lor hx hb dX5_findEntries_8 ?_
  refine lv_lstore_n (lv' := [(3, .long ((bitL 40) ||| 1)), (1, .long 0), (0, .ref (ad 5))]) hx hb dX5_findEntries_9 rfl hl (by decide) rfl (fun ls hl => ?_)
  refine lv_iconst (v := 0) hx hb dX5_findEntries_10 (by decide) ?_
  refine lv_istore (lv' := [(5, .int 0), (3, .long ((bitL 40) ||| 1)), (1, .long 0), (0, .ref (ad 5))]) hx hb dX5_findEntries_11 hl (by decide) rfl (fun ls hl => ?_)
  refine w_loop (σ := Int64 × Int64) (fun (i_2 : Nat) (p_2 : Int64 × Int64) (H : Heap) (locs : List Loc) (ls : Array Slot) => p_2 = (lp (feA re) i_2 (0, ((bitL 40) ||| 1))) ∧ va_P D vwCl (XW ad cI cJ co fl ra li re wa pi) H ∧ va_D A (XW ad cI cJ co fl ra li re wa pi) ∧ va_S A s.heap H locs ∧ lv_has ls 11 [(0, .ref (ad 5)), (1, .long p_2.1), (3, .long p_2.2), (5, .int (nI i_2))]) (40) (fun p_2 H locs ls hI => ?_) (fun i_2 p_2 H locs ls hi_2 hI ih_2 => ?_) 0 (0, ((bitL 40) ||| 1)) (Nat.zero_le _) ⟨rfl, hP, hD, hS, (by rw [nI_0]; exact lv_sub hl [3, 2, 1, 0] rfl)⟩
  · obtain ⟨h_2, hP, hD, hS, hl⟩ := hI
    have h_2 := h_2.symm
    subst h_2
    have hP : va_P D vwCl (XW ad cI cJ co fl ra li re wa pi) H := hP
    have hD : va_D A (XW ad cI cJ co fl ra li re wa pi) := hD
    have hl : lv_has ls 11 [(0, .ref (ad 5)), (1, .long ((lp (feA re) (40) (0, ((bitL 40) ||| 1))).1)), (3, .long ((lp (feA re) (40) (0, ((bitL 40) ||| 1))).2)), (5, .int (nI 40))] := hl
    refine lv_iload hx hb dX5_findEntries_13 (lv_at hl 3 rfl) ?_
    refine lv_bipush (v := 40) hx hb dX5_findEntries_15 (by decide) ?_
    refine lv_icmp_ge (tgt := 49) hx hb dX5_findEntries_17 (by decide) (fun _ => ?_) (fun c_17 => absurd (by decide) c_17)
    refine lv_lload_n hx hb dX5_findEntries_49 rfl (lv_at hl 1 rfl) ?_
    refine lv_lload_n hx hb dX5_findEntries_50 rfl (lv_at hl 2 rfl) ?_
    refine lv_ldc2 (v := (-1)) hx hb hown (hg _ mw_168) dX5_findEntries_51 ?_
    refine lv_lxor hx hb dX5_findEntries_54 ?_
    refine lv_land hx hb dX5_findEntries_55 ?_
    refine lv_lstore (lv' := [(5, .long (((lp (feA re) (40) (0, ((bitL 40) ||| 1))).1) &&& (((lp (feA re) (40) (0, ((bitL 40) ||| 1))).2) ^^^ (-1)))), (0, .ref (ad 5)), (1, .long ((lp (feA re) (40) (0, ((bitL 40) ||| 1))).1)), (3, .long ((lp (feA re) (40) (0, ((bitL 40) ||| 1))).2))]) hx hb dX5_findEntries_56 hl (by decide) rfl (fun ls hl => ?_)
    refine lv_iconst (v := 0) hx hb dX5_findEntries_58 (by decide) ?_
    refine lv_istore (lv' := [(7, .int 0), (5, .long (((lp (feA re) (40) (0, ((bitL 40) ||| 1))).1) &&& (((lp (feA re) (40) (0, ((bitL 40) ||| 1))).2) ^^^ (-1)))), (0, .ref (ad 5)), (1, .long ((lp (feA re) (40) (0, ((bitL 40) ||| 1))).1)), (3, .long ((lp (feA re) (40) (0, ((bitL 40) ||| 1))).2))]) hx hb dX5_findEntries_59 hl (by decide) rfl (fun ls hl => ?_)
    refine w_loop (σ := Ob) (fun (i_3 : Nat) (p_3 : Ob) (H : Heap) (locs : List Loc) (ls : Array Slot) => p_3 = (lp feC i_3 re) ∧ va_P D vwCl (XW ad cI cJ co fl ra li p_3 wa pi) H ∧ va_D A (XW ad cI cJ co fl ra li p_3 wa pi) ∧ va_S A s.heap H locs ∧ lv_has ls 11 [(0, .ref (ad 5)), (1, .long ((lp (feA re) (40) (0, ((bitL 40) ||| 1))).1)), (3, .long ((lp (feA re) (40) (0, ((bitL 40) ||| 1))).2)), (5, .long (((lp (feA re) (40) (0, ((bitL 40) ||| 1))).1) &&& (((lp (feA re) (40) (0, ((bitL 40) ||| 1))).2) ^^^ (-1)))), (7, .int (nI i_3))]) (41) (fun p_3 H locs ls hI => ?_) (fun i_3 p_3 H locs ls hi_3 hI ih_3 => ?_) 0 re (Nat.zero_le _) ⟨rfl, hP, hD, hS, (by rw [nI_0]; exact lv_sub hl [2, 3, 4, 1, 0] rfl)⟩
    · obtain ⟨h_3, hP, hD, hS, hl⟩ := hI
      have h_3 := h_3.symm
      subst h_3
      have hP : va_P D vwCl (XW ad cI cJ co fl ra li ((lp feC (41) re)) wa pi) H := hP
      have hD : va_D A (XW ad cI cJ co fl ra li ((lp feC (41) re)) wa pi) := hD
      have hl : lv_has ls 11 [(0, .ref (ad 5)), (1, .long ((lp (feA re) (40) (0, ((bitL 40) ||| 1))).1)), (3, .long ((lp (feA re) (40) (0, ((bitL 40) ||| 1))).2)), (5, .long (((lp (feA re) (40) (0, ((bitL 40) ||| 1))).1) &&& (((lp (feA re) (40) (0, ((bitL 40) ||| 1))).2) ^^^ (-1)))), (7, .int (nI 41))] := hl
      refine lv_iload hx hb dX5_findEntries_61 (lv_at hl 4 rfl) ?_
      refine lv_bipush (v := 40) hx hb dX5_findEntries_63 (by decide) ?_
      refine lv_icmp_gt (tgt := 84) hx hb dX5_findEntries_65 (by decide) (fun _ => ?_) (fun c_65 => absurd (by decide) c_65)
      refine lv_iconst (v := 0) hx hb dX5_findEntries_84 (by decide) ?_
      refine lv_istore (lv' := [(7, .int 0), (0, .ref (ad 5)), (1, .long ((lp (feA re) (40) (0, ((bitL 40) ||| 1))).1)), (3, .long ((lp (feA re) (40) (0, ((bitL 40) ||| 1))).2)), (5, .long (((lp (feA re) (40) (0, ((bitL 40) ||| 1))).1) &&& (((lp (feA re) (40) (0, ((bitL 40) ||| 1))).2) ^^^ (-1))))]) hx hb dX5_findEntries_85 hl (by decide) rfl (fun ls hl => ?_)
      refine w_loop (σ := Ob) (fun (i_4 : Nat) (p_4 : Ob) (H : Heap) (locs : List Loc) (ls : Array Slot) => p_4 = (lp (feN (((lp (feA re) (40) (0, ((bitL 40) ||| 1))).1) &&& (((lp (feA re) (40) (0, ((bitL 40) ||| 1))).2) ^^^ (-1)))) i_4 ((lp feC (41) re))) ∧ va_P D vwCl (XW ad cI cJ co fl ra li p_4 wa pi) H ∧ va_D A (XW ad cI cJ co fl ra li p_4 wa pi) ∧ va_S A s.heap H locs ∧ lv_has ls 11 [(0, .ref (ad 5)), (1, .long ((lp (feA re) (40) (0, ((bitL 40) ||| 1))).1)), (3, .long ((lp (feA re) (40) (0, ((bitL 40) ||| 1))).2)), (5, .long (((lp (feA re) (40) (0, ((bitL 40) ||| 1))).1) &&& (((lp (feA re) (40) (0, ((bitL 40) ||| 1))).2) ^^^ (-1)))), (7, .int (nI i_4))]) (40) (fun p_4 H locs ls hI => ?_) (fun i_4 p_4 H locs ls hi_4 hI ih_4 => ?_) 0 ((lp feC (41) re)) (Nat.zero_le _) ⟨rfl, hP, hD, hS, (by rw [nI_0]; exact lv_sub hl [1, 2, 3, 4, 0] rfl)⟩
      · obtain ⟨h_4, hP, hD, hS, hl⟩ := hI
        have h_4 := h_4.symm
        subst h_4
        have hP : va_P D vwCl (XW ad cI cJ co fl ra li ((lp (feN (((lp (feA re) (40) (0, ((bitL 40) ||| 1))).1) &&& (((lp (feA re) (40) (0, ((bitL 40) ||| 1))).2) ^^^ (-1)))) (40) ((lp feC (41) re)))) wa pi) H := hP
        have hD : va_D A (XW ad cI cJ co fl ra li ((lp (feN (((lp (feA re) (40) (0, ((bitL 40) ||| 1))).1) &&& (((lp (feA re) (40) (0, ((bitL 40) ||| 1))).2) ^^^ (-1)))) (40) ((lp feC (41) re)))) wa pi) := hD
        have hl : lv_has ls 11 [(0, .ref (ad 5)), (1, .long ((lp (feA re) (40) (0, ((bitL 40) ||| 1))).1)), (3, .long ((lp (feA re) (40) (0, ((bitL 40) ||| 1))).2)), (5, .long (((lp (feA re) (40) (0, ((bitL 40) ||| 1))).1) &&& (((lp (feA re) (40) (0, ((bitL 40) ||| 1))).2) ^^^ (-1)))), (7, .int (nI 40))] := hl
        refine lv_iload hx hb dX5_findEntries_87 (lv_at hl 4 rfl) ?_
        refine lv_bipush (v := 40) hx hb dX5_findEntries_89 (by decide) ?_
        refine lv_icmp_ge (tgt := 158) hx hb dX5_findEntries_91 (by decide) (fun _ => ?_) (fun c_91 => absurd (by decide) c_91)
        exact W.vret hx hb hr (fun t ht hW => ⟨⟨(XW ad cI cJ co fl ra li ((lp (feN (((lp (feA re) (40) (0, ((bitL 40) ||| 1))).1) &&& (((lp (feA re) (40) (0, ((bitL 40) ||| 1))).2) ^^^ (-1)))) (40) ((lp feC (41) re)))) wa pi), rfl, xw_eq rfl rfl rfl rfl (show ((lp (feN (((lp (feA re) (40) (0, ((bitL 40) ||| 1))).1) &&& (((lp (feA re) (40) (0, ((bitL 40) ||| 1))).2) ^^^ (-1)))) (40) ((lp feC (41) re)))) = (findEntries re) from (by first | with_reducible rfl | (simp only [findEntries, feOnly, gi_sl, gi_sA, gi_sB, gi_si_s, gi_si_n, gl_si, gl_sA, gl_sB, gl_sl_s, gl_sl_n, gA_si, gA_sl, gA_sB, gA_sA_s, gA_sA_n, gB_si, gB_sl, gB_sA, gB_sB_s, gB_sB_n, Nat.reduceBEq, if_true, if_false, eq_self, Bool.false_eq_true, reduceCtorEq, not_true_eq_false, not_false_eq_true, decide_true, decide_false, cond_true, cond_false, Bool.true_and, Bool.false_and, Bool.and_true, Bool.and_false, Bool.true_or, Bool.false_or, Bool.or_true, Bool.or_false, b2i_tt, b2i_ff]; done) | rfl)) rfl rfl, ⟨by rw [ht]; exact hP, va_K.moved hW.alike hK, hD⟩⟩, hS.F ht⟩) hS.2.2 dX5_findEntries_158
      · obtain ⟨h_4, hP, hD, hS, hl⟩ := hI
        have hP : va_P D vwCl (XW ad cI cJ co fl ra li p_4 wa pi) H := hP
        have hD : va_D A (XW ad cI cJ co fl ra li p_4 wa pi) := hD
        have hl : lv_has ls 11 [(0, .ref (ad 5)), (1, .long ((lp (feA re) (40) (0, ((bitL 40) ||| 1))).1)), (3, .long ((lp (feA re) (40) (0, ((bitL 40) ||| 1))).2)), (5, .long (((lp (feA re) (40) (0, ((bitL 40) ||| 1))).1) &&& (((lp (feA re) (40) (0, ((bitL 40) ||| 1))).2) ^^^ (-1)))), (7, .int (nI i_4))] := hl
        refine lv_iload hx hb dX5_findEntries_87 (lv_at hl 4 rfl) ?_
        refine lv_bipush (v := 40) hx hb dX5_findEntries_89 (by decide) ?_
        refine lv_icmp_ge (tgt := 158) hx hb dX5_findEntries_91 (by decide) (fun c_91 => absurd c_91 (nI_ge hi_4 (by decide))) (fun _ => ?_)
        refine lv_aload_n hx hb dX5_findEntries_94 rfl (lv_at hl 0 rfl) ?_
        refine va_get (D := D) (ci := 5) (v := .ref (ad 24)) (C := RX5) (T := TX5) (N := 8) hx hb hg inGX5 hown hK hP 5 rfl rfl 0 (by decide) (hg _ mw_166) (fun _ h9 => h9) rfl dX5_findEntries_95 ?_
        refine lv_iload hx hb dX5_findEntries_98 (lv_at hl 4 rfl) ?_
        refine kL (rSN hx hb hml hown hg hN hK hP hD (c_atL l D cI cJ (XW ad cI cJ co fl ra li p_4 wa pi) 24 (ad 24) 40 (gB p_4 0) (nI i_4) rfl (by decide)) mw_81 nw_84 mw_83 mw_77 pd_X7_at_ ⟨Nat.le_of_ble_eq_true rfl, Nat.le_of_ble_eq_true rfl⟩ rfl hl.1 rfl (Nat.le_of_ble_eq_true rfl) dX5_findEntries_100 ⟨Nat.le_of_ble_eq_true rfl, Nat.le_of_ble_eq_true rfl⟩) hD hS hA (fun r_5 u_5 H locs hp hP hD hS => ?_)
        obtain ⟨er, eu⟩ := hp
        obtain rfl := er.symm
        obtain rfl := eu.symm
        refine lv_lload hx hb dX5_findEntries_103 (lv_at hl 3 rfl) ?_
        refine lv_land hx hb dX5_findEntries_105 ?_
        refine lv_lstore (lv' := [(8, .long ((rdL (gB p_4 0) 40 (nI i_4)) &&& (((lp (feA re) (40) (0, ((bitL 40) ||| 1))).1) &&& (((lp (feA re) (40) (0, ((bitL 40) ||| 1))).2) ^^^ (-1))))), (0, .ref (ad 5)), (1, .long ((lp (feA re) (40) (0, ((bitL 40) ||| 1))).1)), (3, .long ((lp (feA re) (40) (0, ((bitL 40) ||| 1))).2)), (5, .long (((lp (feA re) (40) (0, ((bitL 40) ||| 1))).1) &&& (((lp (feA re) (40) (0, ((bitL 40) ||| 1))).2) ^^^ (-1)))), (7, .int (nI i_4))]) hx hb dX5_findEntries_106 hl (by decide) rfl (fun ls hl => ?_)
        refine lv_iconst (v := 0) hx hb dX5_findEntries_108 (by decide) ?_
        refine lv_istore (lv' := [(10, .int 0), (8, .long ((rdL (gB p_4 0) 40 (nI i_4)) &&& (((lp (feA re) (40) (0, ((bitL 40) ||| 1))).1) &&& (((lp (feA re) (40) (0, ((bitL 40) ||| 1))).2) ^^^ (-1))))), (0, .ref (ad 5)), (1, .long ((lp (feA re) (40) (0, ((bitL 40) ||| 1))).1)), (3, .long ((lp (feA re) (40) (0, ((bitL 40) ||| 1))).2)), (5, .long (((lp (feA re) (40) (0, ((bitL 40) ||| 1))).1) &&& (((lp (feA re) (40) (0, ((bitL 40) ||| 1))).2) ^^^ (-1)))), (7, .int (nI i_4))]) hx hb dX5_findEntries_109 hl (by decide) rfl (fun ls hl => ?_)
        refine w_loop (σ := Ob) (fun (i_6 : Nat) (p_6 : Ob) (H : Heap) (locs : List Loc) (ls : Array Slot) => p_6 = (lp (feB ((rdL (gB p_4 0) 40 (nI i_4)) &&& (((lp (feA re) (40) (0, ((bitL 40) ||| 1))).1) &&& (((lp (feA re) (40) (0, ((bitL 40) ||| 1))).2) ^^^ (-1)))) i_4) i_6 p_4) ∧ va_P D vwCl (XW ad cI cJ co fl ra li p_6 wa pi) H ∧ va_D A (XW ad cI cJ co fl ra li p_6 wa pi) ∧ va_S A s.heap H locs ∧ lv_has ls 11 [(0, .ref (ad 5)), (1, .long ((lp (feA re) (40) (0, ((bitL 40) ||| 1))).1)), (3, .long ((lp (feA re) (40) (0, ((bitL 40) ||| 1))).2)), (5, .long (((lp (feA re) (40) (0, ((bitL 40) ||| 1))).1) &&& (((lp (feA re) (40) (0, ((bitL 40) ||| 1))).2) ^^^ (-1)))), (7, .int (nI i_4)), (8, .long ((rdL (gB p_4 0) 40 (nI i_4)) &&& (((lp (feA re) (40) (0, ((bitL 40) ||| 1))).1) &&& (((lp (feA re) (40) (0, ((bitL 40) ||| 1))).2) ^^^ (-1))))), (10, .int (nI i_6))]) (40) (fun p_6 H locs ls hI => ?_) (fun i_6 p_6 H locs ls hi_6 hI ih_6 => ?_) 0 p_4 (Nat.zero_le _) ⟨rfl, hP, hD, hS, (by rw [nI_0]; exact lv_sub hl [2, 3, 4, 5, 6, 1, 0] rfl)⟩
        · obtain ⟨h_6, hP, hD, hS, hl⟩ := hI
          have h_6 := h_6.symm
          subst h_6
          have hP : va_P D vwCl (XW ad cI cJ co fl ra li ((lp (feB ((rdL (gB p_4 0) 40 (nI i_4)) &&& (((lp (feA re) (40) (0, ((bitL 40) ||| 1))).1) &&& (((lp (feA re) (40) (0, ((bitL 40) ||| 1))).2) ^^^ (-1)))) i_4) (40) p_4)) wa pi) H := hP
          have hD : va_D A (XW ad cI cJ co fl ra li ((lp (feB ((rdL (gB p_4 0) 40 (nI i_4)) &&& (((lp (feA re) (40) (0, ((bitL 40) ||| 1))).1) &&& (((lp (feA re) (40) (0, ((bitL 40) ||| 1))).2) ^^^ (-1)))) i_4) (40) p_4)) wa pi) := hD
          have hl : lv_has ls 11 [(0, .ref (ad 5)), (1, .long ((lp (feA re) (40) (0, ((bitL 40) ||| 1))).1)), (3, .long ((lp (feA re) (40) (0, ((bitL 40) ||| 1))).2)), (5, .long (((lp (feA re) (40) (0, ((bitL 40) ||| 1))).1) &&& (((lp (feA re) (40) (0, ((bitL 40) ||| 1))).2) ^^^ (-1)))), (7, .int (nI i_4)), (8, .long ((rdL (gB p_4 0) 40 (nI i_4)) &&& (((lp (feA re) (40) (0, ((bitL 40) ||| 1))).1) &&& (((lp (feA re) (40) (0, ((bitL 40) ||| 1))).2) ^^^ (-1))))), (10, .int (nI 40))] := hl
          refine lv_iload hx hb dX5_findEntries_111 (lv_at hl 6 rfl) ?_
          refine lv_bipush (v := 40) hx hb dX5_findEntries_113 (by decide) ?_
          refine lv_icmp_ge (tgt := 152) hx hb dX5_findEntries_115 (by decide) (fun _ => ?_) (fun c_115 => absurd (by decide) c_115)
          refine lv_iinc (v := (nI (i_4 + 1))) (lv' := [(7, .int (nI (i_4 + 1))), (0, .ref (ad 5)), (1, .long ((lp (feA re) (40) (0, ((bitL 40) ||| 1))).1)), (3, .long ((lp (feA re) (40) (0, ((bitL 40) ||| 1))).2)), (5, .long (((lp (feA re) (40) (0, ((bitL 40) ||| 1))).1) &&& (((lp (feA re) (40) (0, ((bitL 40) ||| 1))).2) ^^^ (-1)))), (8, .long ((rdL (gB p_4 0) 40 (nI i_4)) &&& (((lp (feA re) (40) (0, ((bitL 40) ||| 1))).1) &&& (((lp (feA re) (40) (0, ((bitL 40) ||| 1))).2) ^^^ (-1))))), (10, .int (nI 40))]) hx hb dX5_findEntries_152 hl (k := 4) rfl (nI_1 i_4) (by decide) rfl (fun ls hl => ?_)
          refine lv_goto (tgt := 87) hx hb dX5_findEntries_155 (by decide) ?_
          exact ih_4 ((lp (feB ((rdL (gB p_4 0) 40 (nI i_4)) &&& (((lp (feA re) (40) (0, ((bitL 40) ||| 1))).1) &&& (((lp (feA re) (40) (0, ((bitL 40) ||| 1))).2) ^^^ (-1)))) i_4) (40) p_4)) H locs ls ⟨((show ((lp (feB ((rdL (gB p_4 0) 40 (nI i_4)) &&& (((lp (feA re) (40) (0, ((bitL 40) ||| 1))).1) &&& (((lp (feA re) (40) (0, ((bitL 40) ||| 1))).2) ^^^ (-1)))) i_4) (40) p_4)) = (feN (((lp (feA re) (40) (0, ((bitL 40) ||| 1))).1) &&& (((lp (feA re) (40) (0, ((bitL 40) ||| 1))).2) ^^^ (-1)))) i_4 p_4 from (by first | with_reducible rfl | (simp only [feN, gi_sl, gi_sA, gi_sB, gi_si_s, gi_si_n, gl_si, gl_sA, gl_sB, gl_sl_s, gl_sl_n, gA_si, gA_sl, gA_sB, gA_sA_s, gA_sA_n, gB_si, gB_sl, gB_sA, gB_sB_s, gB_sB_n, Nat.reduceBEq, if_true, if_false, eq_self, Bool.false_eq_true, reduceCtorEq, not_true_eq_false, not_false_eq_true, decide_true, decide_false, cond_true, cond_false, Bool.true_and, Bool.false_and, Bool.and_true, Bool.and_false, Bool.true_or, Bool.false_or, Bool.or_true, Bool.or_false, b2i_tt, b2i_ff]; done) | rfl)).trans (lp_go h_4)), hP, hD, hS, lv_sub hl [1, 2, 3, 4, 0] rfl⟩
        · obtain ⟨h_6, hP, hD, hS, hl⟩ := hI
          have hP : va_P D vwCl (XW ad cI cJ co fl ra li p_6 wa pi) H := hP
          have hD : va_D A (XW ad cI cJ co fl ra li p_6 wa pi) := hD
          have hl : lv_has ls 11 [(0, .ref (ad 5)), (1, .long ((lp (feA re) (40) (0, ((bitL 40) ||| 1))).1)), (3, .long ((lp (feA re) (40) (0, ((bitL 40) ||| 1))).2)), (5, .long (((lp (feA re) (40) (0, ((bitL 40) ||| 1))).1) &&& (((lp (feA re) (40) (0, ((bitL 40) ||| 1))).2) ^^^ (-1)))), (7, .int (nI i_4)), (8, .long ((rdL (gB p_4 0) 40 (nI i_4)) &&& (((lp (feA re) (40) (0, ((bitL 40) ||| 1))).1) &&& (((lp (feA re) (40) (0, ((bitL 40) ||| 1))).2) ^^^ (-1))))), (10, .int (nI i_6))] := hl
          refine lv_iload hx hb dX5_findEntries_111 (lv_at hl 6 rfl) ?_
          refine lv_bipush (v := 40) hx hb dX5_findEntries_113 (by decide) ?_
          refine lv_icmp_ge (tgt := 152) hx hb dX5_findEntries_115 (by decide) (fun c_115 => absurd c_115 (nI_ge hi_6 (by decide))) (fun _ => ?_)
          refine lv_lload hx hb dX5_findEntries_118 (lv_at hl 5 rfl) ?_
          refine lv_lconst (v := 0) hx hb dX5_findEntries_120 (by decide) ?_
          refine W.lcmp hx hb dX5_findEntries_121 ?_
          refine lv_if_eq (tgt := 152) hx hb dX5_findEntries_122 (by decide) (fun c_122 => ?_) (fun c_122 => ?_)
          · have c_122 : ((rdL (gB p_4 0) 40 (nI i_4)) &&& (((lp (feA re) (40) (0, ((bitL 40) ||| 1))).1) &&& (((lp (feA re) (40) (0, ((bitL 40) ||| 1))).2) ^^^ (-1)))) = 0 := lcmp_0 c_122
            have h_6 : p_6 = (lp (feB ((rdL (gB p_4 0) 40 (nI i_4)) &&& (((lp (feA re) (40) (0, ((bitL 40) ||| 1))).1) &&& (((lp (feA re) (40) (0, ((bitL 40) ||| 1))).2) ^^^ (-1)))) i_4) (40) p_4) := (h_6.trans (feB_zz c_122 _ _ _))
            have h_6 := h_6.symm
            subst h_6
            have hP : va_P D vwCl (XW ad cI cJ co fl ra li ((lp (feB ((rdL (gB p_4 0) 40 (nI i_4)) &&& (((lp (feA re) (40) (0, ((bitL 40) ||| 1))).1) &&& (((lp (feA re) (40) (0, ((bitL 40) ||| 1))).2) ^^^ (-1)))) i_4) (40) p_4)) wa pi) H := hP
            have hD : va_D A (XW ad cI cJ co fl ra li ((lp (feB ((rdL (gB p_4 0) 40 (nI i_4)) &&& (((lp (feA re) (40) (0, ((bitL 40) ||| 1))).1) &&& (((lp (feA re) (40) (0, ((bitL 40) ||| 1))).2) ^^^ (-1)))) i_4) (40) p_4)) wa pi) := hD
            have hl : lv_has ls 11 [(0, .ref (ad 5)), (1, .long ((lp (feA re) (40) (0, ((bitL 40) ||| 1))).1)), (3, .long ((lp (feA re) (40) (0, ((bitL 40) ||| 1))).2)), (5, .long (((lp (feA re) (40) (0, ((bitL 40) ||| 1))).1) &&& (((lp (feA re) (40) (0, ((bitL 40) ||| 1))).2) ^^^ (-1)))), (7, .int (nI i_4)), (8, .long ((rdL (gB p_4 0) 40 (nI i_4)) &&& (((lp (feA re) (40) (0, ((bitL 40) ||| 1))).1) &&& (((lp (feA re) (40) (0, ((bitL 40) ||| 1))).2) ^^^ (-1))))), (10, .int (nI i_6))] := hl
            refine lv_iinc (v := (nI (i_4 + 1))) (lv' := [(7, .int (nI (i_4 + 1))), (0, .ref (ad 5)), (1, .long ((lp (feA re) (40) (0, ((bitL 40) ||| 1))).1)), (3, .long ((lp (feA re) (40) (0, ((bitL 40) ||| 1))).2)), (5, .long (((lp (feA re) (40) (0, ((bitL 40) ||| 1))).1) &&& (((lp (feA re) (40) (0, ((bitL 40) ||| 1))).2) ^^^ (-1)))), (8, .long ((rdL (gB p_4 0) 40 (nI i_4)) &&& (((lp (feA re) (40) (0, ((bitL 40) ||| 1))).1) &&& (((lp (feA re) (40) (0, ((bitL 40) ||| 1))).2) ^^^ (-1))))), (10, .int (nI i_6))]) hx hb dX5_findEntries_152 hl (k := 4) rfl (nI_1 i_4) (by decide) rfl (fun ls hl => ?_)
            refine lv_goto (tgt := 87) hx hb dX5_findEntries_155 (by decide) ?_
            exact ih_4 ((lp (feB ((rdL (gB p_4 0) 40 (nI i_4)) &&& (((lp (feA re) (40) (0, ((bitL 40) ||| 1))).1) &&& (((lp (feA re) (40) (0, ((bitL 40) ||| 1))).2) ^^^ (-1)))) i_4) (40) p_4)) H locs ls ⟨((show ((lp (feB ((rdL (gB p_4 0) 40 (nI i_4)) &&& (((lp (feA re) (40) (0, ((bitL 40) ||| 1))).1) &&& (((lp (feA re) (40) (0, ((bitL 40) ||| 1))).2) ^^^ (-1)))) i_4) (40) p_4)) = (feN (((lp (feA re) (40) (0, ((bitL 40) ||| 1))).1) &&& (((lp (feA re) (40) (0, ((bitL 40) ||| 1))).2) ^^^ (-1)))) i_4 p_4 from (by first | (simp only [feN, if_pos c_122, decide_eq_true c_122, decide_eq_false (not_not_intro c_122), gi_sl, gi_sA, gi_sB, gi_si_s, gi_si_n, gl_si, gl_sA, gl_sB, gl_sl_s, gl_sl_n, gA_si, gA_sl, gA_sB, gA_sA_s, gA_sA_n, gB_si, gB_sl, gB_sA, gB_sB_s, gB_sB_n, Nat.reduceBEq, if_true, if_false, eq_self, Bool.false_eq_true, reduceCtorEq, not_true_eq_false, not_false_eq_true, decide_true, decide_false, cond_true, cond_false, Bool.true_and, Bool.false_and, Bool.and_true, Bool.and_false, Bool.true_or, Bool.false_or, Bool.or_true, Bool.or_false, b2i_tt, b2i_ff]; done) | (simp only [feN, if_pos c_122, decide_eq_true c_122, decide_eq_false (not_not_intro c_122), gi_sl, gi_sA, gi_sB, gi_si_s, gi_si_n, gl_si, gl_sA, gl_sB, gl_sl_s, gl_sl_n, gA_si, gA_sl, gA_sB, gA_sA_s, gA_sA_n, gB_si, gB_sl, gB_sA, gB_sB_s, gB_sB_n, Nat.reduceBEq, if_true, if_false, eq_self, Bool.false_eq_true, reduceCtorEq, not_true_eq_false, not_false_eq_true, decide_true, decide_false, cond_true, cond_false, Bool.true_and, Bool.false_and, Bool.and_true, Bool.and_false, Bool.true_or, Bool.false_or, Bool.or_true, Bool.or_false, b2i_tt, b2i_ff]; rfl) | (simp [feN, c_122, gi_sl, gi_sA, gi_sB, gi_si_s, gi_si_n, gl_si, gl_sA, gl_sB, gl_sl_s, gl_sl_n, gA_si, gA_sl, gA_sB, gA_sA_s, gA_sA_n, gB_si, gB_sl, gB_sA, gB_sB_s, gB_sB_n, Nat.reduceBEq]; done))).trans (lp_go h_4)), hP, hD, hS, lv_sub hl [1, 2, 3, 4, 0] rfl⟩
          · have c_122 : ¬ ((rdL (gB p_4 0) 40 (nI i_4)) &&& (((lp (feA re) (40) (0, ((bitL 40) ||| 1))).1) &&& (((lp (feA re) (40) (0, ((bitL 40) ||| 1))).2) ^^^ (-1)))) = 0 := lcmp_1 c_122
            refine lv_lload hx hb dX5_findEntries_125 (lv_at hl 5 rfl) ?_
            refine lv_iload hx hb dX5_findEntries_127 (lv_at hl 6 rfl) ?_
            refine kI (rSN hx hb hml hown hg hN hK hP hD (c_has l D cI cJ (XW ad cI cJ co fl ra li p_6 wa pi) ((rdL (gB p_4 0) 40 (nI i_4)) &&& (((lp (feA re) (40) (0, ((bitL 40) ||| 1))).1) &&& (((lp (feA re) (40) (0, ((bitL 40) ||| 1))).2) ^^^ (-1)))) (nI i_6)) mw_89 nw_83 mw_90 mw_77 pd_X7_has ⟨Nat.le_of_ble_eq_true rfl, Nat.le_of_ble_eq_true rfl⟩ rfl hl.1 rfl (Nat.le_of_ble_eq_true rfl) dX5_findEntries_129 ⟨Nat.le_of_ble_eq_true rfl, Nat.le_of_ble_eq_true rfl⟩) hD hS hA (fun r_7 u_7 H locs hp hP hD hS => ?_)
            obtain ⟨er, eu⟩ := hp
            obtain rfl := er.symm
            obtain rfl := eu.symm
            refine lv_if_eq (tgt := 146) hx hb dX5_findEntries_132 (by decide) (fun c_132 => ?_) (fun c_132 => ?_)
            · have c_132 : ¬ (hs ((rdL (gB p_4 0) 40 (nI i_4)) &&& (((lp (feA re) (40) (0, ((bitL 40) ||| 1))).1) &&& (((lp (feA re) (40) (0, ((bitL 40) ||| 1))).2) ^^^ (-1)))) (nI i_6)) = true := b2i_0 c_132
              refine lv_iinc (v := (nI (i_6 + 1))) (lv' := [(10, .int (nI (i_6 + 1))), (0, .ref (ad 5)), (1, .long ((lp (feA re) (40) (0, ((bitL 40) ||| 1))).1)), (3, .long ((lp (feA re) (40) (0, ((bitL 40) ||| 1))).2)), (5, .long (((lp (feA re) (40) (0, ((bitL 40) ||| 1))).1) &&& (((lp (feA re) (40) (0, ((bitL 40) ||| 1))).2) ^^^ (-1)))), (7, .int (nI i_4)), (8, .long ((rdL (gB p_4 0) 40 (nI i_4)) &&& (((lp (feA re) (40) (0, ((bitL 40) ||| 1))).1) &&& (((lp (feA re) (40) (0, ((bitL 40) ||| 1))).2) ^^^ (-1)))))]) hx hb dX5_findEntries_146 hl (k := 6) rfl (nI_1 i_6) (by decide) rfl (fun ls hl => ?_)
              refine lv_goto (tgt := 111) hx hb dX5_findEntries_149 (by decide) ?_
              exact ih_6 p_6 H locs ls ⟨((show p_6 = (feB ((rdL (gB p_4 0) 40 (nI i_4)) &&& (((lp (feA re) (40) (0, ((bitL 40) ||| 1))).1) &&& (((lp (feA re) (40) (0, ((bitL 40) ||| 1))).2) ^^^ (-1)))) i_4) i_6 p_6 from (by first | (simp only [feB, if_neg c_122, decide_eq_false c_122, decide_eq_true c_122, if_pos c_122, if_neg c_132, bf_of c_132, gi_sl, gi_sA, gi_sB, gi_si_s, gi_si_n, gl_si, gl_sA, gl_sB, gl_sl_s, gl_sl_n, gA_si, gA_sl, gA_sB, gA_sA_s, gA_sA_n, gB_si, gB_sl, gB_sA, gB_sB_s, gB_sB_n, Nat.reduceBEq, if_true, if_false, eq_self, Bool.false_eq_true, reduceCtorEq, not_true_eq_false, not_false_eq_true, decide_true, decide_false, cond_true, cond_false, Bool.true_and, Bool.false_and, Bool.and_true, Bool.and_false, Bool.true_or, Bool.false_or, Bool.or_true, Bool.or_false, b2i_tt, b2i_ff]; done) | (simp only [feB, if_neg c_122, decide_eq_false c_122, decide_eq_true c_122, if_pos c_122, if_neg c_132, bf_of c_132, gi_sl, gi_sA, gi_sB, gi_si_s, gi_si_n, gl_si, gl_sA, gl_sB, gl_sl_s, gl_sl_n, gA_si, gA_sl, gA_sB, gA_sA_s, gA_sA_n, gB_si, gB_sl, gB_sA, gB_sB_s, gB_sB_n, Nat.reduceBEq, if_true, if_false, eq_self, Bool.false_eq_true, reduceCtorEq, not_true_eq_false, not_false_eq_true, decide_true, decide_false, cond_true, cond_false, Bool.true_and, Bool.false_and, Bool.and_true, Bool.and_false, Bool.true_or, Bool.false_or, Bool.or_true, Bool.or_false, b2i_tt, b2i_ff]; rfl) | (simp [feB, c_122, c_132, gi_sl, gi_sA, gi_sB, gi_si_s, gi_si_n, gl_si, gl_sA, gl_sB, gl_sl_s, gl_sl_n, gA_si, gA_sl, gA_sB, gA_sA_s, gA_sA_n, gB_si, gB_sl, gB_sA, gB_sB_s, gB_sB_n, Nat.reduceBEq]; done))).trans (lp_go h_6)), hP, hD, hS, lv_sub hl [1, 2, 3, 4, 5, 6, 0] rfl⟩
            · have c_132 : (hs ((rdL (gB p_4 0) 40 (nI i_4)) &&& (((lp (feA re) (40) (0, ((bitL 40) ||| 1))).1) &&& (((lp (feA re) (40) (0, ((bitL 40) ||| 1))).2) ^^^ (-1)))) (nI i_6)) = true := b2i_1 c_132
              refine lv_aload_n hx hb dX5_findEntries_135 rfl (lv_at hl 0 rfl) ?_
              refine va_get (D := D) (ci := 5) (v := .ref (ad 28)) (C := RX5) (T := TX5) (N := 8) hx hb hg inGX5 hown hK hP 5 rfl rfl 4 (by decide) (hg _ mw_165) (fun _ h9 => h9) rfl dX5_findEntries_136 ?_
              refine lv_iload hx hb dX5_findEntries_139 (lv_at hl 6 rfl) ?_
              refine lv_iload hx hb dX5_findEntries_141 (lv_at hl 4 rfl) ?_
              refine kV (rSN hx hb hml hown hg hN hK hP hD (c_put l D cI cJ (XW ad cI cJ co fl ra li p_6 wa pi) 28 (ad 28) 41 (gA p_6 3) (nI i_6) (nI i_4) rfl (by decide)) mw_92 nw_86 mw_93 mw_77 pd_X7_put ⟨Nat.le_of_ble_eq_true rfl, Nat.le_of_ble_eq_true rfl⟩ rfl hl.1 rfl (Nat.le_of_ble_eq_true rfl) dX5_findEntries_143 ⟨Nat.le_of_ble_eq_true rfl, Nat.le_of_ble_eq_true rfl⟩) hD hS hA (fun u_8 H locs hp hP hD hS => ?_)
              obtain rfl := hp.symm
              have hP : va_P D vwCl (XW ad cI cJ co fl ra li (sA p_6 3 (wr (gA p_6 3) 41 (nI i_6) (nI i_4))) wa pi) H := hP
              have hD : va_D A (XW ad cI cJ co fl ra li (sA p_6 3 (wr (gA p_6 3) 41 (nI i_6) (nI i_4))) wa pi) := hD
              refine lv_iinc (v := (nI (i_6 + 1))) (lv' := [(10, .int (nI (i_6 + 1))), (0, .ref (ad 5)), (1, .long ((lp (feA re) (40) (0, ((bitL 40) ||| 1))).1)), (3, .long ((lp (feA re) (40) (0, ((bitL 40) ||| 1))).2)), (5, .long (((lp (feA re) (40) (0, ((bitL 40) ||| 1))).1) &&& (((lp (feA re) (40) (0, ((bitL 40) ||| 1))).2) ^^^ (-1)))), (7, .int (nI i_4)), (8, .long ((rdL (gB p_4 0) 40 (nI i_4)) &&& (((lp (feA re) (40) (0, ((bitL 40) ||| 1))).1) &&& (((lp (feA re) (40) (0, ((bitL 40) ||| 1))).2) ^^^ (-1)))))]) hx hb dX5_findEntries_146 hl (k := 6) rfl (nI_1 i_6) (by decide) rfl (fun ls hl => ?_)
              refine lv_goto (tgt := 111) hx hb dX5_findEntries_149 (by decide) ?_
              exact ih_6 (sA p_6 3 (wr (gA p_6 3) 41 (nI i_6) (nI i_4))) H locs ls ⟨((show (sA p_6 3 (wr (gA p_6 3) 41 (nI i_6) (nI i_4))) = (feB ((rdL (gB p_4 0) 40 (nI i_4)) &&& (((lp (feA re) (40) (0, ((bitL 40) ||| 1))).1) &&& (((lp (feA re) (40) (0, ((bitL 40) ||| 1))).2) ^^^ (-1)))) i_4) i_6 p_6 from (by first | (simp only [feB, if_neg c_122, decide_eq_false c_122, decide_eq_true c_122, if_pos c_122, if_pos c_132, c_132, gi_sl, gi_sA, gi_sB, gi_si_s, gi_si_n, gl_si, gl_sA, gl_sB, gl_sl_s, gl_sl_n, gA_si, gA_sl, gA_sB, gA_sA_s, gA_sA_n, gB_si, gB_sl, gB_sA, gB_sB_s, gB_sB_n, Nat.reduceBEq, if_true, if_false, eq_self, Bool.false_eq_true, reduceCtorEq, not_true_eq_false, not_false_eq_true, decide_true, decide_false, cond_true, cond_false, Bool.true_and, Bool.false_and, Bool.and_true, Bool.and_false, Bool.true_or, Bool.false_or, Bool.or_true, Bool.or_false, b2i_tt, b2i_ff]; done) | (simp only [feB, if_neg c_122, decide_eq_false c_122, decide_eq_true c_122, if_pos c_122, if_pos c_132, c_132, gi_sl, gi_sA, gi_sB, gi_si_s, gi_si_n, gl_si, gl_sA, gl_sB, gl_sl_s, gl_sl_n, gA_si, gA_sl, gA_sB, gA_sA_s, gA_sA_n, gB_si, gB_sl, gB_sA, gB_sB_s, gB_sB_n, Nat.reduceBEq, if_true, if_false, eq_self, Bool.false_eq_true, reduceCtorEq, not_true_eq_false, not_false_eq_true, decide_true, decide_false, cond_true, cond_false, Bool.true_and, Bool.false_and, Bool.and_true, Bool.and_false, Bool.true_or, Bool.false_or, Bool.or_true, Bool.or_false, b2i_tt, b2i_ff]; rfl) | (simp [feB, c_122, c_132, gi_sl, gi_sA, gi_sB, gi_si_s, gi_si_n, gl_si, gl_sA, gl_sB, gl_sl_s, gl_sl_n, gA_si, gA_sl, gA_sB, gA_sA_s, gA_sA_n, gB_si, gB_sl, gB_sA, gB_sB_s, gB_sB_n, Nat.reduceBEq]; done))).trans (lp_go h_6)), hP, hD, hS, lv_sub hl [1, 2, 3, 4, 5, 6, 0] rfl⟩
    · obtain ⟨h_3, hP, hD, hS, hl⟩ := hI
      have hP : va_P D vwCl (XW ad cI cJ co fl ra li p_3 wa pi) H := hP
      have hD : va_D A (XW ad cI cJ co fl ra li p_3 wa pi) := hD
      have hl : lv_has ls 11 [(0, .ref (ad 5)), (1, .long ((lp (feA re) (40) (0, ((bitL 40) ||| 1))).1)), (3, .long ((lp (feA re) (40) (0, ((bitL 40) ||| 1))).2)), (5, .long (((lp (feA re) (40) (0, ((bitL 40) ||| 1))).1) &&& (((lp (feA re) (40) (0, ((bitL 40) ||| 1))).2) ^^^ (-1)))), (7, .int (nI i_3))] := hl
      refine lv_iload hx hb dX5_findEntries_61 (lv_at hl 4 rfl) ?_
      refine lv_bipush (v := 40) hx hb dX5_findEntries_63 (by decide) ?_
      refine lv_icmp_gt (tgt := 84) hx hb dX5_findEntries_65 (by decide) (fun c_65 => absurd c_65 (nI_nlt (Nat.le_of_lt_succ hi_3) (by decide))) (fun _ => ?_)
      refine lv_aload_n hx hb dX5_findEntries_68 rfl (lv_at hl 0 rfl) ?_
      refine va_get (D := D) (ci := 5) (v := .ref (ad 28)) (C := RX5) (T := TX5) (N := 8) hx hb hg inGX5 hown hK hP 5 rfl rfl 4 (by decide) (hg _ mw_165) (fun _ h9 => h9) rfl dX5_findEntries_69 ?_
      refine lv_iload hx hb dX5_findEntries_72 (lv_at hl 4 rfl) ?_
      refine lv_iconst (v := (-1)) hx hb dX5_findEntries_74 (by decide) ?_
      refine kV (rSN hx hb hml hown hg hN hK hP hD (c_put l D cI cJ (XW ad cI cJ co fl ra li p_3 wa pi) 28 (ad 28) 41 (gA p_3 3) (nI i_3) (-1) rfl (by decide)) mw_92 nw_86 mw_93 mw_77 pd_X7_put ⟨Nat.le_of_ble_eq_true rfl, Nat.le_of_ble_eq_true rfl⟩ rfl hl.1 rfl (Nat.le_of_ble_eq_true rfl) dX5_findEntries_75 ⟨Nat.le_of_ble_eq_true rfl, Nat.le_of_ble_eq_true rfl⟩) hD hS hA (fun u_9 H locs hp hP hD hS => ?_)
      obtain rfl := hp.symm
      have hP : va_P D vwCl (XW ad cI cJ co fl ra li (sA p_3 3 (wr (gA p_3 3) 41 (nI i_3) (-1))) wa pi) H := hP
      have hD : va_D A (XW ad cI cJ co fl ra li (sA p_3 3 (wr (gA p_3 3) 41 (nI i_3) (-1))) wa pi) := hD
      refine lv_iinc (v := (nI (i_3 + 1))) (lv' := [(7, .int (nI (i_3 + 1))), (0, .ref (ad 5)), (1, .long ((lp (feA re) (40) (0, ((bitL 40) ||| 1))).1)), (3, .long ((lp (feA re) (40) (0, ((bitL 40) ||| 1))).2)), (5, .long (((lp (feA re) (40) (0, ((bitL 40) ||| 1))).1) &&& (((lp (feA re) (40) (0, ((bitL 40) ||| 1))).2) ^^^ (-1))))]) hx hb dX5_findEntries_78 hl (k := 4) rfl (nI_1 i_3) (by decide) rfl (fun ls hl => ?_)
      refine lv_goto (tgt := 61) hx hb dX5_findEntries_81 (by decide) ?_
      exact ih_3 (sA p_3 3 (wr (gA p_3 3) 41 (nI i_3) (-1))) H locs ls ⟨((show (sA p_3 3 (wr (gA p_3 3) 41 (nI i_3) (-1))) = feC i_3 p_3 from (by first | with_reducible rfl | (simp only [feC, gi_sl, gi_sA, gi_sB, gi_si_s, gi_si_n, gl_si, gl_sA, gl_sB, gl_sl_s, gl_sl_n, gA_si, gA_sl, gA_sB, gA_sA_s, gA_sA_n, gB_si, gB_sl, gB_sA, gB_sB_s, gB_sB_n, Nat.reduceBEq, if_true, if_false, eq_self, Bool.false_eq_true, reduceCtorEq, not_true_eq_false, not_false_eq_true, decide_true, decide_false, cond_true, cond_false, Bool.true_and, Bool.false_and, Bool.and_true, Bool.and_false, Bool.true_or, Bool.false_or, Bool.or_true, Bool.or_false, b2i_tt, b2i_ff]; done) | rfl)).trans (lp_go h_3)), hP, hD, hS, lv_sub hl [1, 2, 3, 4, 0] rfl⟩
  · obtain ⟨h_2, hP, hD, hS, hl⟩ := hI
    have hP : va_P D vwCl (XW ad cI cJ co fl ra li re wa pi) H := hP
    have hD : va_D A (XW ad cI cJ co fl ra li re wa pi) := hD
    have hl : lv_has ls 11 [(0, .ref (ad 5)), (1, .long p_2.1), (3, .long p_2.2), (5, .int (nI i_2))] := hl
    refine lv_iload hx hb dX5_findEntries_13 (lv_at hl 3 rfl) ?_
    refine lv_bipush (v := 40) hx hb dX5_findEntries_15 (by decide) ?_
    refine lv_icmp_ge (tgt := 49) hx hb dX5_findEntries_17 (by decide) (fun c_17 => absurd c_17 (nI_ge hi_2 (by decide))) (fun _ => ?_)
    refine lv_aload_n hx hb dX5_findEntries_20 rfl (lv_at hl 0 rfl) ?_
    refine va_get (D := D) (ci := 5) (v := .ref (ad 24)) (C := RX5) (T := TX5) (N := 8) hx hb hg inGX5 hown hK hP 5 rfl rfl 0 (by decide) (hg _ mw_166) (fun _ h9 => h9) rfl dX5_findEntries_21 ?_
    refine lv_iload hx hb dX5_findEntries_24 (lv_at hl 3 rfl) ?_
    refine kL (rSN hx hb hml hown hg hN hK hP hD (c_atL l D cI cJ (XW ad cI cJ co fl ra li re wa pi) 24 (ad 24) 40 (gB re 0) (nI i_2) rfl (by decide)) mw_81 nw_84 mw_83 mw_77 pd_X7_at_ ⟨Nat.le_of_ble_eq_true rfl, Nat.le_of_ble_eq_true rfl⟩ rfl hl.1 rfl (Nat.le_of_ble_eq_true rfl) dX5_findEntries_26 ⟨Nat.le_of_ble_eq_true rfl, Nat.le_of_ble_eq_true rfl⟩) hD hS hA (fun r_10 u_10 H locs hp hP hD hS => ?_)
    obtain ⟨er, eu⟩ := hp
    obtain rfl := er.symm
    obtain rfl := eu.symm
    refine lv_lstore (lv' := [(6, .long (rdL (gB re 0) 40 (nI i_2))), (0, .ref (ad 5)), (1, .long p_2.1), (3, .long p_2.2), (5, .int (nI i_2))]) hx hb dX5_findEntries_29 hl (by decide) rfl (fun ls hl => ?_)
    refine lv_lload_n hx hb dX5_findEntries_31 rfl (lv_at hl 3 rfl) ?_
    refine lv_lload_n hx hb dX5_findEntries_32 rfl (lv_at hl 2 rfl) ?_
    refine lv_lload hx hb dX5_findEntries_33 (lv_at hl 0 rfl) ?_
    refine lv_land hx hb dX5_findEntries_35 ?_
    refine lv_lor hx hb dX5_findEntries_36 ?_
    refine lv_lstore_n (lv' := [(3, .long (p_2.2 ||| (p_2.1 &&& (rdL (gB re 0) 40 (nI i_2))))), (6, .long (rdL (gB re 0) 40 (nI i_2))), (0, .ref (ad 5)), (1, .long p_2.1), (5, .int (nI i_2))]) hx hb dX5_findEntries_37 rfl hl (by decide) rfl (fun ls hl => ?_)
    refine lv_lload_n hx hb dX5_findEntries_38 rfl (lv_at hl 3 rfl) ?_
    refine lv_lload hx hb dX5_findEntries_39 (lv_at hl 1 rfl) ?_
    refine lv_lor hx hb dX5_findEntries_41 ?_
    refine lv_lstore_n (lv' := [(1, .long (p_2.1 ||| (rdL (gB re 0) 40 (nI i_2)))), (3, .long (p_2.2 ||| (p_2.1 &&& (rdL (gB re 0) 40 (nI i_2))))), (6, .long (rdL (gB re 0) 40 (nI i_2))), (0, .ref (ad 5)), (5, .int (nI i_2))]) hx hb dX5_findEntries_42 rfl hl (by decide) rfl (fun ls hl => ?_)
    refine lv_iinc (v := (nI (i_2 + 1))) (lv' := [(5, .int (nI (i_2 + 1))), (1, .long (p_2.1 ||| (rdL (gB re 0) 40 (nI i_2)))), (3, .long (p_2.2 ||| (p_2.1 &&& (rdL (gB re 0) 40 (nI i_2))))), (6, .long (rdL (gB re 0) 40 (nI i_2))), (0, .ref (ad 5))]) hx hb dX5_findEntries_43 hl (k := 4) rfl (nI_1 i_2) (by decide) rfl (fun ls hl => ?_)
    refine lv_goto (tgt := 13) hx hb dX5_findEntries_46 (by decide) ?_
    exact ih_2 ((p_2.1 ||| (rdL (gB re 0) 40 (nI i_2))), (p_2.2 ||| (p_2.1 &&& (rdL (gB re 0) 40 (nI i_2))))) H locs ls ⟨((show ((p_2.1 ||| (rdL (gB re 0) 40 (nI i_2))), (p_2.2 ||| (p_2.1 &&& (rdL (gB re 0) 40 (nI i_2))))) = (feA re) i_2 p_2 from (by first | with_reducible rfl | (simp only [feA, gi_sl, gi_sA, gi_sB, gi_si_s, gi_si_n, gl_si, gl_sA, gl_sB, gl_sl_s, gl_sl_n, gA_si, gA_sl, gA_sB, gA_sA_s, gA_sA_n, gB_si, gB_sl, gB_sA, gB_sB_s, gB_sB_n, Nat.reduceBEq, if_true, if_false, eq_self, Bool.false_eq_true, reduceCtorEq, not_true_eq_false, not_false_eq_true, decide_true, decide_false, cond_true, cond_false, Bool.true_and, Bool.false_and, Bool.and_true, Bool.and_false, Bool.true_or, Bool.false_or, Bool.or_true, Bool.or_false, b2i_tt, b2i_ff]; done) | rfl)).trans (lp_go h_2)), hP, hD, hS, lv_sub hl [4, 1, 2, 0] rfl⟩
set_option maxHeartbeats 4000000 in
set_option maxRecDepth 100000 in
theorem c_takeStep (l : Launch) (D : va_G) (cI cJ : ClassId) (ad : Nat → Nat) (co fl ra li re wa pi : Ob) : CT l D (TY cI cJ) yX5_takeStep (.code yX5_takeStep cX5_takeStep 3 (some Jvm.ClassFile.FieldType.boolean)) 4 0 0 (XW ad cI cJ co fl ra li re wa pi) [.ref (ad 5)] (QI D (TY cI cJ) (fun r u => r = (b2i (takeStep re).2) ∧ u = (XW ad cI cJ co fl ra li (takeStep re).1 wa pi))) := by
  refine ent (by decide) (Nat.le_of_ble_eq_true rfl) ?_
  intro p e s m below meth c ls A hx hb hr hg hown hml hlocks hnm hP hK hD hS hA hN hl
  have hl : lv_has ls 3 [(0, .ref (ad 5))] := hl
  refine lv_aload_n hx hb dX5_takeStep_0 rfl (lv_at hl 0 rfl) ?_
  refine kV (rV (q0 := 5) (ci := 5) hx hb hml hown hg hN hK hP hD (c_findEntries l D cI cJ ad co fl ra li re wa pi) mw_184 mw_185 mw_186 mw_187 mw_173 pdv_X5_findEntries ⟨Nat.le_of_ble_eq_true rfl, Nat.le_of_ble_eq_true rfl⟩ rfl rfl rfl hl.1 rfl (Nat.le_of_ble_eq_true rfl) dX5_takeStep_1 ⟨Nat.le_of_ble_eq_true rfl, Nat.le_of_ble_eq_true rfl⟩) hD hS hA (fun u_1 H locs hp hP hD hS => ?_)
  obtain rfl := hp.symm
  have hP : va_P D vwCl (XW ad cI cJ co fl ra li (findEntries re) wa pi) H := hP
  have hD : va_D A (XW ad cI cJ co fl ra li (findEntries re) wa pi) := hD
  refine lv_iconst (v := 0) hx hb dX5_takeStep_4 (by decide) ?_
  refine lv_istore_n (lv' := [(1, .int 0), (0, .ref (ad 5))]) hx hb dX5_takeStep_5 rfl hl (by decide) rfl (fun ls hl => ?_)
  refine w_loop (σ := Unit) (fun (i_2 : Nat) (p_2 : Unit) (H : Heap) (locs : List Loc) (ls : Array Slot) => p_2 = () ∧ (fnd (isFound (findEntries re)) i_2 = i_2) ∧ va_P D vwCl (XW ad cI cJ co fl ra li (findEntries re) wa pi) H ∧ va_D A (XW ad cI cJ co fl ra li (findEntries re) wa pi) ∧ va_S A s.heap H locs ∧ lv_has ls 3 [(0, .ref (ad 5)), (1, .int (nI i_2))]) (40) (fun p_2 H locs ls hI => ?_) (fun i_2 p_2 H locs ls hi_2 hI ih_2 => ?_) 0 () (Nat.zero_le _) ⟨rfl, rfl, hP, hD, hS, (by rw [nI_0]; exact lv_sub hl [1, 0] rfl)⟩
  · obtain ⟨h_2, hf_2, hP, hD, hS, hl⟩ := hI
    have h_2 := h_2.symm
    subst h_2
    have hP : va_P D vwCl (XW ad cI cJ co fl ra li (findEntries re) wa pi) H := hP
    have hD : va_D A (XW ad cI cJ co fl ra li (findEntries re) wa pi) := hD
    have hl : lv_has ls 3 [(0, .ref (ad 5)), (1, .int (nI 40))] := hl
    refine lv_iload_n hx hb dX5_takeStep_6 rfl (lv_at hl 1 rfl) ?_
    refine lv_bipush (v := 40) hx hb dX5_takeStep_7 (by decide) ?_
    refine lv_icmp_ge (tgt := 86) hx hb dX5_takeStep_9 (by decide) (fun _ => ?_) (fun c_9 => absurd (by decide) c_9)
    refine lv_iconst (v := 0) hx hb dX5_takeStep_86 (by decide) ?_
    exact W.zret (v := 0) hx hb hr rfl (fun t ht hW => ⟨⟨0, (XW ad cI cJ co fl ra li (findEntries re) wa pi), rfl, ⟨(show (0 : Int32) = b2i (takeStep re).2 from by rw [ts_no hf_2]; rfl), xw_eq rfl rfl rfl rfl (show (findEntries re) = (takeStep re).1 from by rw [ts_no hf_2]) rfl rfl⟩, ⟨by rw [ht]; exact hP, va_K.moved hW.alike hK, hD⟩⟩, hS.F ht⟩) hS.2.2 dX5_takeStep_87
  · obtain ⟨h_2, hf_2, hP, hD, hS, hl⟩ := hI
    have hP : va_P D vwCl (XW ad cI cJ co fl ra li (findEntries re) wa pi) H := hP
    have hD : va_D A (XW ad cI cJ co fl ra li (findEntries re) wa pi) := hD
    have hl : lv_has ls 3 [(0, .ref (ad 5)), (1, .int (nI i_2))] := hl
    refine lv_iload_n hx hb dX5_takeStep_6 rfl (lv_at hl 1 rfl) ?_
    refine lv_bipush (v := 40) hx hb dX5_takeStep_7 (by decide) ?_
    refine lv_icmp_ge (tgt := 86) hx hb dX5_takeStep_9 (by decide) (fun c_9 => absurd c_9 (nI_ge hi_2 (by decide))) (fun _ => ?_)
    refine lv_aload_n hx hb dX5_takeStep_12 rfl (lv_at hl 0 rfl) ?_
    refine va_get (D := D) (ci := 5) (v := .long (gl (findEntries re) 0)) (C := RX5) (T := TX5) (N := 8) hx hb hg inGX5 hown hK hP 5 rfl rfl 5 (by decide) (hg _ mw_178) (fun _ h9 => h9) rfl dX5_takeStep_13 ?_
    refine lv_iload_n hx hb dX5_takeStep_16 rfl (lv_at hl 1 rfl) ?_
    refine kI (rSN hx hb hml hown hg hN hK hP hD (c_has l D cI cJ (XW ad cI cJ co fl ra li (findEntries re) wa pi) (gl (findEntries re) 0) (nI i_2)) mw_89 nw_83 mw_90 mw_77 pd_X7_has ⟨Nat.le_of_ble_eq_true rfl, Nat.le_of_ble_eq_true rfl⟩ rfl hl.1 rfl (Nat.le_of_ble_eq_true rfl) dX5_takeStep_17 ⟨Nat.le_of_ble_eq_true rfl, Nat.le_of_ble_eq_true rfl⟩) hD hS hA (fun r_3 u_3 H locs hp hP hD hS => ?_)
    obtain ⟨er, eu⟩ := hp
    obtain rfl := er.symm
    obtain rfl := eu.symm
    refine lv_if_eq (tgt := 31) hx hb dX5_takeStep_20 (by decide) (fun c_20 => ?_) (fun c_20 => ?_)
    · have c_20 : ¬ (hs (gl (findEntries re) 0) (nI i_2)) = true := b2i_0 c_20
      refine lv_iconst (v := (-1)) hx hb dX5_takeStep_31 (by decide) ?_
      refine lv_istore_n (lv' := [(2, .int (-1)), (0, .ref (ad 5)), (1, .int (nI i_2))]) hx hb dX5_takeStep_32 rfl hl (by decide) rfl (fun ls hl => ?_)
      refine lv_iload_n hx hb dX5_takeStep_33 rfl (lv_at hl 0 rfl) ?_
      refine lv_iconst (v := (-1)) hx hb dX5_takeStep_34 (by decide) ?_
      refine lv_icmp_eq (tgt := 80) hx hb dX5_takeStep_35 (by decide) (fun _ => ?_) (fun c_35 => absurd (by decide) c_35)
      refine lv_iinc (v := (nI (i_2 + 1))) (lv' := [(1, .int (nI (i_2 + 1))), (2, .int (-1)), (0, .ref (ad 5))]) hx hb dX5_takeStep_80 hl (k := 2) rfl (nI_1 i_2) (by decide) rfl (fun ls hl => ?_)
      refine lv_goto (tgt := 6) hx hb dX5_takeStep_83 (by decide) ?_
      exact ih_2 () H locs ls ⟨rfl, (fnd_s hf_2 (show isFound (findEntries re) i_2 = false from (by first | (simp only [isFound, foundAt, if_neg c_20, bf_of c_20, gi_sl, gi_sA, gi_sB, gi_si_s, gi_si_n, gl_si, gl_sA, gl_sB, gl_sl_s, gl_sl_n, gA_si, gA_sl, gA_sB, gA_sA_s, gA_sA_n, gB_si, gB_sl, gB_sA, gB_sB_s, gB_sB_n, Nat.reduceBEq, if_true, if_false, eq_self, Bool.false_eq_true, reduceCtorEq, not_true_eq_false, not_false_eq_true, decide_true, decide_false, cond_true, cond_false, Bool.true_and, Bool.false_and, Bool.and_true, Bool.and_false, Bool.true_or, Bool.false_or, Bool.or_true, Bool.or_false, b2i_tt, b2i_ff]; done) | (simp only [isFound, foundAt, if_neg c_20, bf_of c_20, gi_sl, gi_sA, gi_sB, gi_si_s, gi_si_n, gl_si, gl_sA, gl_sB, gl_sl_s, gl_sl_n, gA_si, gA_sl, gA_sB, gA_sA_s, gA_sA_n, gB_si, gB_sl, gB_sA, gB_sB_s, gB_sB_n, Nat.reduceBEq, if_true, if_false, eq_self, Bool.false_eq_true, reduceCtorEq, not_true_eq_false, not_false_eq_true, decide_true, decide_false, cond_true, cond_false, Bool.true_and, Bool.false_and, Bool.and_true, Bool.and_false, Bool.true_or, Bool.false_or, Bool.or_true, Bool.or_false, b2i_tt, b2i_ff]; rfl) | (simp [isFound, foundAt, c_20, gi_sl, gi_sA, gi_sB, gi_si_s, gi_si_n, gl_si, gl_sA, gl_sB, gl_sl_s, gl_sl_n, gA_si, gA_sl, gA_sB, gA_sA_s, gA_sA_n, gB_si, gB_sl, gB_sA, gB_sB_s, gB_sB_n, Nat.reduceBEq]; done)))), hP, hD, hS, lv_sub hl [2, 0] rfl⟩
    · have c_20 : (hs (gl (findEntries re) 0) (nI i_2)) = true := b2i_1 c_20
      refine lv_aload_n hx hb dX5_takeStep_23 rfl (lv_at hl 0 rfl) ?_
      refine lv_iload_n hx hb dX5_takeStep_24 rfl (lv_at hl 1 rfl) ?_
      refine kI (rV (q0 := 5) (ci := 5) hx hb hml hown hg hN hK hP hD (c_ruleFor l D cI cJ ad co fl ra li (findEntries re) wa pi (nI i_2)) mw_188 mw_189 mw_190 mw_191 mw_173 pdv_X5_ruleFor ⟨Nat.le_of_ble_eq_true rfl, Nat.le_of_ble_eq_true rfl⟩ rfl rfl rfl hl.1 rfl (Nat.le_of_ble_eq_true rfl) dX5_takeStep_25 ⟨Nat.le_of_ble_eq_true rfl, Nat.le_of_ble_eq_true rfl⟩) hD hS hA (fun r_4 u_4 H locs hp hP hD hS => ?_)
      obtain ⟨er, eu⟩ := hp
      obtain rfl := er.symm
      obtain rfl := eu.symm
      refine lv_goto (tgt := 32) hx hb dX5_takeStep_28 (by decide) ?_
      refine lv_istore_n (lv' := [(2, .int (ruleFor (findEntries re) (nI i_2))), (0, .ref (ad 5)), (1, .int (nI i_2))]) hx hb dX5_takeStep_32 rfl hl (by decide) rfl (fun ls hl => ?_)
      refine lv_iload_n hx hb dX5_takeStep_33 rfl (lv_at hl 0 rfl) ?_
      refine lv_iconst (v := (-1)) hx hb dX5_takeStep_34 (by decide) ?_
      refine lv_icmp_eq (tgt := 80) hx hb dX5_takeStep_35 (by decide) (fun c_35 => ?_) (fun c_35 => ?_)
      · refine lv_iinc (v := (nI (i_2 + 1))) (lv' := [(1, .int (nI (i_2 + 1))), (2, .int (ruleFor (findEntries re) (nI i_2))), (0, .ref (ad 5))]) hx hb dX5_takeStep_80 hl (k := 2) rfl (nI_1 i_2) (by decide) rfl (fun ls hl => ?_)
        refine lv_goto (tgt := 6) hx hb dX5_takeStep_83 (by decide) ?_
        exact ih_2 () H locs ls ⟨rfl, (fnd_s hf_2 (show isFound (findEntries re) i_2 = false from (by first | (simp only [isFound, foundAt, if_pos c_20, c_20, if_pos c_35, decide_eq_true c_35, decide_eq_false (not_not_intro c_35), gi_sl, gi_sA, gi_sB, gi_si_s, gi_si_n, gl_si, gl_sA, gl_sB, gl_sl_s, gl_sl_n, gA_si, gA_sl, gA_sB, gA_sA_s, gA_sA_n, gB_si, gB_sl, gB_sA, gB_sB_s, gB_sB_n, Nat.reduceBEq, if_true, if_false, eq_self, Bool.false_eq_true, reduceCtorEq, not_true_eq_false, not_false_eq_true, decide_true, decide_false, cond_true, cond_false, Bool.true_and, Bool.false_and, Bool.and_true, Bool.and_false, Bool.true_or, Bool.false_or, Bool.or_true, Bool.or_false, b2i_tt, b2i_ff]; done) | (simp only [isFound, foundAt, if_pos c_20, c_20, if_pos c_35, decide_eq_true c_35, decide_eq_false (not_not_intro c_35), gi_sl, gi_sA, gi_sB, gi_si_s, gi_si_n, gl_si, gl_sA, gl_sB, gl_sl_s, gl_sl_n, gA_si, gA_sl, gA_sB, gA_sA_s, gA_sA_n, gB_si, gB_sl, gB_sA, gB_sB_s, gB_sB_n, Nat.reduceBEq, if_true, if_false, eq_self, Bool.false_eq_true, reduceCtorEq, not_true_eq_false, not_false_eq_true, decide_true, decide_false, cond_true, cond_false, Bool.true_and, Bool.false_and, Bool.and_true, Bool.and_false, Bool.true_or, Bool.false_or, Bool.or_true, Bool.or_false, b2i_tt, b2i_ff]; rfl) | (simp [isFound, foundAt, c_20, c_35, gi_sl, gi_sA, gi_sB, gi_si_s, gi_si_n, gl_si, gl_sA, gl_sB, gl_sl_s, gl_sl_n, gA_si, gA_sl, gA_sB, gA_sA_s, gA_sA_n, gB_si, gB_sl, gB_sA, gB_sB_s, gB_sB_n, Nat.reduceBEq]; done)))), hP, hD, hS, lv_sub hl [2, 0] rfl⟩
      · refine lv_aload_n hx hb dX5_takeStep_38 rfl (lv_at hl 1 rfl) ?_
        refine va_get (D := D) (ci := 5) (v := .ref (ad 26)) (C := RX5) (T := TX5) (N := 8) hx hb hg inGX5 hown hK hP 5 rfl rfl 2 (by decide) (hg _ mw_192) (fun _ h9 => h9) rfl dX5_takeStep_39 ?_
        refine lv_aload_n hx hb dX5_takeStep_42 rfl (lv_at hl 1 rfl) ?_
        refine va_get (D := D) (ci := 5) (v := .int (gi (findEntries re) 0)) (C := RX5) (T := TX5) (N := 8) hx hb hg inGX5 hown hK hP 5 rfl rfl 6 (by decide) (hg _ mw_193) (fun _ h9 => h9) rfl dX5_takeStep_43 ?_
        refine lv_iload_n hx hb dX5_takeStep_46 rfl (lv_at hl 0 rfl) ?_
        refine kV (rSN hx hb hml hown hg hN hK hP hD (c_put l D cI cJ (XW ad cI cJ co fl ra li (findEntries re) wa pi) 26 (ad 26) 120 (gA (findEntries re) 1) (gi (findEntries re) 0) (ruleFor (findEntries re) (nI i_2)) rfl (by decide)) mw_92 nw_86 mw_93 mw_77 pd_X7_put ⟨Nat.le_of_ble_eq_true rfl, Nat.le_of_ble_eq_true rfl⟩ rfl hl.1 rfl (Nat.le_of_ble_eq_true rfl) dX5_takeStep_47 ⟨Nat.le_of_ble_eq_true rfl, Nat.le_of_ble_eq_true rfl⟩) hD hS hA (fun u_5 H locs hp hP hD hS => ?_)
        obtain rfl := hp.symm
        have hP : va_P D vwCl (XW ad cI cJ co fl ra li (sA (findEntries re) 1 (wr (gA (findEntries re) 1) 120 (gi (findEntries re) 0) (ruleFor (findEntries re) (nI i_2)))) wa pi) H := hP
        have hD : va_D A (XW ad cI cJ co fl ra li (sA (findEntries re) 1 (wr (gA (findEntries re) 1) 120 (gi (findEntries re) 0) (ruleFor (findEntries re) (nI i_2)))) wa pi) := hD
        refine lv_aload_n hx hb dX5_takeStep_50 rfl (lv_at hl 1 rfl) ?_
        refine va_get (D := D) (ci := 5) (v := .ref (ad 27)) (C := RX5) (T := TX5) (N := 8) hx hb hg inGX5 hown hK hP 5 rfl rfl 3 (by decide) (hg _ mw_194) (fun _ h9 => h9) rfl dX5_takeStep_51 ?_
        refine lv_aload_n hx hb dX5_takeStep_54 rfl (lv_at hl 1 rfl) ?_
        refine va_get (D := D) (ci := 5) (v := .int (gi (findEntries re) 0)) (C := RX5) (T := TX5) (N := 8) hx hb hg inGX5 hown hK hP 5 rfl rfl 6 (by decide) (hg _ mw_193) (fun _ h9 => h9) rfl dX5_takeStep_55 ?_
        refine lv_iload_n hx hb dX5_takeStep_58 rfl (lv_at hl 2 rfl) ?_
        refine kV (rSN hx hb hml hown hg hN hK hP hD (c_put l D cI cJ (XW ad cI cJ co fl ra li (sA (findEntries re) 1 (wr (gA (findEntries re) 1) 120 (gi (findEntries re) 0) (ruleFor (findEntries re) (nI i_2)))) wa pi) 27 (ad 27) 120 (gA (findEntries re) 2) (gi (findEntries re) 0) (nI i_2) rfl (by decide)) mw_92 nw_86 mw_93 mw_77 pd_X7_put ⟨Nat.le_of_ble_eq_true rfl, Nat.le_of_ble_eq_true rfl⟩ rfl hl.1 rfl (Nat.le_of_ble_eq_true rfl) dX5_takeStep_59 ⟨Nat.le_of_ble_eq_true rfl, Nat.le_of_ble_eq_true rfl⟩) hD hS hA (fun u_6 H locs hp hP hD hS => ?_)
        obtain rfl := hp.symm
        have hP : va_P D vwCl (XW ad cI cJ co fl ra li (sA (sA (findEntries re) 1 (wr (gA (findEntries re) 1) 120 (gi (findEntries re) 0) (ruleFor (findEntries re) (nI i_2)))) 2 (wr (gA (findEntries re) 2) 120 (gi (findEntries re) 0) (nI i_2))) wa pi) H := hP
        have hD : va_D A (XW ad cI cJ co fl ra li (sA (sA (findEntries re) 1 (wr (gA (findEntries re) 1) 120 (gi (findEntries re) 0) (ruleFor (findEntries re) (nI i_2)))) 2 (wr (gA (findEntries re) 2) 120 (gi (findEntries re) 0) (nI i_2))) wa pi) := hD
        refine lv_aload_n hx hb dX5_takeStep_62 rfl (lv_at hl 1 rfl) ?_
        refine lv_dup hx hb dX5_takeStep_63 rfl ?_
        refine va_get (D := D) (ci := 5) (v := .int (gi (findEntries re) 0)) (C := RX5) (T := TX5) (N := 8) hx hb hg inGX5 hown hK hP 5 rfl rfl 6 (by decide) (hg _ mw_193) (fun _ h9 => h9) rfl dX5_takeStep_64 ?_
        refine lv_iconst (v := 1) hx hb dX5_takeStep_67 (by decide) ?_
        refine lv_iadd hx hb dX5_takeStep_68 ?_
        refine va_put (D := D) (ci := 5) (v := .int ((gi (findEntries re) 0) + 1)) (C := RX5) (T := TX5) (N := 8) hx hb hg inGX5 tyX5 tyX5_ok nmX5 hown hK hP hD hS 5 rfl rfl 6 (by decide) (hg _ mw_193) (fun _ h9 => h9) rfl (tyX5_ok 6 (by decide)) rfl rfl (Nat.le_of_ble_eq_true rfl) dX5_takeStep_69 (fun H locs hP hD hS => ?_)
        have hP : va_P D vwCl (XW ad cI cJ co fl ra li (si (sA (sA (findEntries re) 1 (wr (gA (findEntries re) 1) 120 (gi (findEntries re) 0) (ruleFor (findEntries re) (nI i_2)))) 2 (wr (gA (findEntries re) 2) 120 (gi (findEntries re) 0) (nI i_2))) 0 ((gi (findEntries re) 0) + 1)) wa pi) H := hP
        have hD : va_D A (XW ad cI cJ co fl ra li (si (sA (sA (findEntries re) 1 (wr (gA (findEntries re) 1) 120 (gi (findEntries re) 0) (ruleFor (findEntries re) (nI i_2)))) 2 (wr (gA (findEntries re) 2) 120 (gi (findEntries re) 0) (nI i_2))) 0 ((gi (findEntries re) 0) + 1)) wa pi) := hD
        refine lv_aload_n hx hb dX5_takeStep_72 rfl (lv_at hl 1 rfl) ?_
        refine lv_iload_n hx hb dX5_takeStep_73 rfl (lv_at hl 0 rfl) ?_
        refine lv_iload_n hx hb dX5_takeStep_74 rfl (lv_at hl 2 rfl) ?_
        refine kV (rV (q0 := 5) (ci := 5) hx hb hml hown hg hN hK hP hD (c_apply l D cI cJ ad co fl ra li (si (sA (sA (findEntries re) 1 (wr (gA (findEntries re) 1) 120 (gi (findEntries re) 0) (ruleFor (findEntries re) (nI i_2)))) 2 (wr (gA (findEntries re) 2) 120 (gi (findEntries re) 0) (nI i_2))) 0 ((gi (findEntries re) 0) + 1)) wa pi (ruleFor (findEntries re) (nI i_2)) (nI i_2)) mw_195 mw_196 mw_197 mw_198 mw_173 pdv_X5_apply ⟨Nat.le_of_ble_eq_true rfl, Nat.le_of_ble_eq_true rfl⟩ rfl rfl rfl hl.1 rfl (Nat.le_of_ble_eq_true rfl) dX5_takeStep_75 ⟨Nat.le_of_ble_eq_true rfl, Nat.le_of_ble_eq_true rfl⟩) hD hS hA (fun u_7 H locs hp hP hD hS => ?_)
        obtain rfl := hp.symm
        have hP : va_P D vwCl (XW ad cI cJ co fl ra li (apply (si (sA (sA (findEntries re) 1 (wr (gA (findEntries re) 1) 120 (gi (findEntries re) 0) (ruleFor (findEntries re) (nI i_2)))) 2 (wr (gA (findEntries re) 2) 120 (gi (findEntries re) 0) (nI i_2))) 0 ((gi (findEntries re) 0) + 1)) (ruleFor (findEntries re) (nI i_2)) (nI i_2)) wa pi) H := hP
        have hD : va_D A (XW ad cI cJ co fl ra li (apply (si (sA (sA (findEntries re) 1 (wr (gA (findEntries re) 1) 120 (gi (findEntries re) 0) (ruleFor (findEntries re) (nI i_2)))) 2 (wr (gA (findEntries re) 2) 120 (gi (findEntries re) 0) (nI i_2))) 0 ((gi (findEntries re) 0) + 1)) (ruleFor (findEntries re) (nI i_2)) (nI i_2)) wa pi) := hD
        refine lv_iconst (v := 1) hx hb dX5_takeStep_78 (by decide) ?_
        exact W.zret (v := 1) hx hb hr rfl (fun t ht hW => ⟨⟨1, (XW ad cI cJ co fl ra li (apply (si (sA (sA (findEntries re) 1 (wr (gA (findEntries re) 1) 120 (gi (findEntries re) 0) (ruleFor (findEntries re) (nI i_2)))) 2 (wr (gA (findEntries re) 2) 120 (gi (findEntries re) 0) (nI i_2))) 0 ((gi (findEntries re) 0) + 1)) (ruleFor (findEntries re) (nI i_2)) (nI i_2)) wa pi), rfl, ⟨(show (1 : Int32) = b2i (takeStep re).2 from by rw [(ts_yes hi_2 hf_2 (show isFound (findEntries re) i_2 = true from (by first | (simp only [isFound, foundAt, if_pos c_20, c_20, if_neg c_35, decide_eq_false c_35, decide_eq_true c_35, if_pos c_35, gi_sl, gi_sA, gi_sB, gi_si_s, gi_si_n, gl_si, gl_sA, gl_sB, gl_sl_s, gl_sl_n, gA_si, gA_sl, gA_sB, gA_sA_s, gA_sA_n, gB_si, gB_sl, gB_sA, gB_sB_s, gB_sB_n, Nat.reduceBEq, if_true, if_false, eq_self, Bool.false_eq_true, reduceCtorEq, not_true_eq_false, not_false_eq_true, decide_true, decide_false, cond_true, cond_false, Bool.true_and, Bool.false_and, Bool.and_true, Bool.and_false, Bool.true_or, Bool.false_or, Bool.or_true, Bool.or_false, b2i_tt, b2i_ff]; done) | (simp only [isFound, foundAt, if_pos c_20, c_20, if_neg c_35, decide_eq_false c_35, decide_eq_true c_35, if_pos c_35, gi_sl, gi_sA, gi_sB, gi_si_s, gi_si_n, gl_si, gl_sA, gl_sB, gl_sl_s, gl_sl_n, gA_si, gA_sl, gA_sB, gA_sA_s, gA_sA_n, gB_si, gB_sl, gB_sA, gB_sB_s, gB_sB_n, Nat.reduceBEq, if_true, if_false, eq_self, Bool.false_eq_true, reduceCtorEq, not_true_eq_false, not_false_eq_true, decide_true, decide_false, cond_true, cond_false, Bool.true_and, Bool.false_and, Bool.and_true, Bool.and_false, Bool.true_or, Bool.false_or, Bool.or_true, Bool.or_false, b2i_tt, b2i_ff]; rfl) | (simp [isFound, foundAt, c_20, c_35, gi_sl, gi_sA, gi_sB, gi_si_s, gi_si_n, gl_si, gl_sA, gl_sB, gl_sl_s, gl_sl_n, gA_si, gA_sl, gA_sB, gA_sA_s, gA_sA_n, gB_si, gB_sl, gB_sA, gB_sB_s, gB_sB_n, Nat.reduceBEq]; done))))]; rfl), xw_eq rfl rfl rfl rfl (show (apply (si (sA (sA (findEntries re) 1 (wr (gA (findEntries re) 1) 120 (gi (findEntries re) 0) (ruleFor (findEntries re) (nI i_2)))) 2 (wr (gA (findEntries re) 2) 120 (gi (findEntries re) 0) (nI i_2))) 0 ((gi (findEntries re) 0) + 1)) (ruleFor (findEntries re) (nI i_2)) (nI i_2)) = (takeStep re).1 from by rw [(ts_yes hi_2 hf_2 (show isFound (findEntries re) i_2 = true from (by first | (simp only [isFound, foundAt, if_pos c_20, c_20, if_neg c_35, decide_eq_false c_35, decide_eq_true c_35, if_pos c_35, gi_sl, gi_sA, gi_sB, gi_si_s, gi_si_n, gl_si, gl_sA, gl_sB, gl_sl_s, gl_sl_n, gA_si, gA_sl, gA_sB, gA_sA_s, gA_sA_n, gB_si, gB_sl, gB_sA, gB_sB_s, gB_sB_n, Nat.reduceBEq, if_true, if_false, eq_self, Bool.false_eq_true, reduceCtorEq, not_true_eq_false, not_false_eq_true, decide_true, decide_false, cond_true, cond_false, Bool.true_and, Bool.false_and, Bool.and_true, Bool.and_false, Bool.true_or, Bool.false_or, Bool.or_true, Bool.or_false, b2i_tt, b2i_ff]; done) | (simp only [isFound, foundAt, if_pos c_20, c_20, if_neg c_35, decide_eq_false c_35, decide_eq_true c_35, if_pos c_35, gi_sl, gi_sA, gi_sB, gi_si_s, gi_si_n, gl_si, gl_sA, gl_sB, gl_sl_s, gl_sl_n, gA_si, gA_sl, gA_sB, gA_sA_s, gA_sA_n, gB_si, gB_sl, gB_sA, gB_sB_s, gB_sB_n, Nat.reduceBEq, if_true, if_false, eq_self, Bool.false_eq_true, reduceCtorEq, not_true_eq_false, not_false_eq_true, decide_true, decide_false, cond_true, cond_false, Bool.true_and, Bool.false_and, Bool.and_true, Bool.and_false, Bool.true_or, Bool.false_or, Bool.or_true, Bool.or_false, b2i_tt, b2i_ff]; rfl) | (simp [isFound, foundAt, c_20, c_35, gi_sl, gi_sA, gi_sB, gi_si_s, gi_si_n, gl_si, gl_sA, gl_sB, gl_sl_s, gl_sl_n, gA_si, gA_sl, gA_sB, gA_sA_s, gA_sA_n, gB_si, gB_sl, gB_sA, gB_sB_s, gB_sB_n, Nat.reduceBEq]; done))))]; exact (by first | (simp only [tsPut, foundAt, if_pos c_20, c_20, if_neg c_35, decide_eq_false c_35, decide_eq_true c_35, if_pos c_35, gi_sl, gi_sA, gi_sB, gi_si_s, gi_si_n, gl_si, gl_sA, gl_sB, gl_sl_s, gl_sl_n, gA_si, gA_sl, gA_sB, gA_sA_s, gA_sA_n, gB_si, gB_sl, gB_sA, gB_sB_s, gB_sB_n, Nat.reduceBEq, if_true, if_false, eq_self, Bool.false_eq_true, reduceCtorEq, not_true_eq_false, not_false_eq_true, decide_true, decide_false, cond_true, cond_false, Bool.true_and, Bool.false_and, Bool.and_true, Bool.and_false, Bool.true_or, Bool.false_or, Bool.or_true, Bool.or_false, b2i_tt, b2i_ff]; done) | (simp only [tsPut, foundAt, if_pos c_20, c_20, if_neg c_35, decide_eq_false c_35, decide_eq_true c_35, if_pos c_35, gi_sl, gi_sA, gi_sB, gi_si_s, gi_si_n, gl_si, gl_sA, gl_sB, gl_sl_s, gl_sl_n, gA_si, gA_sl, gA_sB, gA_sA_s, gA_sA_n, gB_si, gB_sl, gB_sA, gB_sB_s, gB_sB_n, Nat.reduceBEq, if_true, if_false, eq_self, Bool.false_eq_true, reduceCtorEq, not_true_eq_false, not_false_eq_true, decide_true, decide_false, cond_true, cond_false, Bool.true_and, Bool.false_and, Bool.and_true, Bool.and_false, Bool.true_or, Bool.false_or, Bool.or_true, Bool.or_false, b2i_tt, b2i_ff]; rfl) | (simp [tsPut, foundAt, c_20, c_35, gi_sl, gi_sA, gi_sB, gi_si_s, gi_si_n, gl_si, gl_sA, gl_sB, gl_sl_s, gl_sl_n, gA_si, gA_sl, gA_sB, gA_sA_s, gA_sA_n, gB_si, gB_sl, gB_sA, gB_sB_s, gB_sB_n, Nat.reduceBEq]; done))) rfl rfl⟩, ⟨by rw [ht]; exact hP, va_K.moved hW.alike hK, hD⟩⟩, hS.F ht⟩) hS.2.2 dX5_takeStep_79
set_option maxHeartbeats 4000000 in
set_option maxRecDepth 100000 in
theorem c_reduce (l : Launch) (D : va_G) (cI cJ : ClassId) (ad : Nat → Nat) (co fl ra li re wa pi : Ob) : CT l D (TY cI cJ) yX5_reduce (.code yX5_reduce cX5_reduce 4 (none : Option FieldType)) 5 0 0 (XW ad cI cJ co fl ra li re wa pi) [.ref (ad 5), .ref (ad 2)] (QV D (TY cI cJ) (fun u => u = (XW ad cI cJ co fl ra li (reduce fl re) wa pi))) := by
  refine ent (by decide) (Nat.le_of_ble_eq_true rfl) ?_
  intro p e s m below meth c ls A hx hb hr hg hown hml hlocks hnm hP hK hD hS hA hN hl
  have hl : lv_has ls 4 [(0, .ref (ad 5)), (1, .ref (ad 2))] := hl
  refine lv_aload_n hx hb dX5_reduce_0 rfl (lv_at hl 0 rfl) ?_
  refine lv_aload_n hx hb dX5_reduce_1 rfl (lv_at hl 1 rfl) ?_
  refine va_getN (D := D) (ci := 1) (v := .long (gl fl 0)) (C := RX1) (T := TX1) (N := 11) hx hb hg inGX1 hown hK hP 2 rfl rfl 9 (by decide) (hN.use nw_32) (fun _ h9 => h9) rfl dX5_reduce_2 ?_
  refine va_put (D := D) (ci := 5) (v := .long (gl fl 0)) (C := RX5) (T := TX5) (N := 8) hx hb hg inGX5 tyX5 tyX5_ok nmX5 hown hK hP hD hS 5 rfl rfl 5 (by decide) (hg _ mw_178) (fun _ h9 => h9) rfl (tyX5_ok 5 (by decide)) rfl rfl (Nat.le_of_ble_eq_true rfl) dX5_reduce_5 (fun H locs hP hD hS => ?_)
  have hP : va_P D vwCl (XW ad cI cJ co fl ra li (sl re 0 (gl fl 0)) wa pi) H := hP
  have hD : va_D A (XW ad cI cJ co fl ra li (sl re 0 (gl fl 0)) wa pi) := hD
  refine lv_aload_n hx hb dX5_reduce_8 rfl (lv_at hl 0 rfl) ?_
  refine lv_iconst (v := 0) hx hb dX5_reduce_9 (by decide) ?_
  refine va_put (D := D) (ci := 5) (v := .int 0) (C := RX5) (T := TX5) (N := 8) hx hb hg inGX5 tyX5 tyX5_ok nmX5 hown hK hP hD hS 5 rfl rfl 6 (by decide) (hg _ mw_193) (fun _ h9 => h9) rfl (tyX5_ok 6 (by decide)) rfl rfl (Nat.le_of_ble_eq_true rfl) dX5_reduce_10 (fun H locs hP hD hS => ?_)
  have hP : va_P D vwCl (XW ad cI cJ co fl ra li (si (sl re 0 (gl fl 0)) 0 0) wa pi) H := hP
  have hD : va_D A (XW ad cI cJ co fl ra li (si (sl re 0 (gl fl 0)) 0 0) wa pi) := hD
  refine lv_iconst (v := 0) hx hb dX5_reduce_13 (by decide) ?_
  refine lv_istore_n (lv' := [(2, .int 0), (0, .ref (ad 5)), (1, .ref (ad 2))]) hx hb dX5_reduce_14 rfl hl (by decide) rfl (fun ls hl => ?_)
  refine w_loop (σ := Ob) (fun (i_1 : Nat) (p_1 : Ob) (H : Heap) (locs : List Loc) (ls : Array Slot) => p_1 = (lp (reInit fl) i_1 (si (sl re 0 (gl fl 0)) 0 0)) ∧ va_P D vwCl (XW ad cI cJ co fl ra li p_1 wa pi) H ∧ va_D A (XW ad cI cJ co fl ra li p_1 wa pi) ∧ va_S A s.heap H locs ∧ lv_has ls 4 [(0, .ref (ad 5)), (1, .ref (ad 2)), (2, .int (nI i_1))]) (40) (fun p_1 H locs ls hI => ?_) (fun i_1 p_1 H locs ls hi_1 hI ih_1 => ?_) 0 (si (sl re 0 (gl fl 0)) 0 0) (Nat.zero_le _) ⟨rfl, hP, hD, hS, (by rw [nI_0]; exact lv_sub hl [1, 2, 0] rfl)⟩
  · obtain ⟨h_1, hP, hD, hS, hl⟩ := hI
    have h_1 := h_1.symm
    subst h_1
    have hP : va_P D vwCl (XW ad cI cJ co fl ra li ((lp (reInit fl) (40) (si (sl re 0 (gl fl 0)) 0 0))) wa pi) H := hP
    have hD : va_D A (XW ad cI cJ co fl ra li ((lp (reInit fl) (40) (si (sl re 0 (gl fl 0)) 0 0))) wa pi) := hD
    have hl : lv_has ls 4 [(0, .ref (ad 5)), (1, .ref (ad 2)), (2, .int (nI 40))] := hl
    refine lv_iload_n hx hb dX5_reduce_15 rfl (lv_at hl 2 rfl) ?_
    refine lv_bipush (v := 40) hx hb dX5_reduce_16 (by decide) ?_
    refine lv_icmp_ge (tgt := 77) hx hb dX5_reduce_18 (by decide) (fun _ => ?_) (fun c_18 => absurd (by decide) c_18)
    refine lv_iconst (v := 1) hx hb dX5_reduce_77 (by decide) ?_
    refine lv_istore_n (lv' := [(2, .int 1), (0, .ref (ad 5)), (1, .ref (ad 2))]) hx hb dX5_reduce_78 rfl hl (by decide) rfl (fun ls hl => ?_)
    refine lv_iconst (v := 0) hx hb dX5_reduce_79 (by decide) ?_
    refine lv_istore_n (lv' := [(3, .int 0), (2, .int 1), (0, .ref (ad 5)), (1, .ref (ad 2))]) hx hb dX5_reduce_80 rfl hl (by decide) rfl (fun ls hl => ?_)
    refine w_loop (σ := Ob × Bool) (fun (i_2 : Nat) (p_2 : Ob × Bool) (H : Heap) (locs : List Loc) (ls : Array Slot) => p_2 = (lpW (fun p : Ob × Bool => p.2) (fun p : Ob × Bool => takeStep p.1) i_2 (((lp (reInit fl) (40) (si (sl re 0 (gl fl 0)) 0 0))), true)) ∧ va_P D vwCl (XW ad cI cJ co fl ra li p_2.1 wa pi) H ∧ va_D A (XW ad cI cJ co fl ra li p_2.1 wa pi) ∧ va_S A s.heap H locs ∧ lv_has ls 4 [(0, .ref (ad 5)), (1, .ref (ad 2)), (2, .int (b2i p_2.2)), (3, .int (nI i_2))]) (120) (fun p_2 H locs ls hI => ?_) (fun i_2 p_2 H locs ls hi_2 hI ih_2 => ?_) 0 (((lp (reInit fl) (40) (si (sl re 0 (gl fl 0)) 0 0))), true) (Nat.zero_le _) ⟨rfl, hP, hD, hS, (by rw [nI_0]; exact lv_sub hl [2, 3, 1, 0] rfl)⟩
    · obtain ⟨h_2, hP, hD, hS, hl⟩ := hI
      have h_2 := h_2.symm
      subst h_2
      have hP : va_P D vwCl (XW ad cI cJ co fl ra li ((lpW (fun p : Ob × Bool => p.2) (fun p : Ob × Bool => takeStep p.1) (120) (((lp (reInit fl) (40) (si (sl re 0 (gl fl 0)) 0 0))), true)).1) wa pi) H := hP
      have hD : va_D A (XW ad cI cJ co fl ra li ((lpW (fun p : Ob × Bool => p.2) (fun p : Ob × Bool => takeStep p.1) (120) (((lp (reInit fl) (40) (si (sl re 0 (gl fl 0)) 0 0))), true)).1) wa pi) := hD
      have hl : lv_has ls 4 [(0, .ref (ad 5)), (1, .ref (ad 2)), (2, .int (b2i (lpW (fun p : Ob × Bool => p.2) (fun p : Ob × Bool => takeStep p.1) (120) (((lp (reInit fl) (40) (si (sl re 0 (gl fl 0)) 0 0))), true)).2)), (3, .int (nI 120))] := hl
      refine lv_iload_n hx hb dX5_reduce_81 rfl (lv_at hl 3 rfl) ?_
      refine lv_bipush (v := 120) hx hb dX5_reduce_82 (by decide) ?_
      refine lv_icmp_ge (tgt := 102) hx hb dX5_reduce_84 (by decide) (fun _ => ?_) (fun c_84 => absurd (by decide) c_84)
      exact W.vret hx hb hr (fun t ht hW => ⟨⟨(XW ad cI cJ co fl ra li ((lpW (fun p : Ob × Bool => p.2) (fun p : Ob × Bool => takeStep p.1) (120) (((lp (reInit fl) (40) (si (sl re 0 (gl fl 0)) 0 0))), true)).1) wa pi), rfl, xw_eq rfl rfl rfl rfl (show ((lpW (fun p : Ob × Bool => p.2) (fun p : Ob × Bool => takeStep p.1) (120) (((lp (reInit fl) (40) (si (sl re 0 (gl fl 0)) 0 0))), true)).1) = (reduce fl re) from (by first | with_reducible rfl | (simp only [reduce, gi_sl, gi_sA, gi_sB, gi_si_s, gi_si_n, gl_si, gl_sA, gl_sB, gl_sl_s, gl_sl_n, gA_si, gA_sl, gA_sB, gA_sA_s, gA_sA_n, gB_si, gB_sl, gB_sA, gB_sB_s, gB_sB_n, Nat.reduceBEq, if_true, if_false, eq_self, Bool.false_eq_true, reduceCtorEq, not_true_eq_false, not_false_eq_true, decide_true, decide_false, cond_true, cond_false, Bool.true_and, Bool.false_and, Bool.and_true, Bool.and_false, Bool.true_or, Bool.false_or, Bool.or_true, Bool.or_false, b2i_tt, b2i_ff]; done) | rfl)) rfl rfl, ⟨by rw [ht]; exact hP, va_K.moved hW.alike hK, hD⟩⟩, hS.F ht⟩) hS.2.2 dX5_reduce_102
    · obtain ⟨h_2, hP, hD, hS, hl⟩ := hI
      have hP : va_P D vwCl (XW ad cI cJ co fl ra li p_2.1 wa pi) H := hP
      have hD : va_D A (XW ad cI cJ co fl ra li p_2.1 wa pi) := hD
      have hl : lv_has ls 4 [(0, .ref (ad 5)), (1, .ref (ad 2)), (2, .int (b2i p_2.2)), (3, .int (nI i_2))] := hl
      refine lv_iload_n hx hb dX5_reduce_81 rfl (lv_at hl 3 rfl) ?_
      refine lv_bipush (v := 120) hx hb dX5_reduce_82 (by decide) ?_
      refine lv_icmp_ge (tgt := 102) hx hb dX5_reduce_84 (by decide) (fun c_84 => absurd c_84 (nI_ge hi_2 (by decide))) (fun _ => ?_)
      refine lv_iload_n hx hb dX5_reduce_87 rfl (lv_at hl 2 rfl) ?_
      refine lv_if_eq (tgt := 102) hx hb dX5_reduce_88 (by decide) (fun c_88 => ?_) (fun c_88 => ?_)
      · have c_88 : ¬ p_2.2 = true := b2i_0 c_88
        have h_2 : p_2 = (lpW (fun p : Ob × Bool => p.2) (fun p : Ob × Bool => takeStep p.1) (120) (((lp (reInit fl) (40) (si (sl re 0 (gl fl 0)) 0 0))), true)) := lpW_stop h_2 (by first | (simp only [if_neg c_88, bf_of c_88, gi_sl, gi_sA, gi_sB, gi_si_s, gi_si_n, gl_si, gl_sA, gl_sB, gl_sl_s, gl_sl_n, gA_si, gA_sl, gA_sB, gA_sA_s, gA_sA_n, gB_si, gB_sl, gB_sA, gB_sB_s, gB_sB_n, Nat.reduceBEq, if_true, if_false, eq_self, Bool.false_eq_true, reduceCtorEq, not_true_eq_false, not_false_eq_true, decide_true, decide_false, cond_true, cond_false, Bool.true_and, Bool.false_and, Bool.and_true, Bool.and_false, Bool.true_or, Bool.false_or, Bool.or_true, Bool.or_false, b2i_tt, b2i_ff]; done) | (simp only [if_neg c_88, bf_of c_88, gi_sl, gi_sA, gi_sB, gi_si_s, gi_si_n, gl_si, gl_sA, gl_sB, gl_sl_s, gl_sl_n, gA_si, gA_sl, gA_sB, gA_sA_s, gA_sA_n, gB_si, gB_sl, gB_sA, gB_sB_s, gB_sB_n, Nat.reduceBEq, if_true, if_false, eq_self, Bool.false_eq_true, reduceCtorEq, not_true_eq_false, not_false_eq_true, decide_true, decide_false, cond_true, cond_false, Bool.true_and, Bool.false_and, Bool.and_true, Bool.and_false, Bool.true_or, Bool.false_or, Bool.or_true, Bool.or_false, b2i_tt, b2i_ff]; rfl) | (simp [c_88, gi_sl, gi_sA, gi_sB, gi_si_s, gi_si_n, gl_si, gl_sA, gl_sB, gl_sl_s, gl_sl_n, gA_si, gA_sl, gA_sB, gA_sA_s, gA_sA_n, gB_si, gB_sl, gB_sA, gB_sB_s, gB_sB_n, Nat.reduceBEq]; done)) (Nat.le_of_lt hi_2)
        have h_2 := h_2.symm
        subst h_2
        have hP : va_P D vwCl (XW ad cI cJ co fl ra li ((lpW (fun p : Ob × Bool => p.2) (fun p : Ob × Bool => takeStep p.1) (120) (((lp (reInit fl) (40) (si (sl re 0 (gl fl 0)) 0 0))), true)).1) wa pi) H := hP
        have hD : va_D A (XW ad cI cJ co fl ra li ((lpW (fun p : Ob × Bool => p.2) (fun p : Ob × Bool => takeStep p.1) (120) (((lp (reInit fl) (40) (si (sl re 0 (gl fl 0)) 0 0))), true)).1) wa pi) := hD
        have hl : lv_has ls 4 [(0, .ref (ad 5)), (1, .ref (ad 2)), (2, .int (b2i (lpW (fun p : Ob × Bool => p.2) (fun p : Ob × Bool => takeStep p.1) (120) (((lp (reInit fl) (40) (si (sl re 0 (gl fl 0)) 0 0))), true)).2)), (3, .int (nI i_2))] := hl
        exact W.vret hx hb hr (fun t ht hW => ⟨⟨(XW ad cI cJ co fl ra li ((lpW (fun p : Ob × Bool => p.2) (fun p : Ob × Bool => takeStep p.1) (120) (((lp (reInit fl) (40) (si (sl re 0 (gl fl 0)) 0 0))), true)).1) wa pi), rfl, xw_eq rfl rfl rfl rfl (show ((lpW (fun p : Ob × Bool => p.2) (fun p : Ob × Bool => takeStep p.1) (120) (((lp (reInit fl) (40) (si (sl re 0 (gl fl 0)) 0 0))), true)).1) = (reduce fl re) from (by first | (simp only [reduce, if_neg c_88, bf_of c_88, gi_sl, gi_sA, gi_sB, gi_si_s, gi_si_n, gl_si, gl_sA, gl_sB, gl_sl_s, gl_sl_n, gA_si, gA_sl, gA_sB, gA_sA_s, gA_sA_n, gB_si, gB_sl, gB_sA, gB_sB_s, gB_sB_n, Nat.reduceBEq, if_true, if_false, eq_self, Bool.false_eq_true, reduceCtorEq, not_true_eq_false, not_false_eq_true, decide_true, decide_false, cond_true, cond_false, Bool.true_and, Bool.false_and, Bool.and_true, Bool.and_false, Bool.true_or, Bool.false_or, Bool.or_true, Bool.or_false, b2i_tt, b2i_ff]; done) | (simp only [reduce, if_neg c_88, bf_of c_88, gi_sl, gi_sA, gi_sB, gi_si_s, gi_si_n, gl_si, gl_sA, gl_sB, gl_sl_s, gl_sl_n, gA_si, gA_sl, gA_sB, gA_sA_s, gA_sA_n, gB_si, gB_sl, gB_sA, gB_sB_s, gB_sB_n, Nat.reduceBEq, if_true, if_false, eq_self, Bool.false_eq_true, reduceCtorEq, not_true_eq_false, not_false_eq_true, decide_true, decide_false, cond_true, cond_false, Bool.true_and, Bool.false_and, Bool.and_true, Bool.and_false, Bool.true_or, Bool.false_or, Bool.or_true, Bool.or_false, b2i_tt, b2i_ff]; rfl) | (simp [reduce, c_88, gi_sl, gi_sA, gi_sB, gi_si_s, gi_si_n, gl_si, gl_sA, gl_sB, gl_sl_s, gl_sl_n, gA_si, gA_sl, gA_sB, gA_sA_s, gA_sA_n, gB_si, gB_sl, gB_sA, gB_sB_s, gB_sB_n, Nat.reduceBEq]; done))) rfl rfl, ⟨by rw [ht]; exact hP, va_K.moved hW.alike hK, hD⟩⟩, hS.F ht⟩) hS.2.2 dX5_reduce_102
      · have c_88 : p_2.2 = true := b2i_1 c_88
        refine lv_aload_n hx hb dX5_reduce_91 rfl (lv_at hl 0 rfl) ?_
        refine kI (rV (q0 := 5) (ci := 5) hx hb hml hown hg hN hK hP hD (c_takeStep l D cI cJ ad co fl ra li p_2.1 wa pi) mw_199 mw_200 mw_201 mw_202 mw_173 pdv_X5_takeStep ⟨Nat.le_of_ble_eq_true rfl, Nat.le_of_ble_eq_true rfl⟩ rfl rfl rfl hl.1 rfl (Nat.le_of_ble_eq_true rfl) dX5_reduce_92 ⟨Nat.le_of_ble_eq_true rfl, Nat.le_of_ble_eq_true rfl⟩) hD hS hA (fun r_3 u_3 H locs hp hP hD hS => ?_)
        obtain ⟨er, eu⟩ := hp
        obtain rfl := er.symm
        obtain rfl := eu.symm
        have hP : va_P D vwCl (XW ad cI cJ co fl ra li (takeStep p_2.1).1 wa pi) H := hP
        have hD : va_D A (XW ad cI cJ co fl ra li (takeStep p_2.1).1 wa pi) := hD
        refine lv_istore_n (lv' := [(2, .int (b2i (takeStep p_2.1).2)), (0, .ref (ad 5)), (1, .ref (ad 2)), (3, .int (nI i_2))]) hx hb dX5_reduce_95 rfl hl (by decide) rfl (fun ls hl => ?_)
        refine lv_iinc (v := (nI (i_2 + 1))) (lv' := [(3, .int (nI (i_2 + 1))), (2, .int (b2i (takeStep p_2.1).2)), (0, .ref (ad 5)), (1, .ref (ad 2))]) hx hb dX5_reduce_96 hl (k := 3) rfl (nI_1 i_2) (by decide) rfl (fun ls hl => ?_)
        refine lv_goto (tgt := 81) hx hb dX5_reduce_99 (by decide) ?_
        exact ih_2 ((takeStep p_2.1).1, (takeStep p_2.1).2) H locs ls ⟨((show ((takeStep p_2.1).1, (takeStep p_2.1).2) = (fun p : Ob × Bool => takeStep p.1) p_2 from (by first | (simp only [if_pos c_88, c_88, gi_sl, gi_sA, gi_sB, gi_si_s, gi_si_n, gl_si, gl_sA, gl_sB, gl_sl_s, gl_sl_n, gA_si, gA_sl, gA_sB, gA_sA_s, gA_sA_n, gB_si, gB_sl, gB_sA, gB_sB_s, gB_sB_n, Nat.reduceBEq, if_true, if_false, eq_self, Bool.false_eq_true, reduceCtorEq, not_true_eq_false, not_false_eq_true, decide_true, decide_false, cond_true, cond_false, Bool.true_and, Bool.false_and, Bool.and_true, Bool.and_false, Bool.true_or, Bool.false_or, Bool.or_true, Bool.or_false, b2i_tt, b2i_ff]; done) | (simp only [if_pos c_88, c_88, gi_sl, gi_sA, gi_sB, gi_si_s, gi_si_n, gl_si, gl_sA, gl_sB, gl_sl_s, gl_sl_n, gA_si, gA_sl, gA_sB, gA_sA_s, gA_sA_n, gB_si, gB_sl, gB_sA, gB_sB_s, gB_sB_n, Nat.reduceBEq, if_true, if_false, eq_self, Bool.false_eq_true, reduceCtorEq, not_true_eq_false, not_false_eq_true, decide_true, decide_false, cond_true, cond_false, Bool.true_and, Bool.false_and, Bool.and_true, Bool.and_false, Bool.true_or, Bool.false_or, Bool.or_true, Bool.or_false, b2i_tt, b2i_ff]; rfl) | (simp [c_88, gi_sl, gi_sA, gi_sB, gi_si_s, gi_si_n, gl_si, gl_sA, gl_sB, gl_sl_s, gl_sl_n, gA_si, gA_sl, gA_sB, gA_sA_s, gA_sA_n, gB_si, gB_sl, gB_sA, gB_sB_s, gB_sB_n, Nat.reduceBEq]; done))).trans (lpW_go h_2 (by first | (simp only [if_pos c_88, c_88, gi_sl, gi_sA, gi_sB, gi_si_s, gi_si_n, gl_si, gl_sA, gl_sB, gl_sl_s, gl_sl_n, gA_si, gA_sl, gA_sB, gA_sA_s, gA_sA_n, gB_si, gB_sl, gB_sA, gB_sB_s, gB_sB_n, Nat.reduceBEq, if_true, if_false, eq_self, Bool.false_eq_true, reduceCtorEq, not_true_eq_false, not_false_eq_true, decide_true, decide_false, cond_true, cond_false, Bool.true_and, Bool.false_and, Bool.and_true, Bool.and_false, Bool.true_or, Bool.false_or, Bool.or_true, Bool.or_false, b2i_tt, b2i_ff]; done) | (simp only [if_pos c_88, c_88, gi_sl, gi_sA, gi_sB, gi_si_s, gi_si_n, gl_si, gl_sA, gl_sB, gl_sl_s, gl_sl_n, gA_si, gA_sl, gA_sB, gA_sA_s, gA_sA_n, gB_si, gB_sl, gB_sA, gB_sB_s, gB_sB_n, Nat.reduceBEq, if_true, if_false, eq_self, Bool.false_eq_true, reduceCtorEq, not_true_eq_false, not_false_eq_true, decide_true, decide_false, cond_true, cond_false, Bool.true_and, Bool.false_and, Bool.and_true, Bool.and_false, Bool.true_or, Bool.false_or, Bool.or_true, Bool.or_false, b2i_tt, b2i_ff]; rfl) | (simp [c_88, gi_sl, gi_sA, gi_sB, gi_si_s, gi_si_n, gl_si, gl_sA, gl_sB, gl_sl_s, gl_sl_n, gA_si, gA_sl, gA_sB, gA_sA_s, gA_sA_n, gB_si, gB_sl, gB_sA, gB_sB_s, gB_sB_n, Nat.reduceBEq]; done)))), hP, hD, hS, lv_sub hl [2, 3, 1, 0] rfl⟩
  · obtain ⟨h_1, hP, hD, hS, hl⟩ := hI
    have hP : va_P D vwCl (XW ad cI cJ co fl ra li p_1 wa pi) H := hP
    have hD : va_D A (XW ad cI cJ co fl ra li p_1 wa pi) := hD
    have hl : lv_has ls 4 [(0, .ref (ad 5)), (1, .ref (ad 2)), (2, .int (nI i_1))] := hl
    refine lv_iload_n hx hb dX5_reduce_15 rfl (lv_at hl 2 rfl) ?_
    refine lv_bipush (v := 40) hx hb dX5_reduce_16 (by decide) ?_
    refine lv_icmp_ge (tgt := 77) hx hb dX5_reduce_18 (by decide) (fun c_18 => absurd c_18 (nI_ge hi_1 (by decide))) (fun _ => ?_)
    refine lv_aload_n hx hb dX5_reduce_21 rfl (lv_at hl 0 rfl) ?_
    refine va_get (D := D) (ci := 5) (v := .long (gl p_1 0)) (C := RX5) (T := TX5) (N := 8) hx hb hg inGX5 hown hK hP 5 rfl rfl 5 (by decide) (hg _ mw_178) (fun _ h9 => h9) rfl dX5_reduce_22 ?_
    refine lv_iload_n hx hb dX5_reduce_25 rfl (lv_at hl 2 rfl) ?_
    refine kI (rSN hx hb hml hown hg hN hK hP hD (c_has l D cI cJ (XW ad cI cJ co fl ra li p_1 wa pi) (gl p_1 0) (nI i_1)) mw_89 nw_83 mw_90 mw_77 pd_X7_has ⟨Nat.le_of_ble_eq_true rfl, Nat.le_of_ble_eq_true rfl⟩ rfl hl.1 rfl (Nat.le_of_ble_eq_true rfl) dX5_reduce_26 ⟨Nat.le_of_ble_eq_true rfl, Nat.le_of_ble_eq_true rfl⟩) hD hS hA (fun r_4 u_4 H locs hp hP hD hS => ?_)
    obtain ⟨er, eu⟩ := hp
    obtain rfl := er.symm
    obtain rfl := eu.symm
    refine lv_istore_n (lv' := [(3, .int (b2i (hs (gl p_1 0) (nI i_1)))), (0, .ref (ad 5)), (1, .ref (ad 2)), (2, .int (nI i_1))]) hx hb dX5_reduce_29 rfl hl (by decide) rfl (fun ls hl => ?_)
    refine lv_aload_n hx hb dX5_reduce_30 rfl (lv_at hl 1 rfl) ?_
    refine va_get (D := D) (ci := 5) (v := .ref (ad 24)) (C := RX5) (T := TX5) (N := 8) hx hb hg inGX5 hown hK hP 5 rfl rfl 0 (by decide) (hg _ mw_166) (fun _ h9 => h9) rfl dX5_reduce_31 ?_
    refine lv_iload_n hx hb dX5_reduce_34 rfl (lv_at hl 3 rfl) ?_
    refine lv_iload_n hx hb dX5_reduce_35 rfl (lv_at hl 0 rfl) ?_
    refine lv_if_eq (tgt := 50) hx hb dX5_reduce_36 (by decide) (fun c_36 => ?_) (fun c_36 => ?_)
    · have c_36 : ¬ (hs (gl p_1 0) (nI i_1)) = true := b2i_0 c_36
      refine lv_lconst (v := 0) hx hb dX5_reduce_50 (by decide) ?_
      refine kV (rSN hx hb hml hown hg hN hK hP hD (c_putL l D cI cJ (XW ad cI cJ co fl ra li p_1 wa pi) 24 (ad 24) 40 (gB p_1 0) (nI i_1) 0 rfl (by decide)) mw_97 nw_85 mw_98 mw_77 pd_X7_put_ ⟨Nat.le_of_ble_eq_true rfl, Nat.le_of_ble_eq_true rfl⟩ rfl hl.1 rfl (Nat.le_of_ble_eq_true rfl) dX5_reduce_51 ⟨Nat.le_of_ble_eq_true rfl, Nat.le_of_ble_eq_true rfl⟩) hD hS hA (fun u_5 H locs hp hP hD hS => ?_)
      obtain rfl := hp.symm
      have hP : va_P D vwCl (XW ad cI cJ co fl ra li (sB p_1 0 (wrL (gB p_1 0) 40 (nI i_1) 0)) wa pi) H := hP
      have hD : va_D A (XW ad cI cJ co fl ra li (sB p_1 0 (wrL (gB p_1 0) 40 (nI i_1) 0)) wa pi) := hD
      refine lv_aload_n hx hb dX5_reduce_54 rfl (lv_at hl 1 rfl) ?_
      refine va_get (D := D) (ci := 5) (v := .ref (ad 25)) (C := RX5) (T := TX5) (N := 8) hx hb hg inGX5 hown hK hP 5 rfl rfl 1 (by decide) (hg _ mw_179) (fun _ h9 => h9) rfl dX5_reduce_55 ?_
      refine lv_iload_n hx hb dX5_reduce_58 rfl (lv_at hl 3 rfl) ?_
      refine lv_iload_n hx hb dX5_reduce_59 rfl (lv_at hl 0 rfl) ?_
      refine lv_if_eq (tgt := 67) hx hb dX5_reduce_60 (by decide) (fun _ => ?_) (fun c_60 => absurd (b2i_f c_36) c_60)
      refine lv_iconst (v := (-1)) hx hb dX5_reduce_67 (by decide) ?_
      refine kV (rSN hx hb hml hown hg hN hK hP hD (c_put l D cI cJ (XW ad cI cJ co fl ra li (sB p_1 0 (wrL (gB p_1 0) 40 (nI i_1) 0)) wa pi) 25 (ad 25) 40 (gA p_1 0) (nI i_1) (-1) rfl (by decide)) mw_92 nw_86 mw_93 mw_77 pd_X7_put ⟨Nat.le_of_ble_eq_true rfl, Nat.le_of_ble_eq_true rfl⟩ rfl hl.1 rfl (Nat.le_of_ble_eq_true rfl) dX5_reduce_68 ⟨Nat.le_of_ble_eq_true rfl, Nat.le_of_ble_eq_true rfl⟩) hD hS hA (fun u_6 H locs hp hP hD hS => ?_)
      obtain rfl := hp.symm
      have hP : va_P D vwCl (XW ad cI cJ co fl ra li (sA (sB p_1 0 (wrL (gB p_1 0) 40 (nI i_1) 0)) 0 (wr (gA p_1 0) 40 (nI i_1) (-1))) wa pi) H := hP
      have hD : va_D A (XW ad cI cJ co fl ra li (sA (sB p_1 0 (wrL (gB p_1 0) 40 (nI i_1) 0)) 0 (wr (gA p_1 0) 40 (nI i_1) (-1))) wa pi) := hD
      refine lv_iinc (v := (nI (i_1 + 1))) (lv' := [(2, .int (nI (i_1 + 1))), (3, .int (b2i (hs (gl p_1 0) (nI i_1)))), (0, .ref (ad 5)), (1, .ref (ad 2))]) hx hb dX5_reduce_71 hl (k := 3) rfl (nI_1 i_1) (by decide) rfl (fun ls hl => ?_)
      refine lv_goto (tgt := 15) hx hb dX5_reduce_74 (by decide) ?_
      exact ih_1 (sA (sB p_1 0 (wrL (gB p_1 0) 40 (nI i_1) 0)) 0 (wr (gA p_1 0) 40 (nI i_1) (-1))) H locs ls ⟨((show (sA (sB p_1 0 (wrL (gB p_1 0) 40 (nI i_1) 0)) 0 (wr (gA p_1 0) 40 (nI i_1) (-1))) = (reInit fl) i_1 p_1 from (by first | (simp only [reInit, if_neg c_36, bf_of c_36, gi_sl, gi_sA, gi_sB, gi_si_s, gi_si_n, gl_si, gl_sA, gl_sB, gl_sl_s, gl_sl_n, gA_si, gA_sl, gA_sB, gA_sA_s, gA_sA_n, gB_si, gB_sl, gB_sA, gB_sB_s, gB_sB_n, Nat.reduceBEq, if_true, if_false, eq_self, Bool.false_eq_true, reduceCtorEq, not_true_eq_false, not_false_eq_true, decide_true, decide_false, cond_true, cond_false, Bool.true_and, Bool.false_and, Bool.and_true, Bool.and_false, Bool.true_or, Bool.false_or, Bool.or_true, Bool.or_false, b2i_tt, b2i_ff]; done) | (simp only [reInit, if_neg c_36, bf_of c_36, gi_sl, gi_sA, gi_sB, gi_si_s, gi_si_n, gl_si, gl_sA, gl_sB, gl_sl_s, gl_sl_n, gA_si, gA_sl, gA_sB, gA_sA_s, gA_sA_n, gB_si, gB_sl, gB_sA, gB_sB_s, gB_sB_n, Nat.reduceBEq, if_true, if_false, eq_self, Bool.false_eq_true, reduceCtorEq, not_true_eq_false, not_false_eq_true, decide_true, decide_false, cond_true, cond_false, Bool.true_and, Bool.false_and, Bool.and_true, Bool.and_false, Bool.true_or, Bool.false_or, Bool.or_true, Bool.or_false, b2i_tt, b2i_ff]; rfl) | (simp [reInit, c_36, gi_sl, gi_sA, gi_sB, gi_si_s, gi_si_n, gl_si, gl_sA, gl_sB, gl_sl_s, gl_sl_n, gA_si, gA_sl, gA_sB, gA_sA_s, gA_sA_n, gB_si, gB_sl, gB_sA, gB_sB_s, gB_sB_n, Nat.reduceBEq]; done))).trans (lp_go h_1)), hP, hD, hS, lv_sub hl [2, 3, 0] rfl⟩
    · have c_36 : (hs (gl p_1 0) (nI i_1)) = true := b2i_1 c_36
      refine lv_aload_n hx hb dX5_reduce_39 rfl (lv_at hl 2 rfl) ?_
      refine va_getN (D := D) (ci := 1) (v := .ref (ad 18)) (C := RX1) (T := TX1) (N := 11) hx hb hg inGX1 hown hK hP 2 rfl rfl 6 (by decide) (hN.use nw_22) (fun _ h9 => h9) rfl dX5_reduce_40 ?_
      refine lv_iload_n hx hb dX5_reduce_43 rfl (lv_at hl 3 rfl) ?_
      refine kL (rSN hx hb hml hown hg hN hK hP hD (c_atL l D cI cJ (XW ad cI cJ co fl ra li p_1 wa pi) 18 (ad 18) 40 (gB fl 0) (nI i_1) rfl (by decide)) mw_81 nw_84 mw_83 mw_77 pd_X7_at_ ⟨Nat.le_of_ble_eq_true rfl, Nat.le_of_ble_eq_true rfl⟩ rfl hl.1 rfl (Nat.le_of_ble_eq_true rfl) dX5_reduce_44 ⟨Nat.le_of_ble_eq_true rfl, Nat.le_of_ble_eq_true rfl⟩) hD hS hA (fun r_7 u_7 H locs hp hP hD hS => ?_)
      obtain ⟨er, eu⟩ := hp
      obtain rfl := er.symm
      obtain rfl := eu.symm
      refine lv_goto (tgt := 51) hx hb dX5_reduce_47 (by decide) ?_
      refine kV (rSN hx hb hml hown hg hN hK hP hD (c_putL l D cI cJ (XW ad cI cJ co fl ra li p_1 wa pi) 24 (ad 24) 40 (gB p_1 0) (nI i_1) (rdL (gB fl 0) 40 (nI i_1)) rfl (by decide)) mw_97 nw_85 mw_98 mw_77 pd_X7_put_ ⟨Nat.le_of_ble_eq_true rfl, Nat.le_of_ble_eq_true rfl⟩ rfl hl.1 rfl (Nat.le_of_ble_eq_true rfl) dX5_reduce_51 ⟨Nat.le_of_ble_eq_true rfl, Nat.le_of_ble_eq_true rfl⟩) hD hS hA (fun u_8 H locs hp hP hD hS => ?_)
      obtain rfl := hp.symm
      have hP : va_P D vwCl (XW ad cI cJ co fl ra li (sB p_1 0 (wrL (gB p_1 0) 40 (nI i_1) (rdL (gB fl 0) 40 (nI i_1)))) wa pi) H := hP
      have hD : va_D A (XW ad cI cJ co fl ra li (sB p_1 0 (wrL (gB p_1 0) 40 (nI i_1) (rdL (gB fl 0) 40 (nI i_1)))) wa pi) := hD
      refine lv_aload_n hx hb dX5_reduce_54 rfl (lv_at hl 1 rfl) ?_
      refine va_get (D := D) (ci := 5) (v := .ref (ad 25)) (C := RX5) (T := TX5) (N := 8) hx hb hg inGX5 hown hK hP 5 rfl rfl 1 (by decide) (hg _ mw_179) (fun _ h9 => h9) rfl dX5_reduce_55 ?_
      refine lv_iload_n hx hb dX5_reduce_58 rfl (lv_at hl 3 rfl) ?_
      refine lv_iload_n hx hb dX5_reduce_59 rfl (lv_at hl 0 rfl) ?_
      refine lv_if_eq (tgt := 67) hx hb dX5_reduce_60 (by decide) (fun c_60 => absurd c_60 (b2i_t c_36)) (fun _ => ?_)
      refine lv_iload_n hx hb dX5_reduce_63 rfl (lv_at hl 3 rfl) ?_
      refine lv_goto (tgt := 68) hx hb dX5_reduce_64 (by decide) ?_
      refine kV (rSN hx hb hml hown hg hN hK hP hD (c_put l D cI cJ (XW ad cI cJ co fl ra li (sB p_1 0 (wrL (gB p_1 0) 40 (nI i_1) (rdL (gB fl 0) 40 (nI i_1)))) wa pi) 25 (ad 25) 40 (gA p_1 0) (nI i_1) (nI i_1) rfl (by decide)) mw_92 nw_86 mw_93 mw_77 pd_X7_put ⟨Nat.le_of_ble_eq_true rfl, Nat.le_of_ble_eq_true rfl⟩ rfl hl.1 rfl (Nat.le_of_ble_eq_true rfl) dX5_reduce_68 ⟨Nat.le_of_ble_eq_true rfl, Nat.le_of_ble_eq_true rfl⟩) hD hS hA (fun u_9 H locs hp hP hD hS => ?_)
      obtain rfl := hp.symm
      have hP : va_P D vwCl (XW ad cI cJ co fl ra li (sA (sB p_1 0 (wrL (gB p_1 0) 40 (nI i_1) (rdL (gB fl 0) 40 (nI i_1)))) 0 (wr (gA p_1 0) 40 (nI i_1) (nI i_1))) wa pi) H := hP
      have hD : va_D A (XW ad cI cJ co fl ra li (sA (sB p_1 0 (wrL (gB p_1 0) 40 (nI i_1) (rdL (gB fl 0) 40 (nI i_1)))) 0 (wr (gA p_1 0) 40 (nI i_1) (nI i_1))) wa pi) := hD
      refine lv_iinc (v := (nI (i_1 + 1))) (lv' := [(2, .int (nI (i_1 + 1))), (3, .int (b2i (hs (gl p_1 0) (nI i_1)))), (0, .ref (ad 5)), (1, .ref (ad 2))]) hx hb dX5_reduce_71 hl (k := 3) rfl (nI_1 i_1) (by decide) rfl (fun ls hl => ?_)
      refine lv_goto (tgt := 15) hx hb dX5_reduce_74 (by decide) ?_
      exact ih_1 (sA (sB p_1 0 (wrL (gB p_1 0) 40 (nI i_1) (rdL (gB fl 0) 40 (nI i_1)))) 0 (wr (gA p_1 0) 40 (nI i_1) (nI i_1))) H locs ls ⟨((show (sA (sB p_1 0 (wrL (gB p_1 0) 40 (nI i_1) (rdL (gB fl 0) 40 (nI i_1)))) 0 (wr (gA p_1 0) 40 (nI i_1) (nI i_1))) = (reInit fl) i_1 p_1 from (by first | (simp only [reInit, if_pos c_36, c_36, gi_sl, gi_sA, gi_sB, gi_si_s, gi_si_n, gl_si, gl_sA, gl_sB, gl_sl_s, gl_sl_n, gA_si, gA_sl, gA_sB, gA_sA_s, gA_sA_n, gB_si, gB_sl, gB_sA, gB_sB_s, gB_sB_n, Nat.reduceBEq, if_true, if_false, eq_self, Bool.false_eq_true, reduceCtorEq, not_true_eq_false, not_false_eq_true, decide_true, decide_false, cond_true, cond_false, Bool.true_and, Bool.false_and, Bool.and_true, Bool.and_false, Bool.true_or, Bool.false_or, Bool.or_true, Bool.or_false, b2i_tt, b2i_ff]; done) | (simp only [reInit, if_pos c_36, c_36, gi_sl, gi_sA, gi_sB, gi_si_s, gi_si_n, gl_si, gl_sA, gl_sB, gl_sl_s, gl_sl_n, gA_si, gA_sl, gA_sB, gA_sA_s, gA_sA_n, gB_si, gB_sl, gB_sA, gB_sB_s, gB_sB_n, Nat.reduceBEq, if_true, if_false, eq_self, Bool.false_eq_true, reduceCtorEq, not_true_eq_false, not_false_eq_true, decide_true, decide_false, cond_true, cond_false, Bool.true_and, Bool.false_and, Bool.and_true, Bool.and_false, Bool.true_or, Bool.false_or, Bool.or_true, Bool.or_false, b2i_tt, b2i_ff]; rfl) | (simp [reInit, c_36, gi_sl, gi_sA, gi_sB, gi_si_s, gi_si_n, gl_si, gl_sA, gl_sB, gl_sl_s, gl_sl_n, gA_si, gA_sl, gA_sB, gA_sA_s, gA_sA_n, gB_si, gB_sl, gB_sA, gB_sB_s, gB_sB_n, Nat.reduceBEq]; done))).trans (lp_go h_1)), hP, hD, hS, lv_sub hl [2, 3, 0] rfl⟩
