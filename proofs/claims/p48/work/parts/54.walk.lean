theorem dX6_draws_0 : decode cX6_draws 0 = .ok (.aload_n 0, 1) := by decide +kernel
theorem dX6_draws_1 : decode cX6_draws 1 = .ok (.getfield 15, 3) := by decide +kernel
theorem dX6_draws_4 : decode cX6_draws 4 = .ok (.iload_n 1, 1) := by decide +kernel
theorem dX6_draws_5 : decode cX6_draws 5 = .ok (.invokestatic 54, 3) := by decide +kernel
theorem dX6_draws_8 : decode cX6_draws 8 = .ok (.ifCond .lt 7, 3) := by decide +kernel
theorem dX6_draws_11 : decode cX6_draws 11 = .ok (.iconst 1, 1) := by decide +kernel
theorem dX6_draws_12 : decode cX6_draws 12 = .ok (.goto 4, 3) := by decide +kernel
theorem dX6_draws_15 : decode cX6_draws 15 = .ok (.iconst 0, 1) := by decide +kernel
theorem dX6_draws_16 : decode cX6_draws 16 = .ok (.ireturn, 1) := by decide +kernel
theorem dX6_turns_0 : decode cX6_turns 0 = .ok (.aload_n 0, 1) := by decide +kernel
theorem dX6_turns_1 : decode cX6_turns 1 = .ok (.iload_n 2, 1) := by decide +kernel
theorem dX6_turns_2 : decode cX6_turns 2 = .ok (.invokevirtual 77, 3) := by decide +kernel
theorem dX6_turns_5 : decode cX6_turns 5 = .ok (.ifCond .eq 26, 3) := by decide +kernel
theorem dX6_turns_8 : decode cX6_turns 8 = .ok (.aload_n 0, 1) := by decide +kernel
theorem dX6_turns_9 : decode cX6_turns 9 = .ok (.getfield 15, 3) := by decide +kernel
theorem dX6_turns_12 : decode cX6_turns 12 = .ok (.iload_n 2, 1) := by decide +kernel
theorem dX6_turns_13 : decode cX6_turns 13 = .ok (.invokestatic 54, 3) := by decide +kernel
theorem dX6_turns_16 : decode cX6_turns 16 = .ok (.aload_n 1, 1) := by decide +kernel
theorem dX6_turns_17 : decode cX6_turns 17 = .ok (.getfield 70, 3) := by decide +kernel
theorem dX6_turns_20 : decode cX6_turns 20 = .ok (.iload_n 2, 1) := by decide +kernel
theorem dX6_turns_21 : decode cX6_turns 21 = .ok (.invokestatic 54, 3) := by decide +kernel
theorem dX6_turns_24 : decode cX6_turns 24 = .ok (.if_icmp .ne 7, 3) := by decide +kernel
theorem dX6_turns_27 : decode cX6_turns 27 = .ok (.iconst 1, 1) := by decide +kernel
theorem dX6_turns_28 : decode cX6_turns 28 = .ok (.goto 4, 3) := by decide +kernel
theorem dX6_turns_31 : decode cX6_turns 31 = .ok (.iconst 0, 1) := by decide +kernel
theorem dX6_turns_32 : decode cX6_turns 32 = .ok (.ireturn, 1) := by decide +kernel
theorem dX6_enter_0 : decode cX6_enter 0 = .ok (.aload_n 0, 1) := by decide +kernel
theorem dX6_enter_1 : decode cX6_enter 1 = .ok (.getfield 9, 3) := by decide +kernel
theorem dX6_enter_4 : decode cX6_enter 4 = .ok (.aload_n 0, 1) := by decide +kernel
theorem dX6_enter_5 : decode cX6_enter 5 = .ok (.getfield 27, 3) := by decide +kernel
theorem dX6_enter_8 : decode cX6_enter 8 = .ok (.iload_n 2, 1) := by decide +kernel
theorem dX6_enter_9 : decode cX6_enter 9 = .ok (.invokestatic 41, 3) := by decide +kernel
theorem dX6_enter_12 : decode cX6_enter 12 = .ok (.aload_n 0, 1) := by decide +kernel
theorem dX6_enter_13 : decode cX6_enter 13 = .ok (.dup, 1) := by decide +kernel
theorem dX6_enter_14 : decode cX6_enter 14 = .ok (.getfield 27, 3) := by decide +kernel
theorem dX6_enter_17 : decode cX6_enter 17 = .ok (.iconst 1, 1) := by decide +kernel
theorem dX6_enter_18 : decode cX6_enter 18 = .ok (.iadd, 1) := by decide +kernel
theorem dX6_enter_19 : decode cX6_enter 19 = .ok (.putfield 27, 3) := by decide +kernel
theorem dX6_enter_22 : decode cX6_enter 22 = .ok (.aload_n 0, 1) := by decide +kernel
theorem dX6_enter_23 : decode cX6_enter 23 = .ok (.getfield 21, 3) := by decide +kernel
theorem dX6_enter_26 : decode cX6_enter 26 = .ok (.aload_n 0, 1) := by decide +kernel
theorem dX6_enter_27 : decode cX6_enter 27 = .ok (.getfield 31, 3) := by decide +kernel
theorem dX6_enter_30 : decode cX6_enter 30 = .ok (.iload_n 2, 1) := by decide +kernel
theorem dX6_enter_31 : decode cX6_enter 31 = .ok (.invokestatic 41, 3) := by decide +kernel
theorem dX6_enter_34 : decode cX6_enter 34 = .ok (.aload_n 0, 1) := by decide +kernel
theorem dX6_enter_35 : decode cX6_enter 35 = .ok (.dup, 1) := by decide +kernel
theorem dX6_enter_36 : decode cX6_enter 36 = .ok (.getfield 31, 3) := by decide +kernel
theorem dX6_enter_39 : decode cX6_enter 39 = .ok (.iconst 1, 1) := by decide +kernel
theorem dX6_enter_40 : decode cX6_enter 40 = .ok (.iadd, 1) := by decide +kernel
theorem dX6_enter_41 : decode cX6_enter 41 = .ok (.putfield 31, 3) := by decide +kernel
theorem dX6_enter_44 : decode cX6_enter 44 = .ok (.aload_n 0, 1) := by decide +kernel
theorem dX6_enter_45 : decode cX6_enter 45 = .ok (.getfield 24, 3) := by decide +kernel
theorem dX6_enter_48 : decode cX6_enter 48 = .ok (.iload_n 2, 1) := by decide +kernel
theorem dX6_enter_49 : decode cX6_enter 49 = .ok (.aload_n 1, 1) := by decide +kernel
theorem dX6_enter_50 : decode cX6_enter 50 = .ok (.getfield 61, 3) := by decide +kernel
theorem dX6_enter_53 : decode cX6_enter 53 = .ok (.iload_n 2, 1) := by decide +kernel
theorem dX6_enter_54 : decode cX6_enter 54 = .ok (.invokestatic 54, 3) := by decide +kernel
theorem dX6_enter_57 : decode cX6_enter 57 = .ok (.invokestatic 41, 3) := by decide +kernel
theorem dX6_enter_60 : decode cX6_enter 60 = .ok (.aload_n 0, 1) := by decide +kernel
theorem dX6_enter_61 : decode cX6_enter 61 = .ok (.dup, 1) := by decide +kernel
theorem dX6_enter_62 : decode cX6_enter 62 = .ok (.getfield 34, 3) := by decide +kernel
theorem dX6_enter_65 : decode cX6_enter 65 = .ok (.iload_n 2, 1) := by decide +kernel
theorem dX6_enter_66 : decode cX6_enter 66 = .ok (.invokestatic 64, 3) := by decide +kernel
theorem dX6_enter_69 : decode cX6_enter 69 = .ok (.lor, 1) := by decide +kernel
theorem dX6_enter_70 : decode cX6_enter 70 = .ok (.putfield 34, 3) := by decide +kernel
theorem dX6_enter_73 : decode cX6_enter 73 = .ok (.aload_n 0, 1) := by decide +kernel
theorem dX6_enter_74 : decode cX6_enter 74 = .ok (.dup, 1) := by decide +kernel
theorem dX6_enter_75 : decode cX6_enter 75 = .ok (.getfield 38, 3) := by decide +kernel
theorem dX6_enter_78 : decode cX6_enter 78 = .ok (.iload_n 2, 1) := by decide +kernel
theorem dX6_enter_79 : decode cX6_enter 79 = .ok (.invokestatic 64, 3) := by decide +kernel
theorem dX6_enter_82 : decode cX6_enter 82 = .ok (.lor, 1) := by decide +kernel
theorem dX6_enter_83 : decode cX6_enter 83 = .ok (.putfield 38, 3) := by decide +kernel
theorem dX6_enter_86 : decode cX6_enter 86 = .ok (.return_, 1) := by decide +kernel
theorem dX6_goOn_0 : decode cX6_goOn 0 = .ok (.aload_n 0, 1) := by decide +kernel
theorem dX6_goOn_1 : decode cX6_goOn 1 = .ok (.getfield 24, 3) := by decide +kernel
theorem dX6_goOn_4 : decode cX6_goOn 4 = .ok (.iload_n 2, 1) := by decide +kernel
theorem dX6_goOn_5 : decode cX6_goOn 5 = .ok (.invokestatic 54, 3) := by decide +kernel
theorem dX6_goOn_8 : decode cX6_goOn 8 = .ok (.istore_n 3, 1) := by decide +kernel
theorem dX6_goOn_9 : decode cX6_goOn 9 = .ok (.iload_n 3, 1) := by decide +kernel
theorem dX6_goOn_10 : decode cX6_goOn 10 = .ok (.aload_n 1, 1) := by decide +kernel
theorem dX6_goOn_11 : decode cX6_goOn 11 = .ok (.getfield 61, 3) := by decide +kernel
theorem dX6_goOn_14 : decode cX6_goOn 14 = .ok (.iload_n 2, 1) := by decide +kernel
theorem dX6_goOn_15 : decode cX6_goOn 15 = .ok (.iconst 1, 1) := by decide +kernel
theorem dX6_goOn_16 : decode cX6_goOn 16 = .ok (.iadd, 1) := by decide +kernel
theorem dX6_goOn_17 : decode cX6_goOn 17 = .ok (.invokestatic 54, 3) := by decide +kernel
theorem dX6_goOn_20 : decode cX6_goOn 20 = .ok (.if_icmp .lt 31, 3) := by decide +kernel
theorem dX6_goOn_23 : decode cX6_goOn 23 = .ok (.aload_n 0, 1) := by decide +kernel
theorem dX6_goOn_24 : decode cX6_goOn 24 = .ok (.dup, 1) := by decide +kernel
theorem dX6_goOn_25 : decode cX6_goOn 25 = .ok (.getfield 31, 3) := by decide +kernel
theorem dX6_goOn_28 : decode cX6_goOn 28 = .ok (.iconst 1, 1) := by decide +kernel
theorem dX6_goOn_29 : decode cX6_goOn 29 = .ok (.isub, 1) := by decide +kernel
theorem dX6_goOn_30 : decode cX6_goOn 30 = .ok (.putfield 31, 3) := by decide +kernel
theorem dX6_goOn_33 : decode cX6_goOn 33 = .ok (.aload_n 0, 1) := by decide +kernel
theorem dX6_goOn_34 : decode cX6_goOn 34 = .ok (.dup, 1) := by decide +kernel
theorem dX6_goOn_35 : decode cX6_goOn 35 = .ok (.getfield 38, 3) := by decide +kernel
theorem dX6_goOn_38 : decode cX6_goOn 38 = .ok (.iload_n 2, 1) := by decide +kernel
theorem dX6_goOn_39 : decode cX6_goOn 39 = .ok (.invokestatic 64, 3) := by decide +kernel
theorem dX6_goOn_42 : decode cX6_goOn 42 = .ok (.ldc2_w 68, 3) := by decide +kernel
theorem dX6_goOn_45 : decode cX6_goOn 45 = .ok (.lxor, 1) := by decide +kernel
theorem dX6_goOn_46 : decode cX6_goOn 46 = .ok (.land, 1) := by decide +kernel
theorem dX6_goOn_47 : decode cX6_goOn 47 = .ok (.putfield 38, 3) := by decide +kernel
theorem dX6_goOn_50 : decode cX6_goOn 50 = .ok (.return_, 1) := by decide +kernel
theorem dX6_goOn_51 : decode cX6_goOn 51 = .ok (.aload_n 0, 1) := by decide +kernel
theorem dX6_goOn_52 : decode cX6_goOn 52 = .ok (.getfield 24, 3) := by decide +kernel
theorem dX6_goOn_55 : decode cX6_goOn 55 = .ok (.iload_n 2, 1) := by decide +kernel
theorem dX6_goOn_56 : decode cX6_goOn 56 = .ok (.iload_n 3, 1) := by decide +kernel
theorem dX6_goOn_57 : decode cX6_goOn 57 = .ok (.iconst 1, 1) := by decide +kernel
theorem dX6_goOn_58 : decode cX6_goOn 58 = .ok (.iadd, 1) := by decide +kernel
theorem dX6_goOn_59 : decode cX6_goOn 59 = .ok (.invokestatic 41, 3) := by decide +kernel
theorem dX6_goOn_62 : decode cX6_goOn 62 = .ok (.aload_n 1, 1) := by decide +kernel
theorem dX6_goOn_63 : decode cX6_goOn 63 = .ok (.getfield 70, 3) := by decide +kernel
theorem dX6_goOn_66 : decode cX6_goOn 66 = .ok (.iload_n 3, 1) := by decide +kernel
theorem dX6_goOn_67 : decode cX6_goOn 67 = .ok (.invokestatic 54, 3) := by decide +kernel
theorem dX6_goOn_70 : decode cX6_goOn 70 = .ok (.istore 4, 2) := by decide +kernel
theorem dX6_goOn_72 : decode cX6_goOn 72 = .ok (.iload 4, 2) := by decide +kernel
theorem dX6_goOn_74 : decode cX6_goOn 74 = .ok (.ifCond .lt 9, 3) := by decide +kernel
theorem dX6_goOn_77 : decode cX6_goOn 77 = .ok (.iload 4, 2) := by decide +kernel
theorem dX6_goOn_79 : decode cX6_goOn 79 = .ok (.iload_n 2, 1) := by decide +kernel
theorem dX6_goOn_80 : decode cX6_goOn 80 = .ok (.if_icmp .ne 4, 3) := by decide +kernel
theorem dX6_goOn_83 : decode cX6_goOn 83 = .ok (.return_, 1) := by decide +kernel
theorem dX6_goOn_84 : decode cX6_goOn 84 = .ok (.aload_n 0, 1) := by decide +kernel
theorem dX6_goOn_85 : decode cX6_goOn 85 = .ok (.getfield 38, 3) := by decide +kernel
theorem dX6_goOn_88 : decode cX6_goOn 88 = .ok (.iload 4, 2) := by decide +kernel
theorem dX6_goOn_90 : decode cX6_goOn 90 = .ok (.invokestatic 73, 3) := by decide +kernel
theorem dX6_goOn_93 : decode cX6_goOn 93 = .ok (.istore 5, 2) := by decide +kernel
theorem dX6_goOn_95 : decode cX6_goOn 95 = .ok (.aload_n 0, 1) := by decide +kernel
theorem dX6_goOn_96 : decode cX6_goOn 96 = .ok (.getfield 15, 3) := by decide +kernel
theorem dX6_goOn_99 : decode cX6_goOn 99 = .ok (.iload_n 3, 1) := by decide +kernel
theorem dX6_goOn_100 : decode cX6_goOn 100 = .ok (.iload 5, 2) := by decide +kernel
theorem dX6_goOn_102 : decode cX6_goOn 102 = .ok (.ifCond .eq 8, 3) := by decide +kernel
theorem dX6_goOn_105 : decode cX6_goOn 105 = .ok (.iload 4, 2) := by decide +kernel
theorem dX6_goOn_107 : decode cX6_goOn 107 = .ok (.goto 4, 3) := by decide +kernel
theorem dX6_goOn_110 : decode cX6_goOn 110 = .ok (.iload_n 2, 1) := by decide +kernel
theorem dX6_goOn_111 : decode cX6_goOn 111 = .ok (.invokestatic 41, 3) := by decide +kernel
theorem dX6_goOn_114 : decode cX6_goOn 114 = .ok (.aload_n 0, 1) := by decide +kernel
theorem dX6_goOn_115 : decode cX6_goOn 115 = .ok (.getfield 18, 3) := by decide +kernel
theorem dX6_goOn_118 : decode cX6_goOn 118 = .ok (.iload_n 3, 1) := by decide +kernel
theorem dX6_goOn_119 : decode cX6_goOn 119 = .ok (.iload 5, 2) := by decide +kernel
theorem dX6_goOn_121 : decode cX6_goOn 121 = .ok (.ifCond .eq 7, 3) := by decide +kernel
theorem dX6_goOn_124 : decode cX6_goOn 124 = .ok (.iload_n 2, 1) := by decide +kernel
theorem dX6_goOn_125 : decode cX6_goOn 125 = .ok (.goto 5, 3) := by decide +kernel
theorem dX6_goOn_128 : decode cX6_goOn 128 = .ok (.iload 4, 2) := by decide +kernel
theorem dX6_goOn_130 : decode cX6_goOn 130 = .ok (.invokestatic 41, 3) := by decide +kernel
theorem dX6_goOn_133 : decode cX6_goOn 133 = .ok (.aload_n 0, 1) := by decide +kernel
theorem dX6_goOn_134 : decode cX6_goOn 134 = .ok (.getfield 34, 3) := by decide +kernel
theorem dX6_goOn_137 : decode cX6_goOn 137 = .ok (.iload 4, 2) := by decide +kernel
theorem dX6_goOn_139 : decode cX6_goOn 139 = .ok (.invokestatic 73, 3) := by decide +kernel
theorem dX6_goOn_142 : decode cX6_goOn 142 = .ok (.ifCond .ne 10, 3) := by decide +kernel
theorem dX6_goOn_145 : decode cX6_goOn 145 = .ok (.aload_n 0, 1) := by decide +kernel
theorem dX6_goOn_146 : decode cX6_goOn 146 = .ok (.aload_n 1, 1) := by decide +kernel
theorem dX6_goOn_147 : decode cX6_goOn 147 = .ok (.iload 4, 2) := by decide +kernel
theorem dX6_goOn_149 : decode cX6_goOn 149 = .ok (.invokevirtual 50, 3) := by decide +kernel
theorem dX6_goOn_152 : decode cX6_goOn 152 = .ok (.return_, 1) := by decide +kernel
theorem dX6_goThrough_0 : decode cX6_goThrough 0 = .ok (.aload_n 0, 1) := by decide +kernel
theorem dX6_goThrough_1 : decode cX6_goThrough 1 = .ok (.iconst 0, 1) := by decide +kernel
theorem dX6_goThrough_2 : decode cX6_goThrough 2 = .ok (.putfield 27, 3) := by decide +kernel
theorem dX6_goThrough_5 : decode cX6_goThrough 5 = .ok (.aload_n 0, 1) := by decide +kernel
theorem dX6_goThrough_6 : decode cX6_goThrough 6 = .ok (.iconst 0, 1) := by decide +kernel
theorem dX6_goThrough_7 : decode cX6_goThrough 7 = .ok (.putfield 31, 3) := by decide +kernel
theorem dX6_goThrough_10 : decode cX6_goThrough 10 = .ok (.aload_n 0, 1) := by decide +kernel
theorem dX6_goThrough_11 : decode cX6_goThrough 11 = .ok (.lconst 0, 1) := by decide +kernel
theorem dX6_goThrough_12 : decode cX6_goThrough 12 = .ok (.putfield 34, 3) := by decide +kernel
theorem dX6_goThrough_15 : decode cX6_goThrough 15 = .ok (.aload_n 0, 1) := by decide +kernel
theorem dX6_goThrough_16 : decode cX6_goThrough 16 = .ok (.lconst 0, 1) := by decide +kernel
theorem dX6_goThrough_17 : decode cX6_goThrough 17 = .ok (.putfield 38, 3) := by decide +kernel
theorem dX6_goThrough_20 : decode cX6_goThrough 20 = .ok (.iconst 0, 1) := by decide +kernel
theorem dX6_goThrough_21 : decode cX6_goThrough 21 = .ok (.istore_n 2, 1) := by decide +kernel
theorem dX6_goThrough_22 : decode cX6_goThrough 22 = .ok (.iload_n 2, 1) := by decide +kernel
theorem dX6_goThrough_23 : decode cX6_goThrough 23 = .ok (.bipush 80, 2) := by decide +kernel
theorem dX6_goThrough_25 : decode cX6_goThrough 25 = .ok (.if_icmp .ge 27, 3) := by decide +kernel
theorem dX6_goThrough_28 : decode cX6_goThrough 28 = .ok (.aload_n 0, 1) := by decide +kernel
theorem dX6_goThrough_29 : decode cX6_goThrough 29 = .ok (.getfield 15, 3) := by decide +kernel
theorem dX6_goThrough_32 : decode cX6_goThrough 32 = .ok (.iload_n 2, 1) := by decide +kernel
theorem dX6_goThrough_33 : decode cX6_goThrough 33 = .ok (.iconst (-1), 1) := by decide +kernel
theorem dX6_goThrough_34 : decode cX6_goThrough 34 = .ok (.invokestatic 41, 3) := by decide +kernel
theorem dX6_goThrough_37 : decode cX6_goThrough 37 = .ok (.aload_n 0, 1) := by decide +kernel
theorem dX6_goThrough_38 : decode cX6_goThrough 38 = .ok (.getfield 18, 3) := by decide +kernel
theorem dX6_goThrough_41 : decode cX6_goThrough 41 = .ok (.iload_n 2, 1) := by decide +kernel
theorem dX6_goThrough_42 : decode cX6_goThrough 42 = .ok (.iconst (-1), 1) := by decide +kernel
theorem dX6_goThrough_43 : decode cX6_goThrough 43 = .ok (.invokestatic 41, 3) := by decide +kernel
theorem dX6_goThrough_46 : decode cX6_goThrough 46 = .ok (.iinc 2 1, 3) := by decide +kernel
theorem dX6_goThrough_49 : decode cX6_goThrough 49 = .ok (.goto (-27), 3) := by decide +kernel
theorem dX6_goThrough_52 : decode cX6_goThrough 52 = .ok (.aload_n 1, 1) := by decide +kernel
theorem dX6_goThrough_53 : decode cX6_goThrough 53 = .ok (.getfield 45, 3) := by decide +kernel
theorem dX6_goThrough_56 : decode cX6_goThrough 56 = .ok (.ifCond .le 9, 3) := by decide +kernel
theorem dX6_goThrough_59 : decode cX6_goThrough 59 = .ok (.aload_n 0, 1) := by decide +kernel
theorem dX6_goThrough_60 : decode cX6_goThrough 60 = .ok (.aload_n 1, 1) := by decide +kernel
theorem dX6_goThrough_61 : decode cX6_goThrough 61 = .ok (.iconst 0, 1) := by decide +kernel
theorem dX6_goThrough_62 : decode cX6_goThrough 62 = .ok (.invokevirtual 50, 3) := by decide +kernel
theorem dX6_goThrough_65 : decode cX6_goThrough 65 = .ok (.iconst 0, 1) := by decide +kernel
theorem dX6_goThrough_66 : decode cX6_goThrough 66 = .ok (.istore_n 2, 1) := by decide +kernel
theorem dX6_goThrough_67 : decode cX6_goThrough 67 = .ok (.iload_n 2, 1) := by decide +kernel
theorem dX6_goThrough_68 : decode cX6_goThrough 68 = .ok (.bipush 120, 2) := by decide +kernel
theorem dX6_goThrough_70 : decode cX6_goThrough 70 = .ok (.if_icmp .ge 34, 3) := by decide +kernel
theorem dX6_goThrough_73 : decode cX6_goThrough 73 = .ok (.aload_n 0, 1) := by decide +kernel
theorem dX6_goThrough_74 : decode cX6_goThrough 74 = .ok (.getfield 31, 3) := by decide +kernel
theorem dX6_goThrough_77 : decode cX6_goThrough 77 = .ok (.ifCond .le 27, 3) := by decide +kernel
theorem dX6_goThrough_80 : decode cX6_goThrough 80 = .ok (.aload_n 0, 1) := by decide +kernel
theorem dX6_goThrough_81 : decode cX6_goThrough 81 = .ok (.aload_n 1, 1) := by decide +kernel
theorem dX6_goThrough_82 : decode cX6_goThrough 82 = .ok (.aload_n 0, 1) := by decide +kernel
theorem dX6_goThrough_83 : decode cX6_goThrough 83 = .ok (.getfield 21, 3) := by decide +kernel
theorem dX6_goThrough_86 : decode cX6_goThrough 86 = .ok (.aload_n 0, 1) := by decide +kernel
theorem dX6_goThrough_87 : decode cX6_goThrough 87 = .ok (.getfield 31, 3) := by decide +kernel
theorem dX6_goThrough_90 : decode cX6_goThrough 90 = .ok (.iconst 1, 1) := by decide +kernel
theorem dX6_goThrough_91 : decode cX6_goThrough 91 = .ok (.isub, 1) := by decide +kernel
theorem dX6_goThrough_92 : decode cX6_goThrough 92 = .ok (.invokestatic 54, 3) := by decide +kernel
theorem dX6_goThrough_95 : decode cX6_goThrough 95 = .ok (.invokevirtual 58, 3) := by decide +kernel
theorem dX6_goThrough_98 : decode cX6_goThrough 98 = .ok (.iinc 2 1, 3) := by decide +kernel
theorem dX6_goThrough_101 : decode cX6_goThrough 101 = .ok (.goto (-34), 3) := by decide +kernel
theorem dX6_goThrough_104 : decode cX6_goThrough 104 = .ok (.return_, 1) := by decide +kernel
theorem mw_203 : Cond.fieldLink RX6 15 "OrielChart$Walk" "upper" "[I" ∈ GW := gw_mem (inT1 _ (List.mem_of_getElem? (i := 222) rfl)) rfl
theorem mw_204 : Cond.code yX6_draws cX6_draws 2 (some Jvm.ClassFile.FieldType.boolean) ∈ GW := gw_mem (inT3 _ (List.mem_of_getElem? (i := 48) rfl)) rfl
theorem mw_205 : Cond.methodLink RX6 77 yX6_draws ∈ GW := gw_mem (inT3 _ (List.mem_of_getElem? (i := 124) rfl)) rfl
theorem mw_206 : Cond.instanceMethod yX6_draws ∈ GW := gw_mem (inT3 _ (List.mem_of_getElem? (i := 46) rfl)) rfl
theorem mw_207 : Cond.selects RX6 yX6_draws yX6_draws ∈ GW := gw_mem (inT3 _ (List.mem_of_getElem? (i := 47) rfl)) rfl
theorem mw_208 : Cond.initialized RX6 ∈ GW := gw_mem (inT1 _ (List.mem_of_getElem? (i := 8) rfl)) rfl
theorem mw_209 : Cond.fieldLink RX6 9 "OrielChart$Walk" "came" "[I" ∈ GW := gw_mem (inT1 _ (List.mem_of_getElem? (i := 220) rfl)) rfl
theorem mw_210 : Cond.fieldLink RX6 27 "OrielChart$Walk" "cameCount" "I" ∈ GW := gw_mem (inT1 _ (List.mem_of_getElem? (i := 228) rfl)) rfl
theorem mw_211 : Cond.fieldLink RX6 21 "OrielChart$Walk" "open" "[I" ∈ GW := gw_mem (inT1 _ (List.mem_of_getElem? (i := 226) rfl)) rfl
theorem mw_212 : Cond.fieldLink RX6 31 "OrielChart$Walk" "openCount" "I" ∈ GW := gw_mem (inT1 _ (List.mem_of_getElem? (i := 230) rfl)) rfl
theorem mw_213 : Cond.fieldLink RX6 24 "OrielChart$Walk" "edge" "[I" ∈ GW := gw_mem (inT1 _ (List.mem_of_getElem? (i := 227) rfl)) rfl
theorem mw_214 : Cond.fieldLink RX6 34 "OrielChart$Walk" "seen" "J" ∈ GW := gw_mem (inT1 _ (List.mem_of_getElem? (i := 231) rfl)) rfl
theorem mw_215 : Cond.fieldLink RX6 38 "OrielChart$Walk" "stillGoing" "J" ∈ GW := gw_mem (inT1 _ (List.mem_of_getElem? (i := 233) rfl)) rfl
theorem mw_216 : Cond.fieldLink RX6 18 "OrielChart$Walk" "lower" "[I" ∈ GW := gw_mem (inT1 _ (List.mem_of_getElem? (i := 224) rfl)) rfl
theorem mw_217 : Cond.code yX6_enter cX6_enter 3 (none : Option FieldType) ∈ GW := gw_mem (inT3 _ (List.mem_of_getElem? (i := 26) rfl)) rfl
theorem mw_218 : Cond.methodLink RX6 50 yX6_enter ∈ GW := gw_mem (inT3 _ (List.mem_of_getElem? (i := 23) rfl)) rfl
theorem mw_219 : Cond.instanceMethod yX6_enter ∈ GW := gw_mem (inT3 _ (List.mem_of_getElem? (i := 25) rfl)) rfl
theorem mw_220 : Cond.selects RX6 yX6_enter yX6_enter ∈ GW := gw_mem (inTp (q := (yX6_enter, 9)) (List.mem_of_getElem? (i := 20) rfl)) rfl
theorem mw_221 : Cond.constantLong RX6 68 (-1) ∈ GW := gw_mem (inT3 _ (List.mem_of_getElem? (i := 33) rfl)) rfl
theorem mw_222 : Cond.code yX6_goOn cX6_goOn 6 (none : Option FieldType) ∈ GW := gw_mem (inT3 _ (List.mem_of_getElem? (i := 32) rfl)) rfl
theorem mw_223 : Cond.methodLink RX6 58 yX6_goOn ∈ GW := gw_mem (inT3 _ (List.mem_of_getElem? (i := 29) rfl)) rfl
theorem mw_224 : Cond.instanceMethod yX6_goOn ∈ GW := gw_mem (inT3 _ (List.mem_of_getElem? (i := 31) rfl)) rfl
theorem mw_225 : Cond.selects RX6 yX6_goOn yX6_goOn ∈ GW := gw_mem (inTp (q := (yX6_goOn, 9)) (List.mem_of_getElem? (i := 21) rfl)) rfl
theorem pdv_X6_draws : yX6_draws.cls = RX6 ∧ yX6_draws.cls ≠ "java/lang/invoke/MethodHandle" ∧ yX6_draws.cls ≠ "java/lang/invoke/VarHandle" ∧ (parseMethodDescriptor yX6_draws.desc).map (fun d => d.parameters.length) = some 1 := by decide +kernel
theorem pdv_X6_enter : yX6_enter.cls = RX6 ∧ yX6_enter.cls ≠ "java/lang/invoke/MethodHandle" ∧ yX6_enter.cls ≠ "java/lang/invoke/VarHandle" ∧ (parseMethodDescriptor yX6_enter.desc).map (fun d => d.parameters.length) = some 2 := by decide +kernel
theorem pdv_X6_goOn : yX6_goOn.cls = RX6 ∧ yX6_goOn.cls ≠ "java/lang/invoke/MethodHandle" ∧ yX6_goOn.cls ≠ "java/lang/invoke/VarHandle" ∧ (parseMethodDescriptor yX6_goOn.desc).map (fun d => d.parameters.length) = some 2 := by decide +kernel
set_option maxHeartbeats 4000000 in
set_option maxRecDepth 100000 in
theorem c_draws (l : Launch) (D : va_G) (cI cJ : ClassId) (ad : Nat → Nat) (co fl ra li re wa pi : Ob) (k1 : Int32) : CT l D (TY cI cJ) yX6_draws (.code yX6_draws cX6_draws 2 (some Jvm.ClassFile.FieldType.boolean)) 1 0 0 (XW ad cI cJ co fl ra li re wa pi) [.ref (ad 7), .int k1] (QI D (TY cI cJ) (fun r u => r = (b2i (draws wa k1)) ∧ u = (XW ad cI cJ co fl ra li re wa pi))) := by
  refine ent (by decide) (Nat.le_of_ble_eq_true rfl) ?_
  intro p e s m below meth c ls A hx hb hr hg hown hml hlocks hnm hP hK hD hS hA hN hl
  have hl : lv_has ls 2 [(0, .ref (ad 7)), (1, .int k1)] := hl
  refine lv_aload_n hx hb dX6_draws_0 rfl (lv_at hl 0 rfl) ?_
  refine va_get (D := D) (ci := 6) (v := .ref (ad 30)) (C := RX6) (T := TX6) (N := 9) hx hb hg inGX6 hown hK hP 7 rfl rfl 1 (by decide) (hg _ mw_203) (fun _ h9 => h9) rfl dX6_draws_1 ?_
  refine lv_iload_n hx hb dX6_draws_4 rfl (lv_at hl 1 rfl) ?_
  refine kI (rSN hx hb hml hown hg hN hK hP hD (c_at l D cI cJ (XW ad cI cJ co fl ra li re wa pi) 30 (ad 30) 80 (gA wa 1) k1 rfl (by decide)) mw_84 nw_91 mw_85 mw_77 pd_X7_at ⟨Nat.le_of_ble_eq_true rfl, Nat.le_of_ble_eq_true rfl⟩ rfl hl.1 rfl (Nat.le_of_ble_eq_true rfl) dX6_draws_5 ⟨Nat.le_of_ble_eq_true rfl, Nat.le_of_ble_eq_true rfl⟩) hD hS hA (fun r_1 u_1 H locs hp hP hD hS => ?_)
  obtain ⟨er, eu⟩ := hp
  obtain rfl := er.symm
  obtain rfl := eu.symm
  refine lv_if_lt (tgt := 15) hx hb dX6_draws_8 (by decide) (fun c_8 => ?_) (fun c_8 => ?_)
  · refine lv_iconst (v := 0) hx hb dX6_draws_15 (by decide) ?_
    exact W.zret (v := 0) hx hb hr rfl (fun t ht hW => ⟨⟨0, (XW ad cI cJ co fl ra li re wa pi), rfl, ⟨(show (0 : Int32) = (b2i (draws wa k1)) from (by first | (simp only [draws, if_pos c_8, decide_eq_true c_8, decide_eq_false (not_not_intro c_8), gi_sl, gi_sA, gi_sB, gi_si_s, gi_si_n, gl_si, gl_sA, gl_sB, gl_sl_s, gl_sl_n, gA_si, gA_sl, gA_sB, gA_sA_s, gA_sA_n, gB_si, gB_sl, gB_sA, gB_sB_s, gB_sB_n, Nat.reduceBEq, if_true, if_false, eq_self, Bool.false_eq_true, reduceCtorEq, not_true_eq_false, not_false_eq_true, decide_true, decide_false, cond_true, cond_false, Bool.true_and, Bool.false_and, Bool.and_true, Bool.and_false, Bool.true_or, Bool.false_or, Bool.or_true, Bool.or_false, b2i_tt, b2i_ff]; done) | (simp only [draws, if_pos c_8, decide_eq_true c_8, decide_eq_false (not_not_intro c_8), gi_sl, gi_sA, gi_sB, gi_si_s, gi_si_n, gl_si, gl_sA, gl_sB, gl_sl_s, gl_sl_n, gA_si, gA_sl, gA_sB, gA_sA_s, gA_sA_n, gB_si, gB_sl, gB_sA, gB_sB_s, gB_sB_n, Nat.reduceBEq, if_true, if_false, eq_self, Bool.false_eq_true, reduceCtorEq, not_true_eq_false, not_false_eq_true, decide_true, decide_false, cond_true, cond_false, Bool.true_and, Bool.false_and, Bool.and_true, Bool.and_false, Bool.true_or, Bool.false_or, Bool.or_true, Bool.or_false, b2i_tt, b2i_ff]; rfl) | (simp [draws, c_8, gi_sl, gi_sA, gi_sB, gi_si_s, gi_si_n, gl_si, gl_sA, gl_sB, gl_sl_s, gl_sl_n, gA_si, gA_sl, gA_sB, gA_sA_s, gA_sA_n, gB_si, gB_sl, gB_sA, gB_sB_s, gB_sB_n, Nat.reduceBEq]; done))), xw_eq rfl rfl rfl rfl rfl rfl rfl⟩, ⟨by rw [ht]; exact hP, va_K.moved hW.alike hK, hD⟩⟩, hS.F ht⟩) hS.2.2 dX6_draws_16
  · refine lv_iconst (v := 1) hx hb dX6_draws_11 (by decide) ?_
    refine lv_goto (tgt := 16) hx hb dX6_draws_12 (by decide) ?_
    exact W.zret (v := 1) hx hb hr rfl (fun t ht hW => ⟨⟨1, (XW ad cI cJ co fl ra li re wa pi), rfl, ⟨(show (1 : Int32) = (b2i (draws wa k1)) from (by first | (simp only [draws, if_neg c_8, decide_eq_false c_8, decide_eq_true c_8, if_pos c_8, gi_sl, gi_sA, gi_sB, gi_si_s, gi_si_n, gl_si, gl_sA, gl_sB, gl_sl_s, gl_sl_n, gA_si, gA_sl, gA_sB, gA_sA_s, gA_sA_n, gB_si, gB_sl, gB_sA, gB_sB_s, gB_sB_n, Nat.reduceBEq, if_true, if_false, eq_self, Bool.false_eq_true, reduceCtorEq, not_true_eq_false, not_false_eq_true, decide_true, decide_false, cond_true, cond_false, Bool.true_and, Bool.false_and, Bool.and_true, Bool.and_false, Bool.true_or, Bool.false_or, Bool.or_true, Bool.or_false, b2i_tt, b2i_ff]; done) | (simp only [draws, if_neg c_8, decide_eq_false c_8, decide_eq_true c_8, if_pos c_8, gi_sl, gi_sA, gi_sB, gi_si_s, gi_si_n, gl_si, gl_sA, gl_sB, gl_sl_s, gl_sl_n, gA_si, gA_sl, gA_sB, gA_sA_s, gA_sA_n, gB_si, gB_sl, gB_sA, gB_sB_s, gB_sB_n, Nat.reduceBEq, if_true, if_false, eq_self, Bool.false_eq_true, reduceCtorEq, not_true_eq_false, not_false_eq_true, decide_true, decide_false, cond_true, cond_false, Bool.true_and, Bool.false_and, Bool.and_true, Bool.and_false, Bool.true_or, Bool.false_or, Bool.or_true, Bool.or_false, b2i_tt, b2i_ff]; rfl) | (simp [draws, c_8, gi_sl, gi_sA, gi_sB, gi_si_s, gi_si_n, gl_si, gl_sA, gl_sB, gl_sl_s, gl_sl_n, gA_si, gA_sl, gA_sB, gA_sA_s, gA_sA_n, gB_si, gB_sl, gB_sA, gB_sB_s, gB_sB_n, Nat.reduceBEq]; done))), xw_eq rfl rfl rfl rfl rfl rfl rfl⟩, ⟨by rw [ht]; exact hP, va_K.moved hW.alike hK, hD⟩⟩, hS.F ht⟩) hS.2.2 dX6_draws_16
set_option maxHeartbeats 4000000 in
set_option maxRecDepth 100000 in
theorem c_turns (l : Launch) (D : va_G) (cI cJ : ClassId) (ad : Nat → Nat) (co fl ra li re wa pi : Ob) (k1 : Int32) : CT l D (TY cI cJ) yX6_turns (.code yX6_turns cX6_turns 3 (some Jvm.ClassFile.FieldType.boolean)) 2 0 0 (XW ad cI cJ co fl ra li re wa pi) [.ref (ad 7), .ref (ad 2), .int k1] (QI D (TY cI cJ) (fun r u => r = (b2i (turns fl wa k1)) ∧ u = (XW ad cI cJ co fl ra li re wa pi))) := by
  refine ent (by decide) (Nat.le_of_ble_eq_true rfl) ?_
  intro p e s m below meth c ls A hx hb hr hg hown hml hlocks hnm hP hK hD hS hA hN hl
  have hl : lv_has ls 3 [(0, .ref (ad 7)), (1, .ref (ad 2)), (2, .int k1)] := hl
  refine lv_aload_n hx hb dX6_turns_0 rfl (lv_at hl 0 rfl) ?_
  refine lv_iload_n hx hb dX6_turns_1 rfl (lv_at hl 2 rfl) ?_
  refine kI (rV (q0 := 7) (ci := 6) hx hb hml hown hg hN hK hP hD (c_draws l D cI cJ ad co fl ra li re wa pi k1) mw_204 mw_205 mw_206 mw_207 mw_208 pdv_X6_draws ⟨Nat.le_of_ble_eq_true rfl, Nat.le_of_ble_eq_true rfl⟩ rfl rfl rfl hl.1 rfl (Nat.le_of_ble_eq_true rfl) dX6_turns_2 ⟨Nat.le_of_ble_eq_true rfl, Nat.le_of_ble_eq_true rfl⟩) hD hS hA (fun r_1 u_1 H locs hp hP hD hS => ?_)
  obtain ⟨er, eu⟩ := hp
  obtain rfl := er.symm
  obtain rfl := eu.symm
  refine lv_if_eq (tgt := 31) hx hb dX6_turns_5 (by decide) (fun c_5 => ?_) (fun c_5 => ?_)
  · have c_5 : ¬ (draws wa k1) = true := b2i_0 c_5
    refine lv_iconst (v := 0) hx hb dX6_turns_31 (by decide) ?_
    exact W.zret (v := 0) hx hb hr rfl (fun t ht hW => ⟨⟨0, (XW ad cI cJ co fl ra li re wa pi), rfl, ⟨(show (0 : Int32) = (b2i (turns fl wa k1)) from (by first | (simp only [turns, if_neg c_5, bf_of c_5, gi_sl, gi_sA, gi_sB, gi_si_s, gi_si_n, gl_si, gl_sA, gl_sB, gl_sl_s, gl_sl_n, gA_si, gA_sl, gA_sB, gA_sA_s, gA_sA_n, gB_si, gB_sl, gB_sA, gB_sB_s, gB_sB_n, Nat.reduceBEq, if_true, if_false, eq_self, Bool.false_eq_true, reduceCtorEq, not_true_eq_false, not_false_eq_true, decide_true, decide_false, cond_true, cond_false, Bool.true_and, Bool.false_and, Bool.and_true, Bool.and_false, Bool.true_or, Bool.false_or, Bool.or_true, Bool.or_false, b2i_tt, b2i_ff]; done) | (simp only [turns, if_neg c_5, bf_of c_5, gi_sl, gi_sA, gi_sB, gi_si_s, gi_si_n, gl_si, gl_sA, gl_sB, gl_sl_s, gl_sl_n, gA_si, gA_sl, gA_sB, gA_sA_s, gA_sA_n, gB_si, gB_sl, gB_sA, gB_sB_s, gB_sB_n, Nat.reduceBEq, if_true, if_false, eq_self, Bool.false_eq_true, reduceCtorEq, not_true_eq_false, not_false_eq_true, decide_true, decide_false, cond_true, cond_false, Bool.true_and, Bool.false_and, Bool.and_true, Bool.and_false, Bool.true_or, Bool.false_or, Bool.or_true, Bool.or_false, b2i_tt, b2i_ff]; rfl) | (simp [turns, c_5, gi_sl, gi_sA, gi_sB, gi_si_s, gi_si_n, gl_si, gl_sA, gl_sB, gl_sl_s, gl_sl_n, gA_si, gA_sl, gA_sB, gA_sA_s, gA_sA_n, gB_si, gB_sl, gB_sA, gB_sB_s, gB_sB_n, Nat.reduceBEq]; done))), xw_eq rfl rfl rfl rfl rfl rfl rfl⟩, ⟨by rw [ht]; exact hP, va_K.moved hW.alike hK, hD⟩⟩, hS.F ht⟩) hS.2.2 dX6_turns_32
  · have c_5 : (draws wa k1) = true := b2i_1 c_5
    refine lv_aload_n hx hb dX6_turns_8 rfl (lv_at hl 0 rfl) ?_
    refine va_get (D := D) (ci := 6) (v := .ref (ad 30)) (C := RX6) (T := TX6) (N := 9) hx hb hg inGX6 hown hK hP 7 rfl rfl 1 (by decide) (hg _ mw_203) (fun _ h9 => h9) rfl dX6_turns_9 ?_
    refine lv_iload_n hx hb dX6_turns_12 rfl (lv_at hl 2 rfl) ?_
    refine kI (rSN hx hb hml hown hg hN hK hP hD (c_at l D cI cJ (XW ad cI cJ co fl ra li re wa pi) 30 (ad 30) 80 (gA wa 1) k1 rfl (by decide)) mw_84 nw_91 mw_85 mw_77 pd_X7_at ⟨Nat.le_of_ble_eq_true rfl, Nat.le_of_ble_eq_true rfl⟩ rfl hl.1 rfl (Nat.le_of_ble_eq_true rfl) dX6_turns_13 ⟨Nat.le_of_ble_eq_true rfl, Nat.le_of_ble_eq_true rfl⟩) hD hS hA (fun r_2 u_2 H locs hp hP hD hS => ?_)
    obtain ⟨er, eu⟩ := hp
    obtain rfl := er.symm
    obtain rfl := eu.symm
    refine lv_aload_n hx hb dX6_turns_16 rfl (lv_at hl 1 rfl) ?_
    refine va_getN (D := D) (ci := 1) (v := .ref (ad 16)) (C := RX1) (T := TX1) (N := 11) hx hb hg inGX1 hown hK hP 2 rfl rfl 4 (by decide) (hN.use nw_19) (fun _ h9 => h9) rfl dX6_turns_17 ?_
    refine lv_iload_n hx hb dX6_turns_20 rfl (lv_at hl 2 rfl) ?_
    refine kI (rSN hx hb hml hown hg hN hK hP hD (c_at l D cI cJ (XW ad cI cJ co fl ra li re wa pi) 16 (ad 16) 80 (gA fl 4) k1 rfl (by decide)) mw_84 nw_91 mw_85 mw_77 pd_X7_at ⟨Nat.le_of_ble_eq_true rfl, Nat.le_of_ble_eq_true rfl⟩ rfl hl.1 rfl (Nat.le_of_ble_eq_true rfl) dX6_turns_21 ⟨Nat.le_of_ble_eq_true rfl, Nat.le_of_ble_eq_true rfl⟩) hD hS hA (fun r_3 u_3 H locs hp hP hD hS => ?_)
    obtain ⟨er, eu⟩ := hp
    obtain rfl := er.symm
    obtain rfl := eu.symm
    refine lv_icmp_ne (tgt := 31) hx hb dX6_turns_24 (by decide) (fun c_24 => ?_) (fun c_24 => ?_)
    · refine lv_iconst (v := 0) hx hb dX6_turns_31 (by decide) ?_
      exact W.zret (v := 0) hx hb hr rfl (fun t ht hW => ⟨⟨0, (XW ad cI cJ co fl ra li re wa pi), rfl, ⟨(show (0 : Int32) = (b2i (turns fl wa k1)) from (by first | (simp only [turns, if_pos c_5, c_5, if_neg c_24, decide_eq_false c_24, decide_eq_true c_24, if_pos c_24, gi_sl, gi_sA, gi_sB, gi_si_s, gi_si_n, gl_si, gl_sA, gl_sB, gl_sl_s, gl_sl_n, gA_si, gA_sl, gA_sB, gA_sA_s, gA_sA_n, gB_si, gB_sl, gB_sA, gB_sB_s, gB_sB_n, Nat.reduceBEq, if_true, if_false, eq_self, Bool.false_eq_true, reduceCtorEq, not_true_eq_false, not_false_eq_true, decide_true, decide_false, cond_true, cond_false, Bool.true_and, Bool.false_and, Bool.and_true, Bool.and_false, Bool.true_or, Bool.false_or, Bool.or_true, Bool.or_false, b2i_tt, b2i_ff]; done) | (simp only [turns, if_pos c_5, c_5, if_neg c_24, decide_eq_false c_24, decide_eq_true c_24, if_pos c_24, gi_sl, gi_sA, gi_sB, gi_si_s, gi_si_n, gl_si, gl_sA, gl_sB, gl_sl_s, gl_sl_n, gA_si, gA_sl, gA_sB, gA_sA_s, gA_sA_n, gB_si, gB_sl, gB_sA, gB_sB_s, gB_sB_n, Nat.reduceBEq, if_true, if_false, eq_self, Bool.false_eq_true, reduceCtorEq, not_true_eq_false, not_false_eq_true, decide_true, decide_false, cond_true, cond_false, Bool.true_and, Bool.false_and, Bool.and_true, Bool.and_false, Bool.true_or, Bool.false_or, Bool.or_true, Bool.or_false, b2i_tt, b2i_ff]; rfl) | (simp [turns, c_5, c_24, gi_sl, gi_sA, gi_sB, gi_si_s, gi_si_n, gl_si, gl_sA, gl_sB, gl_sl_s, gl_sl_n, gA_si, gA_sl, gA_sB, gA_sA_s, gA_sA_n, gB_si, gB_sl, gB_sA, gB_sB_s, gB_sB_n, Nat.reduceBEq]; done))), xw_eq rfl rfl rfl rfl rfl rfl rfl⟩, ⟨by rw [ht]; exact hP, va_K.moved hW.alike hK, hD⟩⟩, hS.F ht⟩) hS.2.2 dX6_turns_32
    · refine lv_iconst (v := 1) hx hb dX6_turns_27 (by decide) ?_
      refine lv_goto (tgt := 32) hx hb dX6_turns_28 (by decide) ?_
      exact W.zret (v := 1) hx hb hr rfl (fun t ht hW => ⟨⟨1, (XW ad cI cJ co fl ra li re wa pi), rfl, ⟨(show (1 : Int32) = (b2i (turns fl wa k1)) from (by first | (simp only [turns, if_pos c_5, c_5, if_pos c_24, decide_eq_true c_24, decide_eq_false (not_not_intro c_24), gi_sl, gi_sA, gi_sB, gi_si_s, gi_si_n, gl_si, gl_sA, gl_sB, gl_sl_s, gl_sl_n, gA_si, gA_sl, gA_sB, gA_sA_s, gA_sA_n, gB_si, gB_sl, gB_sA, gB_sB_s, gB_sB_n, Nat.reduceBEq, if_true, if_false, eq_self, Bool.false_eq_true, reduceCtorEq, not_true_eq_false, not_false_eq_true, decide_true, decide_false, cond_true, cond_false, Bool.true_and, Bool.false_and, Bool.and_true, Bool.and_false, Bool.true_or, Bool.false_or, Bool.or_true, Bool.or_false, b2i_tt, b2i_ff]; done) | (simp only [turns, if_pos c_5, c_5, if_pos c_24, decide_eq_true c_24, decide_eq_false (not_not_intro c_24), gi_sl, gi_sA, gi_sB, gi_si_s, gi_si_n, gl_si, gl_sA, gl_sB, gl_sl_s, gl_sl_n, gA_si, gA_sl, gA_sB, gA_sA_s, gA_sA_n, gB_si, gB_sl, gB_sA, gB_sB_s, gB_sB_n, Nat.reduceBEq, if_true, if_false, eq_self, Bool.false_eq_true, reduceCtorEq, not_true_eq_false, not_false_eq_true, decide_true, decide_false, cond_true, cond_false, Bool.true_and, Bool.false_and, Bool.and_true, Bool.and_false, Bool.true_or, Bool.false_or, Bool.or_true, Bool.or_false, b2i_tt, b2i_ff]; rfl) | (simp [turns, c_5, c_24, gi_sl, gi_sA, gi_sB, gi_si_s, gi_si_n, gl_si, gl_sA, gl_sB, gl_sl_s, gl_sl_n, gA_si, gA_sl, gA_sB, gA_sA_s, gA_sA_n, gB_si, gB_sl, gB_sA, gB_sB_s, gB_sB_n, Nat.reduceBEq]; done))), xw_eq rfl rfl rfl rfl rfl rfl rfl⟩, ⟨by rw [ht]; exact hP, va_K.moved hW.alike hK, hD⟩⟩, hS.F ht⟩) hS.2.2 dX6_turns_32
set_option maxHeartbeats 4000000 in
set_option maxRecDepth 100000 in
theorem c_enter (l : Launch) (D : va_G) (cI cJ : ClassId) (ad : Nat → Nat) (co fl ra li re wa pi : Ob) (k1 : Int32) : CT l D (TY cI cJ) yX6_enter (.code yX6_enter cX6_enter 3 (none : Option FieldType)) 1 0 0 (XW ad cI cJ co fl ra li re wa pi) [.ref (ad 7), .ref (ad 2), .int k1] (QV D (TY cI cJ) (fun u => u = (XW ad cI cJ co fl ra li re (enter fl wa k1) pi))) := by
  refine ent (by decide) (Nat.le_of_ble_eq_true rfl) ?_
  intro p e s m below meth c ls A hx hb hr hg hown hml hlocks hnm hP hK hD hS hA hN hl
  have hl : lv_has ls 3 [(0, .ref (ad 7)), (1, .ref (ad 2)), (2, .int k1)] := hl
  refine lv_aload_n hx hb dX6_enter_0 rfl (lv_at hl 0 rfl) ?_
  refine va_get (D := D) (ci := 6) (v := .ref (ad 29)) (C := RX6) (T := TX6) (N := 9) hx hb hg inGX6 hown hK hP 7 rfl rfl 0 (by decide) (hg _ mw_209) (fun _ h9 => h9) rfl dX6_enter_1 ?_
  refine lv_aload_n hx hb dX6_enter_4 rfl (lv_at hl 0 rfl) ?_
  refine va_get (D := D) (ci := 6) (v := .int (gi wa 0)) (C := RX6) (T := TX6) (N := 9) hx hb hg inGX6 hown hK hP 7 rfl rfl 5 (by decide) (hg _ mw_210) (fun _ h9 => h9) rfl dX6_enter_5 ?_
  refine lv_iload_n hx hb dX6_enter_8 rfl (lv_at hl 2 rfl) ?_
  refine kV (rSN hx hb hml hown hg hN hK hP hD (c_put l D cI cJ (XW ad cI cJ co fl ra li re wa pi) 29 (ad 29) 40 (gA wa 0) (gi wa 0) k1 rfl (by decide)) mw_92 nw_90 mw_93 mw_77 pd_X7_put ⟨Nat.le_of_ble_eq_true rfl, Nat.le_of_ble_eq_true rfl⟩ rfl hl.1 rfl (Nat.le_of_ble_eq_true rfl) dX6_enter_9 ⟨Nat.le_of_ble_eq_true rfl, Nat.le_of_ble_eq_true rfl⟩) hD hS hA (fun u_1 H locs hp hP hD hS => ?_)
  obtain rfl := hp.symm
  have hP : va_P D vwCl (XW ad cI cJ co fl ra li re (sA wa 0 (wr (gA wa 0) 40 (gi wa 0) k1)) pi) H := hP
  have hD : va_D A (XW ad cI cJ co fl ra li re (sA wa 0 (wr (gA wa 0) 40 (gi wa 0) k1)) pi) := hD
  refine lv_aload_n hx hb dX6_enter_12 rfl (lv_at hl 0 rfl) ?_
  refine lv_dup hx hb dX6_enter_13 rfl ?_
  refine va_get (D := D) (ci := 6) (v := .int (gi wa 0)) (C := RX6) (T := TX6) (N := 9) hx hb hg inGX6 hown hK hP 7 rfl rfl 5 (by decide) (hg _ mw_210) (fun _ h9 => h9) rfl dX6_enter_14 ?_
  refine lv_iconst (v := 1) hx hb dX6_enter_17 (by decide) ?_
  refine lv_iadd hx hb dX6_enter_18 ?_
  refine va_put (D := D) (ci := 6) (v := .int ((gi wa 0) + 1)) (C := RX6) (T := TX6) (N := 9) hx hb hg inGX6 tyX6 tyX6_ok nmX6 hown hK hP hD hS 7 rfl rfl 5 (by decide) (hg _ mw_210) (fun _ h9 => h9) rfl (tyX6_ok 5 (by decide)) rfl rfl (Nat.le_of_ble_eq_true rfl) dX6_enter_19 (fun H locs hP hD hS => ?_)
  have hP : va_P D vwCl (XW ad cI cJ co fl ra li re (si (sA wa 0 (wr (gA wa 0) 40 (gi wa 0) k1)) 0 ((gi wa 0) + 1)) pi) H := hP
  have hD : va_D A (XW ad cI cJ co fl ra li re (si (sA wa 0 (wr (gA wa 0) 40 (gi wa 0) k1)) 0 ((gi wa 0) + 1)) pi) := hD
  refine lv_aload_n hx hb dX6_enter_22 rfl (lv_at hl 0 rfl) ?_
  refine va_get (D := D) (ci := 6) (v := .ref (ad 32)) (C := RX6) (T := TX6) (N := 9) hx hb hg inGX6 hown hK hP 7 rfl rfl 3 (by decide) (hg _ mw_211) (fun _ h9 => h9) rfl dX6_enter_23 ?_
  refine lv_aload_n hx hb dX6_enter_26 rfl (lv_at hl 0 rfl) ?_
  refine va_get (D := D) (ci := 6) (v := .int (gi wa 1)) (C := RX6) (T := TX6) (N := 9) hx hb hg inGX6 hown hK hP 7 rfl rfl 6 (by decide) (hg _ mw_212) (fun _ h9 => h9) rfl dX6_enter_27 ?_
  refine lv_iload_n hx hb dX6_enter_30 rfl (lv_at hl 2 rfl) ?_
  refine kV (rSN hx hb hml hown hg hN hK hP hD (c_put l D cI cJ (XW ad cI cJ co fl ra li re (si (sA wa 0 (wr (gA wa 0) 40 (gi wa 0) k1)) 0 ((gi wa 0) + 1)) pi) 32 (ad 32) 40 (gA wa 3) (gi wa 1) k1 rfl (by decide)) mw_92 nw_90 mw_93 mw_77 pd_X7_put ⟨Nat.le_of_ble_eq_true rfl, Nat.le_of_ble_eq_true rfl⟩ rfl hl.1 rfl (Nat.le_of_ble_eq_true rfl) dX6_enter_31 ⟨Nat.le_of_ble_eq_true rfl, Nat.le_of_ble_eq_true rfl⟩) hD hS hA (fun u_2 H locs hp hP hD hS => ?_)
  obtain rfl := hp.symm
  have hP : va_P D vwCl (XW ad cI cJ co fl ra li re (sA (si (sA wa 0 (wr (gA wa 0) 40 (gi wa 0) k1)) 0 ((gi wa 0) + 1)) 3 (wr (gA wa 3) 40 (gi wa 1) k1)) pi) H := hP
  have hD : va_D A (XW ad cI cJ co fl ra li re (sA (si (sA wa 0 (wr (gA wa 0) 40 (gi wa 0) k1)) 0 ((gi wa 0) + 1)) 3 (wr (gA wa 3) 40 (gi wa 1) k1)) pi) := hD
  refine lv_aload_n hx hb dX6_enter_34 rfl (lv_at hl 0 rfl) ?_
  refine lv_dup hx hb dX6_enter_35 rfl ?_
  refine va_get (D := D) (ci := 6) (v := .int (gi wa 1)) (C := RX6) (T := TX6) (N := 9) hx hb hg inGX6 hown hK hP 7 rfl rfl 6 (by decide) (hg _ mw_212) (fun _ h9 => h9) rfl dX6_enter_36 ?_
  refine lv_iconst (v := 1) hx hb dX6_enter_39 (by decide) ?_
  refine lv_iadd hx hb dX6_enter_40 ?_
  refine va_put (D := D) (ci := 6) (v := .int ((gi wa 1) + 1)) (C := RX6) (T := TX6) (N := 9) hx hb hg inGX6 tyX6 tyX6_ok nmX6 hown hK hP hD hS 7 rfl rfl 6 (by decide) (hg _ mw_212) (fun _ h9 => h9) rfl (tyX6_ok 6 (by decide)) rfl rfl (Nat.le_of_ble_eq_true rfl) dX6_enter_41 (fun H locs hP hD hS => ?_)
  have hP : va_P D vwCl (XW ad cI cJ co fl ra li re (si (sA (si (sA wa 0 (wr (gA wa 0) 40 (gi wa 0) k1)) 0 ((gi wa 0) + 1)) 3 (wr (gA wa 3) 40 (gi wa 1) k1)) 1 ((gi wa 1) + 1)) pi) H := hP
  have hD : va_D A (XW ad cI cJ co fl ra li re (si (sA (si (sA wa 0 (wr (gA wa 0) 40 (gi wa 0) k1)) 0 ((gi wa 0) + 1)) 3 (wr (gA wa 3) 40 (gi wa 1) k1)) 1 ((gi wa 1) + 1)) pi) := hD
  refine lv_aload_n hx hb dX6_enter_44 rfl (lv_at hl 0 rfl) ?_
  refine va_get (D := D) (ci := 6) (v := .ref (ad 33)) (C := RX6) (T := TX6) (N := 9) hx hb hg inGX6 hown hK hP 7 rfl rfl 4 (by decide) (hg _ mw_213) (fun _ h9 => h9) rfl dX6_enter_45 ?_
  refine lv_iload_n hx hb dX6_enter_48 rfl (lv_at hl 2 rfl) ?_
  refine lv_aload_n hx hb dX6_enter_49 rfl (lv_at hl 1 rfl) ?_
  refine va_getN (D := D) (ci := 1) (v := .ref (ad 17)) (C := RX1) (T := TX1) (N := 11) hx hb hg inGX1 hown hK hP 2 rfl rfl 5 (by decide) (hN.use nw_21) (fun _ h9 => h9) rfl dX6_enter_50 ?_
  refine lv_iload_n hx hb dX6_enter_53 rfl (lv_at hl 2 rfl) ?_
  refine kI (rSN hx hb hml hown hg hN hK hP hD (c_at l D cI cJ (XW ad cI cJ co fl ra li re (si (sA (si (sA wa 0 (wr (gA wa 0) 40 (gi wa 0) k1)) 0 ((gi wa 0) + 1)) 3 (wr (gA wa 3) 40 (gi wa 1) k1)) 1 ((gi wa 1) + 1)) pi) 17 (ad 17) 41 (gA fl 5) k1 rfl (by decide)) mw_84 nw_91 mw_85 mw_77 pd_X7_at ⟨Nat.le_of_ble_eq_true rfl, Nat.le_of_ble_eq_true rfl⟩ rfl hl.1 rfl (Nat.le_of_ble_eq_true rfl) dX6_enter_54 ⟨Nat.le_of_ble_eq_true rfl, Nat.le_of_ble_eq_true rfl⟩) hD hS hA (fun r_3 u_3 H locs hp hP hD hS => ?_)
  obtain ⟨er, eu⟩ := hp
  obtain rfl := er.symm
  obtain rfl := eu.symm
  refine kV (rSN hx hb hml hown hg hN hK hP hD (c_put l D cI cJ (XW ad cI cJ co fl ra li re (si (sA (si (sA wa 0 (wr (gA wa 0) 40 (gi wa 0) k1)) 0 ((gi wa 0) + 1)) 3 (wr (gA wa 3) 40 (gi wa 1) k1)) 1 ((gi wa 1) + 1)) pi) 33 (ad 33) 40 (gA wa 4) k1 (rd (gA fl 5) 41 k1) rfl (by decide)) mw_92 nw_90 mw_93 mw_77 pd_X7_put ⟨Nat.le_of_ble_eq_true rfl, Nat.le_of_ble_eq_true rfl⟩ rfl hl.1 rfl (Nat.le_of_ble_eq_true rfl) dX6_enter_57 ⟨Nat.le_of_ble_eq_true rfl, Nat.le_of_ble_eq_true rfl⟩) hD hS hA (fun u_4 H locs hp hP hD hS => ?_)
  obtain rfl := hp.symm
  have hP : va_P D vwCl (XW ad cI cJ co fl ra li re (sA (si (sA (si (sA wa 0 (wr (gA wa 0) 40 (gi wa 0) k1)) 0 ((gi wa 0) + 1)) 3 (wr (gA wa 3) 40 (gi wa 1) k1)) 1 ((gi wa 1) + 1)) 4 (wr (gA wa 4) 40 k1 (rd (gA fl 5) 41 k1))) pi) H := hP
  have hD : va_D A (XW ad cI cJ co fl ra li re (sA (si (sA (si (sA wa 0 (wr (gA wa 0) 40 (gi wa 0) k1)) 0 ((gi wa 0) + 1)) 3 (wr (gA wa 3) 40 (gi wa 1) k1)) 1 ((gi wa 1) + 1)) 4 (wr (gA wa 4) 40 k1 (rd (gA fl 5) 41 k1))) pi) := hD
  refine lv_aload_n hx hb dX6_enter_60 rfl (lv_at hl 0 rfl) ?_
  refine lv_dup hx hb dX6_enter_61 rfl ?_
  refine va_get (D := D) (ci := 6) (v := .long (gl wa 0)) (C := RX6) (T := TX6) (N := 9) hx hb hg inGX6 hown hK hP 7 rfl rfl 7 (by decide) (hg _ mw_214) (fun _ h9 => h9) rfl dX6_enter_62 ?_
  refine lv_iload_n hx hb dX6_enter_65 rfl (lv_at hl 2 rfl) ?_
  refine kL (rSN hx hb hml hown hg hN hK hP hD (c_bit l D cI cJ (XW ad cI cJ co fl ra li re (sA (si (sA (si (sA wa 0 (wr (gA wa 0) 40 (gi wa 0) k1)) 0 ((gi wa 0) + 1)) 3 (wr (gA wa 3) 40 (gi wa 1) k1)) 1 ((gi wa 1) + 1)) 4 (wr (gA wa 4) 40 k1 (rd (gA fl 5) 41 k1))) pi) k1) mw_78 nw_92 mw_80 mw_77 pd_X7_bit ⟨Nat.le_of_ble_eq_true rfl, Nat.le_of_ble_eq_true rfl⟩ rfl hl.1 rfl (Nat.le_of_ble_eq_true rfl) dX6_enter_66 ⟨Nat.le_of_ble_eq_true rfl, Nat.le_of_ble_eq_true rfl⟩) hD hS hA (fun r_5 u_5 H locs hp hP hD hS => ?_)
  obtain ⟨er, eu⟩ := hp
  obtain rfl := er.symm
  obtain rfl := eu.symm
  refine lv_lor hx hb dX6_enter_69 ?_
  refine va_put (D := D) (ci := 6) (v := .long ((gl wa 0) ||| (bitL k1))) (C := RX6) (T := TX6) (N := 9) hx hb hg inGX6 tyX6 tyX6_ok nmX6 hown hK hP hD hS 7 rfl rfl 7 (by decide) (hg _ mw_214) (fun _ h9 => h9) rfl (tyX6_ok 7 (by decide)) rfl rfl (Nat.le_of_ble_eq_true rfl) dX6_enter_70 (fun H locs hP hD hS => ?_)
  have hP : va_P D vwCl (XW ad cI cJ co fl ra li re (sl (sA (si (sA (si (sA wa 0 (wr (gA wa 0) 40 (gi wa 0) k1)) 0 ((gi wa 0) + 1)) 3 (wr (gA wa 3) 40 (gi wa 1) k1)) 1 ((gi wa 1) + 1)) 4 (wr (gA wa 4) 40 k1 (rd (gA fl 5) 41 k1))) 0 ((gl wa 0) ||| (bitL k1))) pi) H := hP
  have hD : va_D A (XW ad cI cJ co fl ra li re (sl (sA (si (sA (si (sA wa 0 (wr (gA wa 0) 40 (gi wa 0) k1)) 0 ((gi wa 0) + 1)) 3 (wr (gA wa 3) 40 (gi wa 1) k1)) 1 ((gi wa 1) + 1)) 4 (wr (gA wa 4) 40 k1 (rd (gA fl 5) 41 k1))) 0 ((gl wa 0) ||| (bitL k1))) pi) := hD
  refine lv_aload_n hx hb dX6_enter_73 rfl (lv_at hl 0 rfl) ?_
  refine lv_dup hx hb dX6_enter_74 rfl ?_
  refine va_get (D := D) (ci := 6) (v := .long (gl wa 1)) (C := RX6) (T := TX6) (N := 9) hx hb hg inGX6 hown hK hP 7 rfl rfl 8 (by decide) (hg _ mw_215) (fun _ h9 => h9) rfl dX6_enter_75 ?_
  refine lv_iload_n hx hb dX6_enter_78 rfl (lv_at hl 2 rfl) ?_
  refine kL (rSN hx hb hml hown hg hN hK hP hD (c_bit l D cI cJ (XW ad cI cJ co fl ra li re (sl (sA (si (sA (si (sA wa 0 (wr (gA wa 0) 40 (gi wa 0) k1)) 0 ((gi wa 0) + 1)) 3 (wr (gA wa 3) 40 (gi wa 1) k1)) 1 ((gi wa 1) + 1)) 4 (wr (gA wa 4) 40 k1 (rd (gA fl 5) 41 k1))) 0 ((gl wa 0) ||| (bitL k1))) pi) k1) mw_78 nw_92 mw_80 mw_77 pd_X7_bit ⟨Nat.le_of_ble_eq_true rfl, Nat.le_of_ble_eq_true rfl⟩ rfl hl.1 rfl (Nat.le_of_ble_eq_true rfl) dX6_enter_79 ⟨Nat.le_of_ble_eq_true rfl, Nat.le_of_ble_eq_true rfl⟩) hD hS hA (fun r_6 u_6 H locs hp hP hD hS => ?_)
  obtain ⟨er, eu⟩ := hp
  obtain rfl := er.symm
  obtain rfl := eu.symm
  refine lv_lor hx hb dX6_enter_82 ?_
  refine va_put (D := D) (ci := 6) (v := .long ((gl wa 1) ||| (bitL k1))) (C := RX6) (T := TX6) (N := 9) hx hb hg inGX6 tyX6 tyX6_ok nmX6 hown hK hP hD hS 7 rfl rfl 8 (by decide) (hg _ mw_215) (fun _ h9 => h9) rfl (tyX6_ok 8 (by decide)) rfl rfl (Nat.le_of_ble_eq_true rfl) dX6_enter_83 (fun H locs hP hD hS => ?_)
  have hP : va_P D vwCl (XW ad cI cJ co fl ra li re (sl (sl (sA (si (sA (si (sA wa 0 (wr (gA wa 0) 40 (gi wa 0) k1)) 0 ((gi wa 0) + 1)) 3 (wr (gA wa 3) 40 (gi wa 1) k1)) 1 ((gi wa 1) + 1)) 4 (wr (gA wa 4) 40 k1 (rd (gA fl 5) 41 k1))) 0 ((gl wa 0) ||| (bitL k1))) 1 ((gl wa 1) ||| (bitL k1))) pi) H := hP
  have hD : va_D A (XW ad cI cJ co fl ra li re (sl (sl (sA (si (sA (si (sA wa 0 (wr (gA wa 0) 40 (gi wa 0) k1)) 0 ((gi wa 0) + 1)) 3 (wr (gA wa 3) 40 (gi wa 1) k1)) 1 ((gi wa 1) + 1)) 4 (wr (gA wa 4) 40 k1 (rd (gA fl 5) 41 k1))) 0 ((gl wa 0) ||| (bitL k1))) 1 ((gl wa 1) ||| (bitL k1))) pi) := hD
  exact W.vret hx hb hr (fun t ht hW => ⟨⟨(XW ad cI cJ co fl ra li re (sl (sl (sA (si (sA (si (sA wa 0 (wr (gA wa 0) 40 (gi wa 0) k1)) 0 ((gi wa 0) + 1)) 3 (wr (gA wa 3) 40 (gi wa 1) k1)) 1 ((gi wa 1) + 1)) 4 (wr (gA wa 4) 40 k1 (rd (gA fl 5) 41 k1))) 0 ((gl wa 0) ||| (bitL k1))) 1 ((gl wa 1) ||| (bitL k1))) pi), rfl, xw_eq rfl rfl rfl rfl rfl (show (sl (sl (sA (si (sA (si (sA wa 0 (wr (gA wa 0) 40 (gi wa 0) k1)) 0 ((gi wa 0) + 1)) 3 (wr (gA wa 3) 40 (gi wa 1) k1)) 1 ((gi wa 1) + 1)) 4 (wr (gA wa 4) 40 k1 (rd (gA fl 5) 41 k1))) 0 ((gl wa 0) ||| (bitL k1))) 1 ((gl wa 1) ||| (bitL k1))) = (enter fl wa k1) from (by first | with_reducible rfl | (simp only [enter, gi_sl, gi_sA, gi_sB, gi_si_s, gi_si_n, gl_si, gl_sA, gl_sB, gl_sl_s, gl_sl_n, gA_si, gA_sl, gA_sB, gA_sA_s, gA_sA_n, gB_si, gB_sl, gB_sA, gB_sB_s, gB_sB_n, Nat.reduceBEq, if_true, if_false, eq_self, Bool.false_eq_true, reduceCtorEq, not_true_eq_false, not_false_eq_true, decide_true, decide_false, cond_true, cond_false, Bool.true_and, Bool.false_and, Bool.and_true, Bool.and_false, Bool.true_or, Bool.false_or, Bool.or_true, Bool.or_false, b2i_tt, b2i_ff]; done) | rfl)) rfl, ⟨by rw [ht]; exact hP, va_K.moved hW.alike hK, hD⟩⟩, hS.F ht⟩) hS.2.2 dX6_enter_86
set_option maxHeartbeats 4000000 in
set_option maxRecDepth 100000 in
theorem c_goOn (l : Launch) (D : va_G) (cI cJ : ClassId) (ad : Nat → Nat) (co fl ra li re wa pi : Ob) (k1 : Int32) : CT l D (TY cI cJ) yX6_goOn (.code yX6_goOn cX6_goOn 6 (none : Option FieldType)) 2 0 0 (XW ad cI cJ co fl ra li re wa pi) [.ref (ad 7), .ref (ad 2), .int k1] (QV D (TY cI cJ) (fun u => u = (XW ad cI cJ co fl ra li re (goOn fl wa k1) pi))) := by
  refine ent (by decide) (Nat.le_of_ble_eq_true rfl) ?_
  intro p e s m below meth c ls A hx hb hr hg hown hml hlocks hnm hP hK hD hS hA hN hl
  have hl : lv_has ls 6 [(0, .ref (ad 7)), (1, .ref (ad 2)), (2, .int k1)] := hl
  refine lv_aload_n hx hb dX6_goOn_0 rfl (lv_at hl 0 rfl) ?_
  refine va_get (D := D) (ci := 6) (v := .ref (ad 33)) (C := RX6) (T := TX6) (N := 9) hx hb hg inGX6 hown hK hP 7 rfl rfl 4 (by decide) (hg _ mw_213) (fun _ h9 => h9) rfl dX6_goOn_1 ?_
  refine lv_iload_n hx hb dX6_goOn_4 rfl (lv_at hl 2 rfl) ?_
  refine kI (rSN hx hb hml hown hg hN hK hP hD (c_at l D cI cJ (XW ad cI cJ co fl ra li re wa pi) 33 (ad 33) 40 (gA wa 4) k1 rfl (by decide)) mw_84 nw_91 mw_85 mw_77 pd_X7_at ⟨Nat.le_of_ble_eq_true rfl, Nat.le_of_ble_eq_true rfl⟩ rfl hl.1 rfl (Nat.le_of_ble_eq_true rfl) dX6_goOn_5 ⟨Nat.le_of_ble_eq_true rfl, Nat.le_of_ble_eq_true rfl⟩) hD hS hA (fun r_1 u_1 H locs hp hP hD hS => ?_)
  obtain ⟨er, eu⟩ := hp
  obtain rfl := er.symm
  obtain rfl := eu.symm
  refine lv_istore_n (lv' := [(3, .int (rd (gA wa 4) 40 k1)), (0, .ref (ad 7)), (1, .ref (ad 2)), (2, .int k1)]) hx hb dX6_goOn_8 rfl hl (by decide) rfl (fun ls hl => ?_)
  refine lv_iload_n hx hb dX6_goOn_9 rfl (lv_at hl 0 rfl) ?_
  refine lv_aload_n hx hb dX6_goOn_10 rfl (lv_at hl 2 rfl) ?_
  refine va_getN (D := D) (ci := 1) (v := .ref (ad 17)) (C := RX1) (T := TX1) (N := 11) hx hb hg inGX1 hown hK hP 2 rfl rfl 5 (by decide) (hN.use nw_21) (fun _ h9 => h9) rfl dX6_goOn_11 ?_
  refine lv_iload_n hx hb dX6_goOn_14 rfl (lv_at hl 3 rfl) ?_
  refine lv_iconst (v := 1) hx hb dX6_goOn_15 (by decide) ?_
  refine lv_iadd hx hb dX6_goOn_16 ?_
  refine kI (rSN hx hb hml hown hg hN hK hP hD (c_at l D cI cJ (XW ad cI cJ co fl ra li re wa pi) 17 (ad 17) 41 (gA fl 5) (k1 + 1) rfl (by decide)) mw_84 nw_91 mw_85 mw_77 pd_X7_at ⟨Nat.le_of_ble_eq_true rfl, Nat.le_of_ble_eq_true rfl⟩ rfl hl.1 rfl (Nat.le_of_ble_eq_true rfl) dX6_goOn_17 ⟨Nat.le_of_ble_eq_true rfl, Nat.le_of_ble_eq_true rfl⟩) hD hS hA (fun r_2 u_2 H locs hp hP hD hS => ?_)
  obtain ⟨er, eu⟩ := hp
  obtain rfl := er.symm
  obtain rfl := eu.symm
  refine lv_icmp_lt (tgt := 51) hx hb dX6_goOn_20 (by decide) (fun c_20 => ?_) (fun c_20 => ?_)
  · refine lv_aload_n hx hb dX6_goOn_51 rfl (lv_at hl 1 rfl) ?_
    refine va_get (D := D) (ci := 6) (v := .ref (ad 33)) (C := RX6) (T := TX6) (N := 9) hx hb hg inGX6 hown hK hP 7 rfl rfl 4 (by decide) (hg _ mw_213) (fun _ h9 => h9) rfl dX6_goOn_52 ?_
    refine lv_iload_n hx hb dX6_goOn_55 rfl (lv_at hl 3 rfl) ?_
    refine lv_iload_n hx hb dX6_goOn_56 rfl (lv_at hl 0 rfl) ?_
    refine lv_iconst (v := 1) hx hb dX6_goOn_57 (by decide) ?_
    refine lv_iadd hx hb dX6_goOn_58 ?_
    refine kV (rSN hx hb hml hown hg hN hK hP hD (c_put l D cI cJ (XW ad cI cJ co fl ra li re wa pi) 33 (ad 33) 40 (gA wa 4) k1 ((rd (gA wa 4) 40 k1) + 1) rfl (by decide)) mw_92 nw_90 mw_93 mw_77 pd_X7_put ⟨Nat.le_of_ble_eq_true rfl, Nat.le_of_ble_eq_true rfl⟩ rfl hl.1 rfl (Nat.le_of_ble_eq_true rfl) dX6_goOn_59 ⟨Nat.le_of_ble_eq_true rfl, Nat.le_of_ble_eq_true rfl⟩) hD hS hA (fun u_3 H locs hp hP hD hS => ?_)
    obtain rfl := hp.symm
    have hP : va_P D vwCl (XW ad cI cJ co fl ra li re (sA wa 4 (wr (gA wa 4) 40 k1 ((rd (gA wa 4) 40 k1) + 1))) pi) H := hP
    have hD : va_D A (XW ad cI cJ co fl ra li re (sA wa 4 (wr (gA wa 4) 40 k1 ((rd (gA wa 4) 40 k1) + 1))) pi) := hD
    refine lv_aload_n hx hb dX6_goOn_62 rfl (lv_at hl 2 rfl) ?_
    refine va_getN (D := D) (ci := 1) (v := .ref (ad 16)) (C := RX1) (T := TX1) (N := 11) hx hb hg inGX1 hown hK hP 2 rfl rfl 4 (by decide) (hN.use nw_19) (fun _ h9 => h9) rfl dX6_goOn_63 ?_
    refine lv_iload_n hx hb dX6_goOn_66 rfl (lv_at hl 0 rfl) ?_
    refine kI (rSN hx hb hml hown hg hN hK hP hD (c_at l D cI cJ (XW ad cI cJ co fl ra li re (sA wa 4 (wr (gA wa 4) 40 k1 ((rd (gA wa 4) 40 k1) + 1))) pi) 16 (ad 16) 80 (gA fl 4) (rd (gA wa 4) 40 k1) rfl (by decide)) mw_84 nw_91 mw_85 mw_77 pd_X7_at ⟨Nat.le_of_ble_eq_true rfl, Nat.le_of_ble_eq_true rfl⟩ rfl hl.1 rfl (Nat.le_of_ble_eq_true rfl) dX6_goOn_67 ⟨Nat.le_of_ble_eq_true rfl, Nat.le_of_ble_eq_true rfl⟩) hD hS hA (fun r_4 u_4 H locs hp hP hD hS => ?_)
    obtain ⟨er, eu⟩ := hp
    obtain rfl := er.symm
    obtain rfl := eu.symm
    refine lv_istore (lv' := [(4, .int (rd (gA fl 4) 80 (rd (gA wa 4) 40 k1))), (3, .int (rd (gA wa 4) 40 k1)), (0, .ref (ad 7)), (1, .ref (ad 2)), (2, .int k1)]) hx hb dX6_goOn_70 hl (by decide) rfl (fun ls hl => ?_)
    refine lv_iload hx hb dX6_goOn_72 (lv_at hl 0 rfl) ?_
    refine lv_if_lt (tgt := 83) hx hb dX6_goOn_74 (by decide) (fun c_74 => ?_) (fun c_74 => ?_)
    · exact W.vret hx hb hr (fun t ht hW => ⟨⟨(XW ad cI cJ co fl ra li re (sA wa 4 (wr (gA wa 4) 40 k1 ((rd (gA wa 4) 40 k1) + 1))) pi), rfl, xw_eq rfl rfl rfl rfl rfl (show (sA wa 4 (wr (gA wa 4) 40 k1 ((rd (gA wa 4) 40 k1) + 1))) = (goOn fl wa k1) from (by first | (simp only [goOn, goE, goF, goD, goM, if_pos c_20, decide_eq_true c_20, decide_eq_false (not_not_intro c_20), if_pos c_74, decide_eq_true c_74, decide_eq_false (not_not_intro c_74), gi_sl, gi_sA, gi_sB, gi_si_s, gi_si_n, gl_si, gl_sA, gl_sB, gl_sl_s, gl_sl_n, gA_si, gA_sl, gA_sB, gA_sA_s, gA_sA_n, gB_si, gB_sl, gB_sA, gB_sB_s, gB_sB_n, Nat.reduceBEq, if_true, if_false, eq_self, Bool.false_eq_true, reduceCtorEq, not_true_eq_false, not_false_eq_true, decide_true, decide_false, cond_true, cond_false, Bool.true_and, Bool.false_and, Bool.and_true, Bool.and_false, Bool.true_or, Bool.false_or, Bool.or_true, Bool.or_false, b2i_tt, b2i_ff]; done) | (simp only [goOn, goE, goF, goD, goM, if_pos c_20, decide_eq_true c_20, decide_eq_false (not_not_intro c_20), if_pos c_74, decide_eq_true c_74, decide_eq_false (not_not_intro c_74), gi_sl, gi_sA, gi_sB, gi_si_s, gi_si_n, gl_si, gl_sA, gl_sB, gl_sl_s, gl_sl_n, gA_si, gA_sl, gA_sB, gA_sA_s, gA_sA_n, gB_si, gB_sl, gB_sA, gB_sB_s, gB_sB_n, Nat.reduceBEq, if_true, if_false, eq_self, Bool.false_eq_true, reduceCtorEq, not_true_eq_false, not_false_eq_true, decide_true, decide_false, cond_true, cond_false, Bool.true_and, Bool.false_and, Bool.and_true, Bool.and_false, Bool.true_or, Bool.false_or, Bool.or_true, Bool.or_false, b2i_tt, b2i_ff]; rfl) | (simp [goOn, goE, goF, goD, goM, c_20, c_74, gi_sl, gi_sA, gi_sB, gi_si_s, gi_si_n, gl_si, gl_sA, gl_sB, gl_sl_s, gl_sl_n, gA_si, gA_sl, gA_sB, gA_sA_s, gA_sA_n, gB_si, gB_sl, gB_sA, gB_sB_s, gB_sB_n, Nat.reduceBEq]; done))) rfl, ⟨by rw [ht]; exact hP, va_K.moved hW.alike hK, hD⟩⟩, hS.F ht⟩) hS.2.2 dX6_goOn_83
    · refine lv_iload hx hb dX6_goOn_77 (lv_at hl 0 rfl) ?_
      refine lv_iload_n hx hb dX6_goOn_79 rfl (lv_at hl 4 rfl) ?_
      refine lv_icmp_ne (tgt := 84) hx hb dX6_goOn_80 (by decide) (fun c_80 => ?_) (fun c_80 => ?_)
      · refine lv_aload_n hx hb dX6_goOn_84 rfl (lv_at hl 2 rfl) ?_
        refine va_get (D := D) (ci := 6) (v := .long (gl wa 1)) (C := RX6) (T := TX6) (N := 9) hx hb hg inGX6 hown hK hP 7 rfl rfl 8 (by decide) (hg _ mw_215) (fun _ h9 => h9) rfl dX6_goOn_85 ?_
        refine lv_iload hx hb dX6_goOn_88 (lv_at hl 0 rfl) ?_
        refine kI (rSN hx hb hml hown hg hN hK hP hD (c_has l D cI cJ (XW ad cI cJ co fl ra li re (sA wa 4 (wr (gA wa 4) 40 k1 ((rd (gA wa 4) 40 k1) + 1))) pi) (gl wa 1) (rd (gA fl 4) 80 (rd (gA wa 4) 40 k1))) mw_89 nw_93 mw_90 mw_77 pd_X7_has ⟨Nat.le_of_ble_eq_true rfl, Nat.le_of_ble_eq_true rfl⟩ rfl hl.1 rfl (Nat.le_of_ble_eq_true rfl) dX6_goOn_90 ⟨Nat.le_of_ble_eq_true rfl, Nat.le_of_ble_eq_true rfl⟩) hD hS hA (fun r_5 u_5 H locs hp hP hD hS => ?_)
        obtain ⟨er, eu⟩ := hp
        obtain rfl := er.symm
        obtain rfl := eu.symm
        refine lv_istore (lv' := [(5, .int (b2i (hs (gl wa 1) (rd (gA fl 4) 80 (rd (gA wa 4) 40 k1))))), (4, .int (rd (gA fl 4) 80 (rd (gA wa 4) 40 k1))), (3, .int (rd (gA wa 4) 40 k1)), (0, .ref (ad 7)), (1, .ref (ad 2)), (2, .int k1)]) hx hb dX6_goOn_93 hl (by decide) rfl (fun ls hl => ?_)
        refine lv_aload_n hx hb dX6_goOn_95 rfl (lv_at hl 3 rfl) ?_
        refine va_get (D := D) (ci := 6) (v := .ref (ad 30)) (C := RX6) (T := TX6) (N := 9) hx hb hg inGX6 hown hK hP 7 rfl rfl 1 (by decide) (hg _ mw_203) (fun _ h9 => h9) rfl dX6_goOn_96 ?_
        refine lv_iload_n hx hb dX6_goOn_99 rfl (lv_at hl 2 rfl) ?_
        refine lv_iload hx hb dX6_goOn_100 (lv_at hl 0 rfl) ?_
        refine lv_if_eq (tgt := 110) hx hb dX6_goOn_102 (by decide) (fun c_102 => ?_) (fun c_102 => ?_)
        · have c_102 : ¬ (hs (gl wa 1) (rd (gA fl 4) 80 (rd (gA wa 4) 40 k1))) = true := b2i_0 c_102
          refine lv_iload_n hx hb dX6_goOn_110 rfl (lv_at hl 5 rfl) ?_
          refine kV (rSN hx hb hml hown hg hN hK hP hD (c_put l D cI cJ (XW ad cI cJ co fl ra li re (sA wa 4 (wr (gA wa 4) 40 k1 ((rd (gA wa 4) 40 k1) + 1))) pi) 30 (ad 30) 80 (gA wa 1) (rd (gA wa 4) 40 k1) k1 rfl (by decide)) mw_92 nw_90 mw_93 mw_77 pd_X7_put ⟨Nat.le_of_ble_eq_true rfl, Nat.le_of_ble_eq_true rfl⟩ rfl hl.1 rfl (Nat.le_of_ble_eq_true rfl) dX6_goOn_111 ⟨Nat.le_of_ble_eq_true rfl, Nat.le_of_ble_eq_true rfl⟩) hD hS hA (fun u_6 H locs hp hP hD hS => ?_)
          obtain rfl := hp.symm
          have hP : va_P D vwCl (XW ad cI cJ co fl ra li re (sA (sA wa 4 (wr (gA wa 4) 40 k1 ((rd (gA wa 4) 40 k1) + 1))) 1 (wr (gA wa 1) 80 (rd (gA wa 4) 40 k1) k1)) pi) H := hP
          have hD : va_D A (XW ad cI cJ co fl ra li re (sA (sA wa 4 (wr (gA wa 4) 40 k1 ((rd (gA wa 4) 40 k1) + 1))) 1 (wr (gA wa 1) 80 (rd (gA wa 4) 40 k1) k1)) pi) := hD
          refine lv_aload_n hx hb dX6_goOn_114 rfl (lv_at hl 3 rfl) ?_
          refine va_get (D := D) (ci := 6) (v := .ref (ad 31)) (C := RX6) (T := TX6) (N := 9) hx hb hg inGX6 hown hK hP 7 rfl rfl 2 (by decide) (hg _ mw_216) (fun _ h9 => h9) rfl dX6_goOn_115 ?_
          refine lv_iload_n hx hb dX6_goOn_118 rfl (lv_at hl 2 rfl) ?_
          refine lv_iload hx hb dX6_goOn_119 (lv_at hl 0 rfl) ?_
          refine lv_if_eq (tgt := 128) hx hb dX6_goOn_121 (by decide) (fun _ => ?_) (fun c_121 => absurd (b2i_f c_102) c_121)
          refine lv_iload hx hb dX6_goOn_128 (lv_at hl 1 rfl) ?_
          refine kV (rSN hx hb hml hown hg hN hK hP hD (c_put l D cI cJ (XW ad cI cJ co fl ra li re (sA (sA wa 4 (wr (gA wa 4) 40 k1 ((rd (gA wa 4) 40 k1) + 1))) 1 (wr (gA wa 1) 80 (rd (gA wa 4) 40 k1) k1)) pi) 31 (ad 31) 80 (gA wa 2) (rd (gA wa 4) 40 k1) (rd (gA fl 4) 80 (rd (gA wa 4) 40 k1)) rfl (by decide)) mw_92 nw_90 mw_93 mw_77 pd_X7_put ⟨Nat.le_of_ble_eq_true rfl, Nat.le_of_ble_eq_true rfl⟩ rfl hl.1 rfl (Nat.le_of_ble_eq_true rfl) dX6_goOn_130 ⟨Nat.le_of_ble_eq_true rfl, Nat.le_of_ble_eq_true rfl⟩) hD hS hA (fun u_7 H locs hp hP hD hS => ?_)
          obtain rfl := hp.symm
          have hP : va_P D vwCl (XW ad cI cJ co fl ra li re (sA (sA (sA wa 4 (wr (gA wa 4) 40 k1 ((rd (gA wa 4) 40 k1) + 1))) 1 (wr (gA wa 1) 80 (rd (gA wa 4) 40 k1) k1)) 2 (wr (gA wa 2) 80 (rd (gA wa 4) 40 k1) (rd (gA fl 4) 80 (rd (gA wa 4) 40 k1)))) pi) H := hP
          have hD : va_D A (XW ad cI cJ co fl ra li re (sA (sA (sA wa 4 (wr (gA wa 4) 40 k1 ((rd (gA wa 4) 40 k1) + 1))) 1 (wr (gA wa 1) 80 (rd (gA wa 4) 40 k1) k1)) 2 (wr (gA wa 2) 80 (rd (gA wa 4) 40 k1) (rd (gA fl 4) 80 (rd (gA wa 4) 40 k1)))) pi) := hD
          refine lv_aload_n hx hb dX6_goOn_133 rfl (lv_at hl 3 rfl) ?_
          refine va_get (D := D) (ci := 6) (v := .long (gl wa 0)) (C := RX6) (T := TX6) (N := 9) hx hb hg inGX6 hown hK hP 7 rfl rfl 7 (by decide) (hg _ mw_214) (fun _ h9 => h9) rfl dX6_goOn_134 ?_
          refine lv_iload hx hb dX6_goOn_137 (lv_at hl 1 rfl) ?_
          refine kI (rSN hx hb hml hown hg hN hK hP hD (c_has l D cI cJ (XW ad cI cJ co fl ra li re (sA (sA (sA wa 4 (wr (gA wa 4) 40 k1 ((rd (gA wa 4) 40 k1) + 1))) 1 (wr (gA wa 1) 80 (rd (gA wa 4) 40 k1) k1)) 2 (wr (gA wa 2) 80 (rd (gA wa 4) 40 k1) (rd (gA fl 4) 80 (rd (gA wa 4) 40 k1)))) pi) (gl wa 0) (rd (gA fl 4) 80 (rd (gA wa 4) 40 k1))) mw_89 nw_93 mw_90 mw_77 pd_X7_has ⟨Nat.le_of_ble_eq_true rfl, Nat.le_of_ble_eq_true rfl⟩ rfl hl.1 rfl (Nat.le_of_ble_eq_true rfl) dX6_goOn_139 ⟨Nat.le_of_ble_eq_true rfl, Nat.le_of_ble_eq_true rfl⟩) hD hS hA (fun r_8 u_8 H locs hp hP hD hS => ?_)
          obtain ⟨er, eu⟩ := hp
          obtain rfl := er.symm
          obtain rfl := eu.symm
          refine lv_if_ne (tgt := 152) hx hb dX6_goOn_142 (by decide) (fun c_142 => ?_) (fun c_142 => ?_)
          · have c_142 : (hs (gl wa 0) (rd (gA fl 4) 80 (rd (gA wa 4) 40 k1))) = true := b2i_1 c_142
            exact W.vret hx hb hr (fun t ht hW => ⟨⟨(XW ad cI cJ co fl ra li re (sA (sA (sA wa 4 (wr (gA wa 4) 40 k1 ((rd (gA wa 4) 40 k1) + 1))) 1 (wr (gA wa 1) 80 (rd (gA wa 4) 40 k1) k1)) 2 (wr (gA wa 2) 80 (rd (gA wa 4) 40 k1) (rd (gA fl 4) 80 (rd (gA wa 4) 40 k1)))) pi), rfl, xw_eq rfl rfl rfl rfl rfl (show (sA (sA (sA wa 4 (wr (gA wa 4) 40 k1 ((rd (gA wa 4) 40 k1) + 1))) 1 (wr (gA wa 1) 80 (rd (gA wa 4) 40 k1) k1)) 2 (wr (gA wa 2) 80 (rd (gA wa 4) 40 k1) (rd (gA fl 4) 80 (rd (gA wa 4) 40 k1)))) = (goOn fl wa k1) from (by first | (simp only [goOn, goE, goF, goD, goM, if_pos c_20, decide_eq_true c_20, decide_eq_false (not_not_intro c_20), if_neg c_74, decide_eq_false c_74, decide_eq_true c_74, if_pos c_74, if_neg c_80, decide_eq_false c_80, decide_eq_true c_80, if_pos c_80, if_neg c_102, bf_of c_102, if_pos c_142, c_142, gi_sl, gi_sA, gi_sB, gi_si_s, gi_si_n, gl_si, gl_sA, gl_sB, gl_sl_s, gl_sl_n, gA_si, gA_sl, gA_sB, gA_sA_s, gA_sA_n, gB_si, gB_sl, gB_sA, gB_sB_s, gB_sB_n, Nat.reduceBEq, if_true, if_false, eq_self, Bool.false_eq_true, reduceCtorEq, not_true_eq_false, not_false_eq_true, decide_true, decide_false, cond_true, cond_false, Bool.true_and, Bool.false_and, Bool.and_true, Bool.and_false, Bool.true_or, Bool.false_or, Bool.or_true, Bool.or_false, b2i_tt, b2i_ff]; done) | (simp only [goOn, goE, goF, goD, goM, if_pos c_20, decide_eq_true c_20, decide_eq_false (not_not_intro c_20), if_neg c_74, decide_eq_false c_74, decide_eq_true c_74, if_pos c_74, if_neg c_80, decide_eq_false c_80, decide_eq_true c_80, if_pos c_80, if_neg c_102, bf_of c_102, if_pos c_142, c_142, gi_sl, gi_sA, gi_sB, gi_si_s, gi_si_n, gl_si, gl_sA, gl_sB, gl_sl_s, gl_sl_n, gA_si, gA_sl, gA_sB, gA_sA_s, gA_sA_n, gB_si, gB_sl, gB_sA, gB_sB_s, gB_sB_n, Nat.reduceBEq, if_true, if_false, eq_self, Bool.false_eq_true, reduceCtorEq, not_true_eq_false, not_false_eq_true, decide_true, decide_false, cond_true, cond_false, Bool.true_and, Bool.false_and, Bool.and_true, Bool.and_false, Bool.true_or, Bool.false_or, Bool.or_true, Bool.or_false, b2i_tt, b2i_ff]; rfl) | (simp [goOn, goE, goF, goD, goM, c_20, c_74, c_80, c_102, c_142, gi_sl, gi_sA, gi_sB, gi_si_s, gi_si_n, gl_si, gl_sA, gl_sB, gl_sl_s, gl_sl_n, gA_si, gA_sl, gA_sB, gA_sA_s, gA_sA_n, gB_si, gB_sl, gB_sA, gB_sB_s, gB_sB_n, Nat.reduceBEq]; done))) rfl, ⟨by rw [ht]; exact hP, va_K.moved hW.alike hK, hD⟩⟩, hS.F ht⟩) hS.2.2 dX6_goOn_152
          · have c_142 : ¬ (hs (gl wa 0) (rd (gA fl 4) 80 (rd (gA wa 4) 40 k1))) = true := b2i_0 c_142
            refine lv_aload_n hx hb dX6_goOn_145 rfl (lv_at hl 3 rfl) ?_
            refine lv_aload_n hx hb dX6_goOn_146 rfl (lv_at hl 4 rfl) ?_
            refine lv_iload hx hb dX6_goOn_147 (lv_at hl 1 rfl) ?_
            refine kV (rV (q0 := 7) (ci := 6) hx hb hml hown hg hN hK hP hD (c_enter l D cI cJ ad co fl ra li re (sA (sA (sA wa 4 (wr (gA wa 4) 40 k1 ((rd (gA wa 4) 40 k1) + 1))) 1 (wr (gA wa 1) 80 (rd (gA wa 4) 40 k1) k1)) 2 (wr (gA wa 2) 80 (rd (gA wa 4) 40 k1) (rd (gA fl 4) 80 (rd (gA wa 4) 40 k1)))) pi (rd (gA fl 4) 80 (rd (gA wa 4) 40 k1))) mw_217 mw_218 mw_219 mw_220 mw_208 pdv_X6_enter ⟨Nat.le_of_ble_eq_true rfl, Nat.le_of_ble_eq_true rfl⟩ rfl rfl rfl hl.1 rfl (Nat.le_of_ble_eq_true rfl) dX6_goOn_149 ⟨Nat.le_of_ble_eq_true rfl, Nat.le_of_ble_eq_true rfl⟩) hD hS hA (fun u_9 H locs hp hP hD hS => ?_)
            obtain rfl := hp.symm
            have hP : va_P D vwCl (XW ad cI cJ co fl ra li re (enter fl (sA (sA (sA wa 4 (wr (gA wa 4) 40 k1 ((rd (gA wa 4) 40 k1) + 1))) 1 (wr (gA wa 1) 80 (rd (gA wa 4) 40 k1) k1)) 2 (wr (gA wa 2) 80 (rd (gA wa 4) 40 k1) (rd (gA fl 4) 80 (rd (gA wa 4) 40 k1)))) (rd (gA fl 4) 80 (rd (gA wa 4) 40 k1))) pi) H := hP
            have hD : va_D A (XW ad cI cJ co fl ra li re (enter fl (sA (sA (sA wa 4 (wr (gA wa 4) 40 k1 ((rd (gA wa 4) 40 k1) + 1))) 1 (wr (gA wa 1) 80 (rd (gA wa 4) 40 k1) k1)) 2 (wr (gA wa 2) 80 (rd (gA wa 4) 40 k1) (rd (gA fl 4) 80 (rd (gA wa 4) 40 k1)))) (rd (gA fl 4) 80 (rd (gA wa 4) 40 k1))) pi) := hD
            exact W.vret hx hb hr (fun t ht hW => ⟨⟨(XW ad cI cJ co fl ra li re (enter fl (sA (sA (sA wa 4 (wr (gA wa 4) 40 k1 ((rd (gA wa 4) 40 k1) + 1))) 1 (wr (gA wa 1) 80 (rd (gA wa 4) 40 k1) k1)) 2 (wr (gA wa 2) 80 (rd (gA wa 4) 40 k1) (rd (gA fl 4) 80 (rd (gA wa 4) 40 k1)))) (rd (gA fl 4) 80 (rd (gA wa 4) 40 k1))) pi), rfl, xw_eq rfl rfl rfl rfl rfl (show (enter fl (sA (sA (sA wa 4 (wr (gA wa 4) 40 k1 ((rd (gA wa 4) 40 k1) + 1))) 1 (wr (gA wa 1) 80 (rd (gA wa 4) 40 k1) k1)) 2 (wr (gA wa 2) 80 (rd (gA wa 4) 40 k1) (rd (gA fl 4) 80 (rd (gA wa 4) 40 k1)))) (rd (gA fl 4) 80 (rd (gA wa 4) 40 k1))) = (goOn fl wa k1) from (by first | (simp only [goOn, goE, goF, goD, goM, if_pos c_20, decide_eq_true c_20, decide_eq_false (not_not_intro c_20), if_neg c_74, decide_eq_false c_74, decide_eq_true c_74, if_pos c_74, if_neg c_80, decide_eq_false c_80, decide_eq_true c_80, if_pos c_80, if_neg c_102, bf_of c_102, if_neg c_142, bf_of c_142, gi_sl, gi_sA, gi_sB, gi_si_s, gi_si_n, gl_si, gl_sA, gl_sB, gl_sl_s, gl_sl_n, gA_si, gA_sl, gA_sB, gA_sA_s, gA_sA_n, gB_si, gB_sl, gB_sA, gB_sB_s, gB_sB_n, Nat.reduceBEq, if_true, if_false, eq_self, Bool.false_eq_true, reduceCtorEq, not_true_eq_false, not_false_eq_true, decide_true, decide_false, cond_true, cond_false, Bool.true_and, Bool.false_and, Bool.and_true, Bool.and_false, Bool.true_or, Bool.false_or, Bool.or_true, Bool.or_false, b2i_tt, b2i_ff]; done) | (simp only [goOn, goE, goF, goD, goM, if_pos c_20, decide_eq_true c_20, decide_eq_false (not_not_intro c_20), if_neg c_74, decide_eq_false c_74, decide_eq_true c_74, if_pos c_74, if_neg c_80, decide_eq_false c_80, decide_eq_true c_80, if_pos c_80, if_neg c_102, bf_of c_102, if_neg c_142, bf_of c_142, gi_sl, gi_sA, gi_sB, gi_si_s, gi_si_n, gl_si, gl_sA, gl_sB, gl_sl_s, gl_sl_n, gA_si, gA_sl, gA_sB, gA_sA_s, gA_sA_n, gB_si, gB_sl, gB_sA, gB_sB_s, gB_sB_n, Nat.reduceBEq, if_true, if_false, eq_self, Bool.false_eq_true, reduceCtorEq, not_true_eq_false, not_false_eq_true, decide_true, decide_false, cond_true, cond_false, Bool.true_and, Bool.false_and, Bool.and_true, Bool.and_false, Bool.true_or, Bool.false_or, Bool.or_true, Bool.or_false, b2i_tt, b2i_ff]; rfl) | (simp [goOn, goE, goF, goD, goM, c_20, c_74, c_80, c_102, c_142, gi_sl, gi_sA, gi_sB, gi_si_s, gi_si_n, gl_si, gl_sA, gl_sB, gl_sl_s, gl_sl_n, gA_si, gA_sl, gA_sB, gA_sA_s, gA_sA_n, gB_si, gB_sl, gB_sA, gB_sB_s, gB_sB_n, Nat.reduceBEq]; done))) rfl, ⟨by rw [ht]; exact hP, va_K.moved hW.alike hK, hD⟩⟩, hS.F ht⟩) hS.2.2 dX6_goOn_152
        · have c_102 : (hs (gl wa 1) (rd (gA fl 4) 80 (rd (gA wa 4) 40 k1))) = true := b2i_1 c_102
          refine lv_iload hx hb dX6_goOn_105 (lv_at hl 1 rfl) ?_
          refine lv_goto (tgt := 111) hx hb dX6_goOn_107 (by decide) ?_
          refine kV (rSN hx hb hml hown hg hN hK hP hD (c_put l D cI cJ (XW ad cI cJ co fl ra li re (sA wa 4 (wr (gA wa 4) 40 k1 ((rd (gA wa 4) 40 k1) + 1))) pi) 30 (ad 30) 80 (gA wa 1) (rd (gA wa 4) 40 k1) (rd (gA fl 4) 80 (rd (gA wa 4) 40 k1)) rfl (by decide)) mw_92 nw_90 mw_93 mw_77 pd_X7_put ⟨Nat.le_of_ble_eq_true rfl, Nat.le_of_ble_eq_true rfl⟩ rfl hl.1 rfl (Nat.le_of_ble_eq_true rfl) dX6_goOn_111 ⟨Nat.le_of_ble_eq_true rfl, Nat.le_of_ble_eq_true rfl⟩) hD hS hA (fun u_10 H locs hp hP hD hS => ?_)
          obtain rfl := hp.symm
          have hP : va_P D vwCl (XW ad cI cJ co fl ra li re (sA (sA wa 4 (wr (gA wa 4) 40 k1 ((rd (gA wa 4) 40 k1) + 1))) 1 (wr (gA wa 1) 80 (rd (gA wa 4) 40 k1) (rd (gA fl 4) 80 (rd (gA wa 4) 40 k1)))) pi) H := hP
          have hD : va_D A (XW ad cI cJ co fl ra li re (sA (sA wa 4 (wr (gA wa 4) 40 k1 ((rd (gA wa 4) 40 k1) + 1))) 1 (wr (gA wa 1) 80 (rd (gA wa 4) 40 k1) (rd (gA fl 4) 80 (rd (gA wa 4) 40 k1)))) pi) := hD
          refine lv_aload_n hx hb dX6_goOn_114 rfl (lv_at hl 3 rfl) ?_
          refine va_get (D := D) (ci := 6) (v := .ref (ad 31)) (C := RX6) (T := TX6) (N := 9) hx hb hg inGX6 hown hK hP 7 rfl rfl 2 (by decide) (hg _ mw_216) (fun _ h9 => h9) rfl dX6_goOn_115 ?_
          refine lv_iload_n hx hb dX6_goOn_118 rfl (lv_at hl 2 rfl) ?_
          refine lv_iload hx hb dX6_goOn_119 (lv_at hl 0 rfl) ?_
          refine lv_if_eq (tgt := 128) hx hb dX6_goOn_121 (by decide) (fun c_121 => absurd c_121 (b2i_t c_102)) (fun _ => ?_)
          refine lv_iload_n hx hb dX6_goOn_124 rfl (lv_at hl 5 rfl) ?_
          refine lv_goto (tgt := 130) hx hb dX6_goOn_125 (by decide) ?_
          refine kV (rSN hx hb hml hown hg hN hK hP hD (c_put l D cI cJ (XW ad cI cJ co fl ra li re (sA (sA wa 4 (wr (gA wa 4) 40 k1 ((rd (gA wa 4) 40 k1) + 1))) 1 (wr (gA wa 1) 80 (rd (gA wa 4) 40 k1) (rd (gA fl 4) 80 (rd (gA wa 4) 40 k1)))) pi) 31 (ad 31) 80 (gA wa 2) (rd (gA wa 4) 40 k1) k1 rfl (by decide)) mw_92 nw_90 mw_93 mw_77 pd_X7_put ⟨Nat.le_of_ble_eq_true rfl, Nat.le_of_ble_eq_true rfl⟩ rfl hl.1 rfl (Nat.le_of_ble_eq_true rfl) dX6_goOn_130 ⟨Nat.le_of_ble_eq_true rfl, Nat.le_of_ble_eq_true rfl⟩) hD hS hA (fun u_11 H locs hp hP hD hS => ?_)
          obtain rfl := hp.symm
          have hP : va_P D vwCl (XW ad cI cJ co fl ra li re (sA (sA (sA wa 4 (wr (gA wa 4) 40 k1 ((rd (gA wa 4) 40 k1) + 1))) 1 (wr (gA wa 1) 80 (rd (gA wa 4) 40 k1) (rd (gA fl 4) 80 (rd (gA wa 4) 40 k1)))) 2 (wr (gA wa 2) 80 (rd (gA wa 4) 40 k1) k1)) pi) H := hP
          have hD : va_D A (XW ad cI cJ co fl ra li re (sA (sA (sA wa 4 (wr (gA wa 4) 40 k1 ((rd (gA wa 4) 40 k1) + 1))) 1 (wr (gA wa 1) 80 (rd (gA wa 4) 40 k1) (rd (gA fl 4) 80 (rd (gA wa 4) 40 k1)))) 2 (wr (gA wa 2) 80 (rd (gA wa 4) 40 k1) k1)) pi) := hD
          refine lv_aload_n hx hb dX6_goOn_133 rfl (lv_at hl 3 rfl) ?_
          refine va_get (D := D) (ci := 6) (v := .long (gl wa 0)) (C := RX6) (T := TX6) (N := 9) hx hb hg inGX6 hown hK hP 7 rfl rfl 7 (by decide) (hg _ mw_214) (fun _ h9 => h9) rfl dX6_goOn_134 ?_
          refine lv_iload hx hb dX6_goOn_137 (lv_at hl 1 rfl) ?_
          refine kI (rSN hx hb hml hown hg hN hK hP hD (c_has l D cI cJ (XW ad cI cJ co fl ra li re (sA (sA (sA wa 4 (wr (gA wa 4) 40 k1 ((rd (gA wa 4) 40 k1) + 1))) 1 (wr (gA wa 1) 80 (rd (gA wa 4) 40 k1) (rd (gA fl 4) 80 (rd (gA wa 4) 40 k1)))) 2 (wr (gA wa 2) 80 (rd (gA wa 4) 40 k1) k1)) pi) (gl wa 0) (rd (gA fl 4) 80 (rd (gA wa 4) 40 k1))) mw_89 nw_93 mw_90 mw_77 pd_X7_has ⟨Nat.le_of_ble_eq_true rfl, Nat.le_of_ble_eq_true rfl⟩ rfl hl.1 rfl (Nat.le_of_ble_eq_true rfl) dX6_goOn_139 ⟨Nat.le_of_ble_eq_true rfl, Nat.le_of_ble_eq_true rfl⟩) hD hS hA (fun r_12 u_12 H locs hp hP hD hS => ?_)
          obtain ⟨er, eu⟩ := hp
          obtain rfl := er.symm
          obtain rfl := eu.symm
          refine lv_if_ne (tgt := 152) hx hb dX6_goOn_142 (by decide) (fun c_142 => ?_) (fun c_142 => ?_)
          · have c_142 : (hs (gl wa 0) (rd (gA fl 4) 80 (rd (gA wa 4) 40 k1))) = true := b2i_1 c_142
            exact W.vret hx hb hr (fun t ht hW => ⟨⟨(XW ad cI cJ co fl ra li re (sA (sA (sA wa 4 (wr (gA wa 4) 40 k1 ((rd (gA wa 4) 40 k1) + 1))) 1 (wr (gA wa 1) 80 (rd (gA wa 4) 40 k1) (rd (gA fl 4) 80 (rd (gA wa 4) 40 k1)))) 2 (wr (gA wa 2) 80 (rd (gA wa 4) 40 k1) k1)) pi), rfl, xw_eq rfl rfl rfl rfl rfl (show (sA (sA (sA wa 4 (wr (gA wa 4) 40 k1 ((rd (gA wa 4) 40 k1) + 1))) 1 (wr (gA wa 1) 80 (rd (gA wa 4) 40 k1) (rd (gA fl 4) 80 (rd (gA wa 4) 40 k1)))) 2 (wr (gA wa 2) 80 (rd (gA wa 4) 40 k1) k1)) = (goOn fl wa k1) from (by first | (simp only [goOn, goE, goF, goD, goM, if_pos c_20, decide_eq_true c_20, decide_eq_false (not_not_intro c_20), if_neg c_74, decide_eq_false c_74, decide_eq_true c_74, if_pos c_74, if_neg c_80, decide_eq_false c_80, decide_eq_true c_80, if_pos c_80, if_pos c_102, c_102, if_pos c_142, c_142, gi_sl, gi_sA, gi_sB, gi_si_s, gi_si_n, gl_si, gl_sA, gl_sB, gl_sl_s, gl_sl_n, gA_si, gA_sl, gA_sB, gA_sA_s, gA_sA_n, gB_si, gB_sl, gB_sA, gB_sB_s, gB_sB_n, Nat.reduceBEq, if_true, if_false, eq_self, Bool.false_eq_true, reduceCtorEq, not_true_eq_false, not_false_eq_true, decide_true, decide_false, cond_true, cond_false, Bool.true_and, Bool.false_and, Bool.and_true, Bool.and_false, Bool.true_or, Bool.false_or, Bool.or_true, Bool.or_false, b2i_tt, b2i_ff]; done) | (simp only [goOn, goE, goF, goD, goM, if_pos c_20, decide_eq_true c_20, decide_eq_false (not_not_intro c_20), if_neg c_74, decide_eq_false c_74, decide_eq_true c_74, if_pos c_74, if_neg c_80, decide_eq_false c_80, decide_eq_true c_80, if_pos c_80, if_pos c_102, c_102, if_pos c_142, c_142, gi_sl, gi_sA, gi_sB, gi_si_s, gi_si_n, gl_si, gl_sA, gl_sB, gl_sl_s, gl_sl_n, gA_si, gA_sl, gA_sB, gA_sA_s, gA_sA_n, gB_si, gB_sl, gB_sA, gB_sB_s, gB_sB_n, Nat.reduceBEq, if_true, if_false, eq_self, Bool.false_eq_true, reduceCtorEq, not_true_eq_false, not_false_eq_true, decide_true, decide_false, cond_true, cond_false, Bool.true_and, Bool.false_and, Bool.and_true, Bool.and_false, Bool.true_or, Bool.false_or, Bool.or_true, Bool.or_false, b2i_tt, b2i_ff]; rfl) | (simp [goOn, goE, goF, goD, goM, c_20, c_74, c_80, c_102, c_142, gi_sl, gi_sA, gi_sB, gi_si_s, gi_si_n, gl_si, gl_sA, gl_sB, gl_sl_s, gl_sl_n, gA_si, gA_sl, gA_sB, gA_sA_s, gA_sA_n, gB_si, gB_sl, gB_sA, gB_sB_s, gB_sB_n, Nat.reduceBEq]; done))) rfl, ⟨by rw [ht]; exact hP, va_K.moved hW.alike hK, hD⟩⟩, hS.F ht⟩) hS.2.2 dX6_goOn_152
          · have c_142 : ¬ (hs (gl wa 0) (rd (gA fl 4) 80 (rd (gA wa 4) 40 k1))) = true := b2i_0 c_142
            refine lv_aload_n hx hb dX6_goOn_145 rfl (lv_at hl 3 rfl) ?_
            refine lv_aload_n hx hb dX6_goOn_146 rfl (lv_at hl 4 rfl) ?_
            refine lv_iload hx hb dX6_goOn_147 (lv_at hl 1 rfl) ?_
            refine kV (rV (q0 := 7) (ci := 6) hx hb hml hown hg hN hK hP hD (c_enter l D cI cJ ad co fl ra li re (sA (sA (sA wa 4 (wr (gA wa 4) 40 k1 ((rd (gA wa 4) 40 k1) + 1))) 1 (wr (gA wa 1) 80 (rd (gA wa 4) 40 k1) (rd (gA fl 4) 80 (rd (gA wa 4) 40 k1)))) 2 (wr (gA wa 2) 80 (rd (gA wa 4) 40 k1) k1)) pi (rd (gA fl 4) 80 (rd (gA wa 4) 40 k1))) mw_217 mw_218 mw_219 mw_220 mw_208 pdv_X6_enter ⟨Nat.le_of_ble_eq_true rfl, Nat.le_of_ble_eq_true rfl⟩ rfl rfl rfl hl.1 rfl (Nat.le_of_ble_eq_true rfl) dX6_goOn_149 ⟨Nat.le_of_ble_eq_true rfl, Nat.le_of_ble_eq_true rfl⟩) hD hS hA (fun u_13 H locs hp hP hD hS => ?_)
            obtain rfl := hp.symm
            have hP : va_P D vwCl (XW ad cI cJ co fl ra li re (enter fl (sA (sA (sA wa 4 (wr (gA wa 4) 40 k1 ((rd (gA wa 4) 40 k1) + 1))) 1 (wr (gA wa 1) 80 (rd (gA wa 4) 40 k1) (rd (gA fl 4) 80 (rd (gA wa 4) 40 k1)))) 2 (wr (gA wa 2) 80 (rd (gA wa 4) 40 k1) k1)) (rd (gA fl 4) 80 (rd (gA wa 4) 40 k1))) pi) H := hP
            have hD : va_D A (XW ad cI cJ co fl ra li re (enter fl (sA (sA (sA wa 4 (wr (gA wa 4) 40 k1 ((rd (gA wa 4) 40 k1) + 1))) 1 (wr (gA wa 1) 80 (rd (gA wa 4) 40 k1) (rd (gA fl 4) 80 (rd (gA wa 4) 40 k1)))) 2 (wr (gA wa 2) 80 (rd (gA wa 4) 40 k1) k1)) (rd (gA fl 4) 80 (rd (gA wa 4) 40 k1))) pi) := hD
            exact W.vret hx hb hr (fun t ht hW => ⟨⟨(XW ad cI cJ co fl ra li re (enter fl (sA (sA (sA wa 4 (wr (gA wa 4) 40 k1 ((rd (gA wa 4) 40 k1) + 1))) 1 (wr (gA wa 1) 80 (rd (gA wa 4) 40 k1) (rd (gA fl 4) 80 (rd (gA wa 4) 40 k1)))) 2 (wr (gA wa 2) 80 (rd (gA wa 4) 40 k1) k1)) (rd (gA fl 4) 80 (rd (gA wa 4) 40 k1))) pi), rfl, xw_eq rfl rfl rfl rfl rfl (show (enter fl (sA (sA (sA wa 4 (wr (gA wa 4) 40 k1 ((rd (gA wa 4) 40 k1) + 1))) 1 (wr (gA wa 1) 80 (rd (gA wa 4) 40 k1) (rd (gA fl 4) 80 (rd (gA wa 4) 40 k1)))) 2 (wr (gA wa 2) 80 (rd (gA wa 4) 40 k1) k1)) (rd (gA fl 4) 80 (rd (gA wa 4) 40 k1))) = (goOn fl wa k1) from (by first | (simp only [goOn, goE, goF, goD, goM, if_pos c_20, decide_eq_true c_20, decide_eq_false (not_not_intro c_20), if_neg c_74, decide_eq_false c_74, decide_eq_true c_74, if_pos c_74, if_neg c_80, decide_eq_false c_80, decide_eq_true c_80, if_pos c_80, if_pos c_102, c_102, if_neg c_142, bf_of c_142, gi_sl, gi_sA, gi_sB, gi_si_s, gi_si_n, gl_si, gl_sA, gl_sB, gl_sl_s, gl_sl_n, gA_si, gA_sl, gA_sB, gA_sA_s, gA_sA_n, gB_si, gB_sl, gB_sA, gB_sB_s, gB_sB_n, Nat.reduceBEq, if_true, if_false, eq_self, Bool.false_eq_true, reduceCtorEq, not_true_eq_false, not_false_eq_true, decide_true, decide_false, cond_true, cond_false, Bool.true_and, Bool.false_and, Bool.and_true, Bool.and_false, Bool.true_or, Bool.false_or, Bool.or_true, Bool.or_false, b2i_tt, b2i_ff]; done) | (simp only [goOn, goE, goF, goD, goM, if_pos c_20, decide_eq_true c_20, decide_eq_false (not_not_intro c_20), if_neg c_74, decide_eq_false c_74, decide_eq_true c_74, if_pos c_74, if_neg c_80, decide_eq_false c_80, decide_eq_true c_80, if_pos c_80, if_pos c_102, c_102, if_neg c_142, bf_of c_142, gi_sl, gi_sA, gi_sB, gi_si_s, gi_si_n, gl_si, gl_sA, gl_sB, gl_sl_s, gl_sl_n, gA_si, gA_sl, gA_sB, gA_sA_s, gA_sA_n, gB_si, gB_sl, gB_sA, gB_sB_s, gB_sB_n, Nat.reduceBEq, if_true, if_false, eq_self, Bool.false_eq_true, reduceCtorEq, not_true_eq_false, not_false_eq_true, decide_true, decide_false, cond_true, cond_false, Bool.true_and, Bool.false_and, Bool.and_true, Bool.and_false, Bool.true_or, Bool.false_or, Bool.or_true, Bool.or_false, b2i_tt, b2i_ff]; rfl) | (simp [goOn, goE, goF, goD, goM, c_20, c_74, c_80, c_102, c_142, gi_sl, gi_sA, gi_sB, gi_si_s, gi_si_n, gl_si, gl_sA, gl_sB, gl_sl_s, gl_sl_n, gA_si, gA_sl, gA_sB, gA_sA_s, gA_sA_n, gB_si, gB_sl, gB_sA, gB_sB_s, gB_sB_n, Nat.reduceBEq]; done))) rfl, ⟨by rw [ht]; exact hP, va_K.moved hW.alike hK, hD⟩⟩, hS.F ht⟩) hS.2.2 dX6_goOn_152
      · exact W.vret hx hb hr (fun t ht hW => ⟨⟨(XW ad cI cJ co fl ra li re (sA wa 4 (wr (gA wa 4) 40 k1 ((rd (gA wa 4) 40 k1) + 1))) pi), rfl, xw_eq rfl rfl rfl rfl rfl (show (sA wa 4 (wr (gA wa 4) 40 k1 ((rd (gA wa 4) 40 k1) + 1))) = (goOn fl wa k1) from (by first | (simp only [goOn, goE, goF, goD, goM, if_pos c_20, decide_eq_true c_20, decide_eq_false (not_not_intro c_20), if_neg c_74, decide_eq_false c_74, decide_eq_true c_74, if_pos c_74, if_pos c_80, decide_eq_true c_80, decide_eq_false (not_not_intro c_80), gi_sl, gi_sA, gi_sB, gi_si_s, gi_si_n, gl_si, gl_sA, gl_sB, gl_sl_s, gl_sl_n, gA_si, gA_sl, gA_sB, gA_sA_s, gA_sA_n, gB_si, gB_sl, gB_sA, gB_sB_s, gB_sB_n, Nat.reduceBEq, if_true, if_false, eq_self, Bool.false_eq_true, reduceCtorEq, not_true_eq_false, not_false_eq_true, decide_true, decide_false, cond_true, cond_false, Bool.true_and, Bool.false_and, Bool.and_true, Bool.and_false, Bool.true_or, Bool.false_or, Bool.or_true, Bool.or_false, b2i_tt, b2i_ff]; done) | (simp only [goOn, goE, goF, goD, goM, if_pos c_20, decide_eq_true c_20, decide_eq_false (not_not_intro c_20), if_neg c_74, decide_eq_false c_74, decide_eq_true c_74, if_pos c_74, if_pos c_80, decide_eq_true c_80, decide_eq_false (not_not_intro c_80), gi_sl, gi_sA, gi_sB, gi_si_s, gi_si_n, gl_si, gl_sA, gl_sB, gl_sl_s, gl_sl_n, gA_si, gA_sl, gA_sB, gA_sA_s, gA_sA_n, gB_si, gB_sl, gB_sA, gB_sB_s, gB_sB_n, Nat.reduceBEq, if_true, if_false, eq_self, Bool.false_eq_true, reduceCtorEq, not_true_eq_false, not_false_eq_true, decide_true, decide_false, cond_true, cond_false, Bool.true_and, Bool.false_and, Bool.and_true, Bool.and_false, Bool.true_or, Bool.false_or, Bool.or_true, Bool.or_false, b2i_tt, b2i_ff]; rfl) | (simp [goOn, goE, goF, goD, goM, c_20, c_74, c_80, gi_sl, gi_sA, gi_sB, gi_si_s, gi_si_n, gl_si, gl_sA, gl_sB, gl_sl_s, gl_sl_n, gA_si, gA_sl, gA_sB, gA_sA_s, gA_sA_n, gB_si, gB_sl, gB_sA, gB_sB_s, gB_sB_n, Nat.reduceBEq]; done))) rfl, ⟨by rw [ht]; exact hP, va_K.moved hW.alike hK, hD⟩⟩, hS.F ht⟩) hS.2.2 dX6_goOn_83
  · refine lv_aload_n hx hb dX6_goOn_23 rfl (lv_at hl 1 rfl) ?_
    refine lv_dup hx hb dX6_goOn_24 rfl ?_
    refine va_get (D := D) (ci := 6) (v := .int (gi wa 1)) (C := RX6) (T := TX6) (N := 9) hx hb hg inGX6 hown hK hP 7 rfl rfl 6 (by decide) (hg _ mw_212) (fun _ h9 => h9) rfl dX6_goOn_25 ?_
    refine lv_iconst (v := 1) hx hb dX6_goOn_28 (by decide) ?_
    refine lv_isub hx hb dX6_goOn_29 ?_
    refine va_put (D := D) (ci := 6) (v := .int ((gi wa 1) - 1)) (C := RX6) (T := TX6) (N := 9) hx hb hg inGX6 tyX6 tyX6_ok nmX6 hown hK hP hD hS 7 rfl rfl 6 (by decide) (hg _ mw_212) (fun _ h9 => h9) rfl (tyX6_ok 6 (by decide)) rfl rfl (Nat.le_of_ble_eq_true rfl) dX6_goOn_30 (fun H locs hP hD hS => ?_)
    have hP : va_P D vwCl (XW ad cI cJ co fl ra li re (si wa 1 ((gi wa 1) - 1)) pi) H := hP
    have hD : va_D A (XW ad cI cJ co fl ra li re (si wa 1 ((gi wa 1) - 1)) pi) := hD
    refine lv_aload_n hx hb dX6_goOn_33 rfl (lv_at hl 1 rfl) ?_
    refine lv_dup hx hb dX6_goOn_34 rfl ?_
    refine va_get (D := D) (ci := 6) (v := .long (gl wa 1)) (C := RX6) (T := TX6) (N := 9) hx hb hg inGX6 hown hK hP 7 rfl rfl 8 (by decide) (hg _ mw_215) (fun _ h9 => h9) rfl dX6_goOn_35 ?_
    refine lv_iload_n hx hb dX6_goOn_38 rfl (lv_at hl 3 rfl) ?_
    refine kL (rSN hx hb hml hown hg hN hK hP hD (c_bit l D cI cJ (XW ad cI cJ co fl ra li re (si wa 1 ((gi wa 1) - 1)) pi) k1) mw_78 nw_92 mw_80 mw_77 pd_X7_bit ⟨Nat.le_of_ble_eq_true rfl, Nat.le_of_ble_eq_true rfl⟩ rfl hl.1 rfl (Nat.le_of_ble_eq_true rfl) dX6_goOn_39 ⟨Nat.le_of_ble_eq_true rfl, Nat.le_of_ble_eq_true rfl⟩) hD hS hA (fun r_14 u_14 H locs hp hP hD hS => ?_)
    obtain ⟨er, eu⟩ := hp
    obtain rfl := er.symm
    obtain rfl := eu.symm
    refine lv_ldc2 (v := (-1)) hx hb hown (hg _ mw_221) dX6_goOn_42 ?_
    refine lv_lxor hx hb dX6_goOn_45 ?_
    refine lv_land hx hb dX6_goOn_46 ?_
    refine va_put (D := D) (ci := 6) (v := .long ((gl wa 1) &&& ((bitL k1) ^^^ (-1)))) (C := RX6) (T := TX6) (N := 9) hx hb hg inGX6 tyX6 tyX6_ok nmX6 hown hK hP hD hS 7 rfl rfl 8 (by decide) (hg _ mw_215) (fun _ h9 => h9) rfl (tyX6_ok 8 (by decide)) rfl rfl (Nat.le_of_ble_eq_true rfl) dX6_goOn_47 (fun H locs hP hD hS => ?_)
    have hP : va_P D vwCl (XW ad cI cJ co fl ra li re (sl (si wa 1 ((gi wa 1) - 1)) 1 ((gl wa 1) &&& ((bitL k1) ^^^ (-1)))) pi) H := hP
    have hD : va_D A (XW ad cI cJ co fl ra li re (sl (si wa 1 ((gi wa 1) - 1)) 1 ((gl wa 1) &&& ((bitL k1) ^^^ (-1)))) pi) := hD
    exact W.vret hx hb hr (fun t ht hW => ⟨⟨(XW ad cI cJ co fl ra li re (sl (si wa 1 ((gi wa 1) - 1)) 1 ((gl wa 1) &&& ((bitL k1) ^^^ (-1)))) pi), rfl, xw_eq rfl rfl rfl rfl rfl (show (sl (si wa 1 ((gi wa 1) - 1)) 1 ((gl wa 1) &&& ((bitL k1) ^^^ (-1)))) = (goOn fl wa k1) from (by first | (simp only [goOn, goE, goF, goD, goM, if_neg c_20, decide_eq_false c_20, decide_eq_true c_20, if_pos c_20, gi_sl, gi_sA, gi_sB, gi_si_s, gi_si_n, gl_si, gl_sA, gl_sB, gl_sl_s, gl_sl_n, gA_si, gA_sl, gA_sB, gA_sA_s, gA_sA_n, gB_si, gB_sl, gB_sA, gB_sB_s, gB_sB_n, Nat.reduceBEq, if_true, if_false, eq_self, Bool.false_eq_true, reduceCtorEq, not_true_eq_false, not_false_eq_true, decide_true, decide_false, cond_true, cond_false, Bool.true_and, Bool.false_and, Bool.and_true, Bool.and_false, Bool.true_or, Bool.false_or, Bool.or_true, Bool.or_false, b2i_tt, b2i_ff]; done) | (simp only [goOn, goE, goF, goD, goM, if_neg c_20, decide_eq_false c_20, decide_eq_true c_20, if_pos c_20, gi_sl, gi_sA, gi_sB, gi_si_s, gi_si_n, gl_si, gl_sA, gl_sB, gl_sl_s, gl_sl_n, gA_si, gA_sl, gA_sB, gA_sA_s, gA_sA_n, gB_si, gB_sl, gB_sA, gB_sB_s, gB_sB_n, Nat.reduceBEq, if_true, if_false, eq_self, Bool.false_eq_true, reduceCtorEq, not_true_eq_false, not_false_eq_true, decide_true, decide_false, cond_true, cond_false, Bool.true_and, Bool.false_and, Bool.and_true, Bool.and_false, Bool.true_or, Bool.false_or, Bool.or_true, Bool.or_false, b2i_tt, b2i_ff]; rfl) | (simp [goOn, goE, goF, goD, goM, c_20, gi_sl, gi_sA, gi_sB, gi_si_s, gi_si_n, gl_si, gl_sA, gl_sB, gl_sl_s, gl_sl_n, gA_si, gA_sl, gA_sB, gA_sA_s, gA_sA_n, gB_si, gB_sl, gB_sA, gB_sB_s, gB_sB_n, Nat.reduceBEq]; done))) rfl, ⟨by rw [ht]; exact hP, va_K.moved hW.alike hK, hD⟩⟩, hS.F ht⟩) hS.2.2 dX6_goOn_50
set_option maxHeartbeats 4000000 in
set_option maxRecDepth 100000 in
theorem c_goThrough (l : Launch) (D : va_G) (cI cJ : ClassId) (ad : Nat → Nat) (co fl ra li re wa pi : Ob) : CT l D (TY cI cJ) yX6_goThrough (.code yX6_goThrough cX6_goThrough 3 (none : Option FieldType)) 3 0 0 (XW ad cI cJ co fl ra li re wa pi) [.ref (ad 7), .ref (ad 2)] (QV D (TY cI cJ) (fun u => u = (XW ad cI cJ co fl ra li re (goThrough fl wa) pi))) := by
  refine ent (by decide) (Nat.le_of_ble_eq_true rfl) ?_
  intro p e s m below meth c ls A hx hb hr hg hown hml hlocks hnm hP hK hD hS hA hN hl
  have hl : lv_has ls 3 [(0, .ref (ad 7)), (1, .ref (ad 2))] := hl
  refine lv_aload_n hx hb dX6_goThrough_0 rfl (lv_at hl 0 rfl) ?_
  refine lv_iconst (v := 0) hx hb dX6_goThrough_1 (by decide) ?_
  refine va_put (D := D) (ci := 6) (v := .int 0) (C := RX6) (T := TX6) (N := 9) hx hb hg inGX6 tyX6 tyX6_ok nmX6 hown hK hP hD hS 7 rfl rfl 5 (by decide) (hg _ mw_210) (fun _ h9 => h9) rfl (tyX6_ok 5 (by decide)) rfl rfl (Nat.le_of_ble_eq_true rfl) dX6_goThrough_2 (fun H locs hP hD hS => ?_)
  have hP : va_P D vwCl (XW ad cI cJ co fl ra li re (si wa 0 0) pi) H := hP
  have hD : va_D A (XW ad cI cJ co fl ra li re (si wa 0 0) pi) := hD
  refine lv_aload_n hx hb dX6_goThrough_5 rfl (lv_at hl 0 rfl) ?_
  refine lv_iconst (v := 0) hx hb dX6_goThrough_6 (by decide) ?_
  refine va_put (D := D) (ci := 6) (v := .int 0) (C := RX6) (T := TX6) (N := 9) hx hb hg inGX6 tyX6 tyX6_ok nmX6 hown hK hP hD hS 7 rfl rfl 6 (by decide) (hg _ mw_212) (fun _ h9 => h9) rfl (tyX6_ok 6 (by decide)) rfl rfl (Nat.le_of_ble_eq_true rfl) dX6_goThrough_7 (fun H locs hP hD hS => ?_)
  have hP : va_P D vwCl (XW ad cI cJ co fl ra li re (si (si wa 0 0) 1 0) pi) H := hP
  have hD : va_D A (XW ad cI cJ co fl ra li re (si (si wa 0 0) 1 0) pi) := hD
  refine lv_aload_n hx hb dX6_goThrough_10 rfl (lv_at hl 0 rfl) ?_
  refine lv_lconst (v := 0) hx hb dX6_goThrough_11 (by decide) ?_
  refine va_put (D := D) (ci := 6) (v := .long 0) (C := RX6) (T := TX6) (N := 9) hx hb hg inGX6 tyX6 tyX6_ok nmX6 hown hK hP hD hS 7 rfl rfl 7 (by decide) (hg _ mw_214) (fun _ h9 => h9) rfl (tyX6_ok 7 (by decide)) rfl rfl (Nat.le_of_ble_eq_true rfl) dX6_goThrough_12 (fun H locs hP hD hS => ?_)
  have hP : va_P D vwCl (XW ad cI cJ co fl ra li re (sl (si (si wa 0 0) 1 0) 0 0) pi) H := hP
  have hD : va_D A (XW ad cI cJ co fl ra li re (sl (si (si wa 0 0) 1 0) 0 0) pi) := hD
  refine lv_aload_n hx hb dX6_goThrough_15 rfl (lv_at hl 0 rfl) ?_
  refine lv_lconst (v := 0) hx hb dX6_goThrough_16 (by decide) ?_
  refine va_put (D := D) (ci := 6) (v := .long 0) (C := RX6) (T := TX6) (N := 9) hx hb hg inGX6 tyX6 tyX6_ok nmX6 hown hK hP hD hS 7 rfl rfl 8 (by decide) (hg _ mw_215) (fun _ h9 => h9) rfl (tyX6_ok 8 (by decide)) rfl rfl (Nat.le_of_ble_eq_true rfl) dX6_goThrough_17 (fun H locs hP hD hS => ?_)
  have hP : va_P D vwCl (XW ad cI cJ co fl ra li re (sl (sl (si (si wa 0 0) 1 0) 0 0) 1 0) pi) H := hP
  have hD : va_D A (XW ad cI cJ co fl ra li re (sl (sl (si (si wa 0 0) 1 0) 0 0) 1 0) pi) := hD
  refine lv_iconst (v := 0) hx hb dX6_goThrough_20 (by decide) ?_
  refine lv_istore_n (lv' := [(2, .int 0), (0, .ref (ad 7)), (1, .ref (ad 2))]) hx hb dX6_goThrough_21 rfl hl (by decide) rfl (fun ls hl => ?_)
  refine w_loop (σ := Ob) (fun (i_1 : Nat) (p_1 : Ob) (H : Heap) (locs : List Loc) (ls : Array Slot) => p_1 = (lp gtInit i_1 (sl (sl (si (si wa 0 0) 1 0) 0 0) 1 0)) ∧ va_P D vwCl (XW ad cI cJ co fl ra li re p_1 pi) H ∧ va_D A (XW ad cI cJ co fl ra li re p_1 pi) ∧ va_S A s.heap H locs ∧ lv_has ls 3 [(0, .ref (ad 7)), (1, .ref (ad 2)), (2, .int (nI i_1))]) (80) (fun p_1 H locs ls hI => ?_) (fun i_1 p_1 H locs ls hi_1 hI ih_1 => ?_) 0 (sl (sl (si (si wa 0 0) 1 0) 0 0) 1 0) (Nat.zero_le _) ⟨rfl, hP, hD, hS, (by rw [nI_0]; exact lv_sub hl [1, 2, 0] rfl)⟩
  · obtain ⟨h_1, hP, hD, hS, hl⟩ := hI
    have h_1 := h_1.symm
    subst h_1
    have hP : va_P D vwCl (XW ad cI cJ co fl ra li re ((lp gtInit (80) (sl (sl (si (si wa 0 0) 1 0) 0 0) 1 0))) pi) H := hP
    have hD : va_D A (XW ad cI cJ co fl ra li re ((lp gtInit (80) (sl (sl (si (si wa 0 0) 1 0) 0 0) 1 0))) pi) := hD
    have hl : lv_has ls 3 [(0, .ref (ad 7)), (1, .ref (ad 2)), (2, .int (nI 80))] := hl
    refine lv_iload_n hx hb dX6_goThrough_22 rfl (lv_at hl 2 rfl) ?_
    refine lv_bipush (v := 80) hx hb dX6_goThrough_23 (by decide) ?_
    refine lv_icmp_ge (tgt := 52) hx hb dX6_goThrough_25 (by decide) (fun _ => ?_) (fun c_25 => absurd (by decide) c_25)
    refine lv_aload_n hx hb dX6_goThrough_52 rfl (lv_at hl 1 rfl) ?_
    refine va_getN (D := D) (ci := 1) (v := .int (gi fl 0)) (C := RX1) (T := TX1) (N := 11) hx hb hg inGX1 hown hK hP 2 rfl rfl 7 (by decide) (hN.use nw_25) (fun _ h9 => h9) rfl dX6_goThrough_53 ?_
    refine lv_if_le (tgt := 65) hx hb dX6_goThrough_56 (by decide) (fun c_56 => ?_) (fun c_56 => ?_)
    · have c_56 : ¬ 0 < (gi fl 0) := i_ge c_56
      refine lv_iconst (v := 0) hx hb dX6_goThrough_65 (by decide) ?_
      refine lv_istore_n (lv' := [(2, .int 0), (0, .ref (ad 7)), (1, .ref (ad 2))]) hx hb dX6_goThrough_66 rfl hl (by decide) rfl (fun ls hl => ?_)
      refine w_loop (σ := Ob) (fun (i_2 : Nat) (p_2 : Ob) (H : Heap) (locs : List Loc) (ls : Array Slot) => p_2 = (lpW gtGo (gtStep fl) i_2 ((lp gtInit (80) (sl (sl (si (si wa 0 0) 1 0) 0 0) 1 0)))) ∧ va_P D vwCl (XW ad cI cJ co fl ra li re p_2 pi) H ∧ va_D A (XW ad cI cJ co fl ra li re p_2 pi) ∧ va_S A s.heap H locs ∧ lv_has ls 3 [(0, .ref (ad 7)), (1, .ref (ad 2)), (2, .int (nI i_2))]) (120) (fun p_2 H locs ls hI => ?_) (fun i_2 p_2 H locs ls hi_2 hI ih_2 => ?_) 0 ((lp gtInit (80) (sl (sl (si (si wa 0 0) 1 0) 0 0) 1 0))) (Nat.zero_le _) ⟨rfl, hP, hD, hS, (by rw [nI_0]; exact lv_sub hl [1, 2, 0] rfl)⟩
      · obtain ⟨h_2, hP, hD, hS, hl⟩ := hI
        have h_2 := h_2.symm
        subst h_2
        have hP : va_P D vwCl (XW ad cI cJ co fl ra li re ((lpW gtGo (gtStep fl) (120) ((lp gtInit (80) (sl (sl (si (si wa 0 0) 1 0) 0 0) 1 0))))) pi) H := hP
        have hD : va_D A (XW ad cI cJ co fl ra li re ((lpW gtGo (gtStep fl) (120) ((lp gtInit (80) (sl (sl (si (si wa 0 0) 1 0) 0 0) 1 0))))) pi) := hD
        have hl : lv_has ls 3 [(0, .ref (ad 7)), (1, .ref (ad 2)), (2, .int (nI 120))] := hl
        refine lv_iload_n hx hb dX6_goThrough_67 rfl (lv_at hl 2 rfl) ?_
        refine lv_bipush (v := 120) hx hb dX6_goThrough_68 (by decide) ?_
        refine lv_icmp_ge (tgt := 104) hx hb dX6_goThrough_70 (by decide) (fun _ => ?_) (fun c_70 => absurd (by decide) c_70)
        exact W.vret hx hb hr (fun t ht hW => ⟨⟨(XW ad cI cJ co fl ra li re ((lpW gtGo (gtStep fl) (120) ((lp gtInit (80) (sl (sl (si (si wa 0 0) 1 0) 0 0) 1 0))))) pi), rfl, xw_eq rfl rfl rfl rfl rfl (show ((lpW gtGo (gtStep fl) (120) ((lp gtInit (80) (sl (sl (si (si wa 0 0) 1 0) 0 0) 1 0))))) = (goThrough fl wa) from (by first | (simp only [goThrough, gtStart, gtZero, if_neg c_56, decide_eq_false c_56, decide_eq_true c_56, if_pos c_56, gi_sl, gi_sA, gi_sB, gi_si_s, gi_si_n, gl_si, gl_sA, gl_sB, gl_sl_s, gl_sl_n, gA_si, gA_sl, gA_sB, gA_sA_s, gA_sA_n, gB_si, gB_sl, gB_sA, gB_sB_s, gB_sB_n, Nat.reduceBEq, if_true, if_false, eq_self, Bool.false_eq_true, reduceCtorEq, not_true_eq_false, not_false_eq_true, decide_true, decide_false, cond_true, cond_false, Bool.true_and, Bool.false_and, Bool.and_true, Bool.and_false, Bool.true_or, Bool.false_or, Bool.or_true, Bool.or_false, b2i_tt, b2i_ff]; done) | (simp only [goThrough, gtStart, gtZero, if_neg c_56, decide_eq_false c_56, decide_eq_true c_56, if_pos c_56, gi_sl, gi_sA, gi_sB, gi_si_s, gi_si_n, gl_si, gl_sA, gl_sB, gl_sl_s, gl_sl_n, gA_si, gA_sl, gA_sB, gA_sA_s, gA_sA_n, gB_si, gB_sl, gB_sA, gB_sB_s, gB_sB_n, Nat.reduceBEq, if_true, if_false, eq_self, Bool.false_eq_true, reduceCtorEq, not_true_eq_false, not_false_eq_true, decide_true, decide_false, cond_true, cond_false, Bool.true_and, Bool.false_and, Bool.and_true, Bool.and_false, Bool.true_or, Bool.false_or, Bool.or_true, Bool.or_false, b2i_tt, b2i_ff]; rfl) | (simp [goThrough, gtStart, gtZero, c_56, gi_sl, gi_sA, gi_sB, gi_si_s, gi_si_n, gl_si, gl_sA, gl_sB, gl_sl_s, gl_sl_n, gA_si, gA_sl, gA_sB, gA_sA_s, gA_sA_n, gB_si, gB_sl, gB_sA, gB_sB_s, gB_sB_n, Nat.reduceBEq]; done))) rfl, ⟨by rw [ht]; exact hP, va_K.moved hW.alike hK, hD⟩⟩, hS.F ht⟩) hS.2.2 dX6_goThrough_104
      · obtain ⟨h_2, hP, hD, hS, hl⟩ := hI
        have hP : va_P D vwCl (XW ad cI cJ co fl ra li re p_2 pi) H := hP
        have hD : va_D A (XW ad cI cJ co fl ra li re p_2 pi) := hD
        have hl : lv_has ls 3 [(0, .ref (ad 7)), (1, .ref (ad 2)), (2, .int (nI i_2))] := hl
        refine lv_iload_n hx hb dX6_goThrough_67 rfl (lv_at hl 2 rfl) ?_
        refine lv_bipush (v := 120) hx hb dX6_goThrough_68 (by decide) ?_
        refine lv_icmp_ge (tgt := 104) hx hb dX6_goThrough_70 (by decide) (fun c_70 => absurd c_70 (nI_ge hi_2 (by decide))) (fun _ => ?_)
        refine lv_aload_n hx hb dX6_goThrough_73 rfl (lv_at hl 0 rfl) ?_
        refine va_get (D := D) (ci := 6) (v := .int (gi p_2 1)) (C := RX6) (T := TX6) (N := 9) hx hb hg inGX6 hown hK hP 7 rfl rfl 6 (by decide) (hg _ mw_212) (fun _ h9 => h9) rfl dX6_goThrough_74 ?_
        refine lv_if_le (tgt := 104) hx hb dX6_goThrough_77 (by decide) (fun c_77 => ?_) (fun c_77 => ?_)
        · have c_77 : ¬ 0 < (gi p_2 1) := i_ge c_77
          have h_2 : p_2 = (lpW gtGo (gtStep fl) (120) ((lp gtInit (80) (sl (sl (si (si wa 0 0) 1 0) 0 0) 1 0)))) := lpW_stop h_2 (by first | (simp only [gtGo, if_neg c_56, decide_eq_false c_56, decide_eq_true c_56, if_pos c_56, if_neg c_77, decide_eq_false c_77, decide_eq_true c_77, if_pos c_77, gi_sl, gi_sA, gi_sB, gi_si_s, gi_si_n, gl_si, gl_sA, gl_sB, gl_sl_s, gl_sl_n, gA_si, gA_sl, gA_sB, gA_sA_s, gA_sA_n, gB_si, gB_sl, gB_sA, gB_sB_s, gB_sB_n, Nat.reduceBEq, if_true, if_false, eq_self, Bool.false_eq_true, reduceCtorEq, not_true_eq_false, not_false_eq_true, decide_true, decide_false, cond_true, cond_false, Bool.true_and, Bool.false_and, Bool.and_true, Bool.and_false, Bool.true_or, Bool.false_or, Bool.or_true, Bool.or_false, b2i_tt, b2i_ff]; done) | (simp only [gtGo, if_neg c_56, decide_eq_false c_56, decide_eq_true c_56, if_pos c_56, if_neg c_77, decide_eq_false c_77, decide_eq_true c_77, if_pos c_77, gi_sl, gi_sA, gi_sB, gi_si_s, gi_si_n, gl_si, gl_sA, gl_sB, gl_sl_s, gl_sl_n, gA_si, gA_sl, gA_sB, gA_sA_s, gA_sA_n, gB_si, gB_sl, gB_sA, gB_sB_s, gB_sB_n, Nat.reduceBEq, if_true, if_false, eq_self, Bool.false_eq_true, reduceCtorEq, not_true_eq_false, not_false_eq_true, decide_true, decide_false, cond_true, cond_false, Bool.true_and, Bool.false_and, Bool.and_true, Bool.and_false, Bool.true_or, Bool.false_or, Bool.or_true, Bool.or_false, b2i_tt, b2i_ff]; rfl) | (simp [gtGo, c_56, c_77, gi_sl, gi_sA, gi_sB, gi_si_s, gi_si_n, gl_si, gl_sA, gl_sB, gl_sl_s, gl_sl_n, gA_si, gA_sl, gA_sB, gA_sA_s, gA_sA_n, gB_si, gB_sl, gB_sA, gB_sB_s, gB_sB_n, Nat.reduceBEq]; done)) (Nat.le_of_lt hi_2)
          have h_2 := h_2.symm
          subst h_2
          have hP : va_P D vwCl (XW ad cI cJ co fl ra li re ((lpW gtGo (gtStep fl) (120) ((lp gtInit (80) (sl (sl (si (si wa 0 0) 1 0) 0 0) 1 0))))) pi) H := hP
          have hD : va_D A (XW ad cI cJ co fl ra li re ((lpW gtGo (gtStep fl) (120) ((lp gtInit (80) (sl (sl (si (si wa 0 0) 1 0) 0 0) 1 0))))) pi) := hD
          have hl : lv_has ls 3 [(0, .ref (ad 7)), (1, .ref (ad 2)), (2, .int (nI i_2))] := hl
          exact W.vret hx hb hr (fun t ht hW => ⟨⟨(XW ad cI cJ co fl ra li re ((lpW gtGo (gtStep fl) (120) ((lp gtInit (80) (sl (sl (si (si wa 0 0) 1 0) 0 0) 1 0))))) pi), rfl, xw_eq rfl rfl rfl rfl rfl (show ((lpW gtGo (gtStep fl) (120) ((lp gtInit (80) (sl (sl (si (si wa 0 0) 1 0) 0 0) 1 0))))) = (goThrough fl wa) from (by first | (simp only [goThrough, gtStart, gtZero, if_neg c_56, decide_eq_false c_56, decide_eq_true c_56, if_pos c_56, if_neg c_77, decide_eq_false c_77, decide_eq_true c_77, if_pos c_77, gi_sl, gi_sA, gi_sB, gi_si_s, gi_si_n, gl_si, gl_sA, gl_sB, gl_sl_s, gl_sl_n, gA_si, gA_sl, gA_sB, gA_sA_s, gA_sA_n, gB_si, gB_sl, gB_sA, gB_sB_s, gB_sB_n, Nat.reduceBEq, if_true, if_false, eq_self, Bool.false_eq_true, reduceCtorEq, not_true_eq_false, not_false_eq_true, decide_true, decide_false, cond_true, cond_false, Bool.true_and, Bool.false_and, Bool.and_true, Bool.and_false, Bool.true_or, Bool.false_or, Bool.or_true, Bool.or_false, b2i_tt, b2i_ff]; done) | (simp only [goThrough, gtStart, gtZero, if_neg c_56, decide_eq_false c_56, decide_eq_true c_56, if_pos c_56, if_neg c_77, decide_eq_false c_77, decide_eq_true c_77, if_pos c_77, gi_sl, gi_sA, gi_sB, gi_si_s, gi_si_n, gl_si, gl_sA, gl_sB, gl_sl_s, gl_sl_n, gA_si, gA_sl, gA_sB, gA_sA_s, gA_sA_n, gB_si, gB_sl, gB_sA, gB_sB_s, gB_sB_n, Nat.reduceBEq, if_true, if_false, eq_self, Bool.false_eq_true, reduceCtorEq, not_true_eq_false, not_false_eq_true, decide_true, decide_false, cond_true, cond_false, Bool.true_and, Bool.false_and, Bool.and_true, Bool.and_false, Bool.true_or, Bool.false_or, Bool.or_true, Bool.or_false, b2i_tt, b2i_ff]; rfl) | (simp [goThrough, gtStart, gtZero, c_56, c_77, gi_sl, gi_sA, gi_sB, gi_si_s, gi_si_n, gl_si, gl_sA, gl_sB, gl_sl_s, gl_sl_n, gA_si, gA_sl, gA_sB, gA_sA_s, gA_sA_n, gB_si, gB_sl, gB_sA, gB_sB_s, gB_sB_n, Nat.reduceBEq]; done))) rfl, ⟨by rw [ht]; exact hP, va_K.moved hW.alike hK, hD⟩⟩, hS.F ht⟩) hS.2.2 dX6_goThrough_104
        · have c_77 : 0 < (gi p_2 1) := i_nge c_77
          refine lv_aload_n hx hb dX6_goThrough_80 rfl (lv_at hl 0 rfl) ?_
          refine lv_aload_n hx hb dX6_goThrough_81 rfl (lv_at hl 1 rfl) ?_
          refine lv_aload_n hx hb dX6_goThrough_82 rfl (lv_at hl 0 rfl) ?_
          refine va_get (D := D) (ci := 6) (v := .ref (ad 32)) (C := RX6) (T := TX6) (N := 9) hx hb hg inGX6 hown hK hP 7 rfl rfl 3 (by decide) (hg _ mw_211) (fun _ h9 => h9) rfl dX6_goThrough_83 ?_
          refine lv_aload_n hx hb dX6_goThrough_86 rfl (lv_at hl 0 rfl) ?_
          refine va_get (D := D) (ci := 6) (v := .int (gi p_2 1)) (C := RX6) (T := TX6) (N := 9) hx hb hg inGX6 hown hK hP 7 rfl rfl 6 (by decide) (hg _ mw_212) (fun _ h9 => h9) rfl dX6_goThrough_87 ?_
          refine lv_iconst (v := 1) hx hb dX6_goThrough_90 (by decide) ?_
          refine lv_isub hx hb dX6_goThrough_91 ?_
          refine kI (rSN hx hb hml hown hg hN hK hP hD (c_at l D cI cJ (XW ad cI cJ co fl ra li re p_2 pi) 32 (ad 32) 40 (gA p_2 3) ((gi p_2 1) - 1) rfl (by decide)) mw_84 nw_91 mw_85 mw_77 pd_X7_at ⟨Nat.le_of_ble_eq_true rfl, Nat.le_of_ble_eq_true rfl⟩ rfl hl.1 rfl (Nat.le_of_ble_eq_true rfl) dX6_goThrough_92 ⟨Nat.le_of_ble_eq_true rfl, Nat.le_of_ble_eq_true rfl⟩) hD hS hA (fun r_3 u_3 H locs hp hP hD hS => ?_)
          obtain ⟨er, eu⟩ := hp
          obtain rfl := er.symm
          obtain rfl := eu.symm
          refine kV (rV (q0 := 7) (ci := 6) hx hb hml hown hg hN hK hP hD (c_goOn l D cI cJ ad co fl ra li re p_2 pi (rd (gA p_2 3) 40 ((gi p_2 1) - 1))) mw_222 mw_223 mw_224 mw_225 mw_208 pdv_X6_goOn ⟨Nat.le_of_ble_eq_true rfl, Nat.le_of_ble_eq_true rfl⟩ rfl rfl rfl hl.1 rfl (Nat.le_of_ble_eq_true rfl) dX6_goThrough_95 ⟨Nat.le_of_ble_eq_true rfl, Nat.le_of_ble_eq_true rfl⟩) hD hS hA (fun u_4 H locs hp hP hD hS => ?_)
          obtain rfl := hp.symm
          have hP : va_P D vwCl (XW ad cI cJ co fl ra li re (goOn fl p_2 (rd (gA p_2 3) 40 ((gi p_2 1) - 1))) pi) H := hP
          have hD : va_D A (XW ad cI cJ co fl ra li re (goOn fl p_2 (rd (gA p_2 3) 40 ((gi p_2 1) - 1))) pi) := hD
          refine lv_iinc (v := (nI (i_2 + 1))) (lv' := [(2, .int (nI (i_2 + 1))), (0, .ref (ad 7)), (1, .ref (ad 2))]) hx hb dX6_goThrough_98 hl (k := 2) rfl (nI_1 i_2) (by decide) rfl (fun ls hl => ?_)
          refine lv_goto (tgt := 67) hx hb dX6_goThrough_101 (by decide) ?_
          exact ih_2 (goOn fl p_2 (rd (gA p_2 3) 40 ((gi p_2 1) - 1))) H locs ls ⟨((show (goOn fl p_2 (rd (gA p_2 3) 40 ((gi p_2 1) - 1))) = (gtStep fl) p_2 from (by first | (simp only [gtStep, if_neg c_56, decide_eq_false c_56, decide_eq_true c_56, if_pos c_56, if_pos c_77, decide_eq_true c_77, decide_eq_false (not_not_intro c_77), gi_sl, gi_sA, gi_sB, gi_si_s, gi_si_n, gl_si, gl_sA, gl_sB, gl_sl_s, gl_sl_n, gA_si, gA_sl, gA_sB, gA_sA_s, gA_sA_n, gB_si, gB_sl, gB_sA, gB_sB_s, gB_sB_n, Nat.reduceBEq, if_true, if_false, eq_self, Bool.false_eq_true, reduceCtorEq, not_true_eq_false, not_false_eq_true, decide_true, decide_false, cond_true, cond_false, Bool.true_and, Bool.false_and, Bool.and_true, Bool.and_false, Bool.true_or, Bool.false_or, Bool.or_true, Bool.or_false, b2i_tt, b2i_ff]; done) | (simp only [gtStep, if_neg c_56, decide_eq_false c_56, decide_eq_true c_56, if_pos c_56, if_pos c_77, decide_eq_true c_77, decide_eq_false (not_not_intro c_77), gi_sl, gi_sA, gi_sB, gi_si_s, gi_si_n, gl_si, gl_sA, gl_sB, gl_sl_s, gl_sl_n, gA_si, gA_sl, gA_sB, gA_sA_s, gA_sA_n, gB_si, gB_sl, gB_sA, gB_sB_s, gB_sB_n, Nat.reduceBEq, if_true, if_false, eq_self, Bool.false_eq_true, reduceCtorEq, not_true_eq_false, not_false_eq_true, decide_true, decide_false, cond_true, cond_false, Bool.true_and, Bool.false_and, Bool.and_true, Bool.and_false, Bool.true_or, Bool.false_or, Bool.or_true, Bool.or_false, b2i_tt, b2i_ff]; rfl) | (simp [gtStep, c_56, c_77, gi_sl, gi_sA, gi_sB, gi_si_s, gi_si_n, gl_si, gl_sA, gl_sB, gl_sl_s, gl_sl_n, gA_si, gA_sl, gA_sB, gA_sA_s, gA_sA_n, gB_si, gB_sl, gB_sA, gB_sB_s, gB_sB_n, Nat.reduceBEq]; done))).trans (lpW_go h_2 (by first | (simp only [gtGo, if_neg c_56, decide_eq_false c_56, decide_eq_true c_56, if_pos c_56, if_pos c_77, decide_eq_true c_77, decide_eq_false (not_not_intro c_77), gi_sl, gi_sA, gi_sB, gi_si_s, gi_si_n, gl_si, gl_sA, gl_sB, gl_sl_s, gl_sl_n, gA_si, gA_sl, gA_sB, gA_sA_s, gA_sA_n, gB_si, gB_sl, gB_sA, gB_sB_s, gB_sB_n, Nat.reduceBEq, if_true, if_false, eq_self, Bool.false_eq_true, reduceCtorEq, not_true_eq_false, not_false_eq_true, decide_true, decide_false, cond_true, cond_false, Bool.true_and, Bool.false_and, Bool.and_true, Bool.and_false, Bool.true_or, Bool.false_or, Bool.or_true, Bool.or_false, b2i_tt, b2i_ff]; done) | (simp only [gtGo, if_neg c_56, decide_eq_false c_56, decide_eq_true c_56, if_pos c_56, if_pos c_77, decide_eq_true c_77, decide_eq_false (not_not_intro c_77), gi_sl, gi_sA, gi_sB, gi_si_s, gi_si_n, gl_si, gl_sA, gl_sB, gl_sl_s, gl_sl_n, gA_si, gA_sl, gA_sB, gA_sA_s, gA_sA_n, gB_si, gB_sl, gB_sA, gB_sB_s, gB_sB_n, Nat.reduceBEq, if_true, if_false, eq_self, Bool.false_eq_true, reduceCtorEq, not_true_eq_false, not_false_eq_true, decide_true, decide_false, cond_true, cond_false, Bool.true_and, Bool.false_and, Bool.and_true, Bool.and_false, Bool.true_or, Bool.false_or, Bool.or_true, Bool.or_false, b2i_tt, b2i_ff]; rfl) | (simp [gtGo, c_56, c_77, gi_sl, gi_sA, gi_sB, gi_si_s, gi_si_n, gl_si, gl_sA, gl_sB, gl_sl_s, gl_sl_n, gA_si, gA_sl, gA_sB, gA_sA_s, gA_sA_n, gB_si, gB_sl, gB_sA, gB_sB_s, gB_sB_n, Nat.reduceBEq]; done)))), hP, hD, hS, lv_sub hl [1, 2, 0] rfl⟩
    · have c_56 : 0 < (gi fl 0) := i_nge c_56
      refine lv_aload_n hx hb dX6_goThrough_59 rfl (lv_at hl 0 rfl) ?_
      refine lv_aload_n hx hb dX6_goThrough_60 rfl (lv_at hl 1 rfl) ?_
      refine lv_iconst (v := 0) hx hb dX6_goThrough_61 (by decide) ?_
      refine kV (rV (q0 := 7) (ci := 6) hx hb hml hown hg hN hK hP hD (c_enter l D cI cJ ad co fl ra li re ((lp gtInit (80) (sl (sl (si (si wa 0 0) 1 0) 0 0) 1 0))) pi 0) mw_217 mw_218 mw_219 mw_220 mw_208 pdv_X6_enter ⟨Nat.le_of_ble_eq_true rfl, Nat.le_of_ble_eq_true rfl⟩ rfl rfl rfl hl.1 rfl (Nat.le_of_ble_eq_true rfl) dX6_goThrough_62 ⟨Nat.le_of_ble_eq_true rfl, Nat.le_of_ble_eq_true rfl⟩) hD hS hA (fun u_5 H locs hp hP hD hS => ?_)
      obtain rfl := hp.symm
      have hP : va_P D vwCl (XW ad cI cJ co fl ra li re (enter fl ((lp gtInit (80) (sl (sl (si (si wa 0 0) 1 0) 0 0) 1 0))) 0) pi) H := hP
      have hD : va_D A (XW ad cI cJ co fl ra li re (enter fl ((lp gtInit (80) (sl (sl (si (si wa 0 0) 1 0) 0 0) 1 0))) 0) pi) := hD
      refine lv_iconst (v := 0) hx hb dX6_goThrough_65 (by decide) ?_
      refine lv_istore_n (lv' := [(2, .int 0), (0, .ref (ad 7)), (1, .ref (ad 2))]) hx hb dX6_goThrough_66 rfl hl (by decide) rfl (fun ls hl => ?_)
      refine w_loop (σ := Ob) (fun (i_6 : Nat) (p_6 : Ob) (H : Heap) (locs : List Loc) (ls : Array Slot) => p_6 = (lpW gtGo (gtStep fl) i_6 (enter fl ((lp gtInit (80) (sl (sl (si (si wa 0 0) 1 0) 0 0) 1 0))) 0)) ∧ va_P D vwCl (XW ad cI cJ co fl ra li re p_6 pi) H ∧ va_D A (XW ad cI cJ co fl ra li re p_6 pi) ∧ va_S A s.heap H locs ∧ lv_has ls 3 [(0, .ref (ad 7)), (1, .ref (ad 2)), (2, .int (nI i_6))]) (120) (fun p_6 H locs ls hI => ?_) (fun i_6 p_6 H locs ls hi_6 hI ih_6 => ?_) 0 (enter fl ((lp gtInit (80) (sl (sl (si (si wa 0 0) 1 0) 0 0) 1 0))) 0) (Nat.zero_le _) ⟨rfl, hP, hD, hS, (by rw [nI_0]; exact lv_sub hl [1, 2, 0] rfl)⟩
      · obtain ⟨h_6, hP, hD, hS, hl⟩ := hI
        have h_6 := h_6.symm
        subst h_6
        have hP : va_P D vwCl (XW ad cI cJ co fl ra li re ((lpW gtGo (gtStep fl) (120) (enter fl ((lp gtInit (80) (sl (sl (si (si wa 0 0) 1 0) 0 0) 1 0))) 0))) pi) H := hP
        have hD : va_D A (XW ad cI cJ co fl ra li re ((lpW gtGo (gtStep fl) (120) (enter fl ((lp gtInit (80) (sl (sl (si (si wa 0 0) 1 0) 0 0) 1 0))) 0))) pi) := hD
        have hl : lv_has ls 3 [(0, .ref (ad 7)), (1, .ref (ad 2)), (2, .int (nI 120))] := hl
        refine lv_iload_n hx hb dX6_goThrough_67 rfl (lv_at hl 2 rfl) ?_
        refine lv_bipush (v := 120) hx hb dX6_goThrough_68 (by decide) ?_
        refine lv_icmp_ge (tgt := 104) hx hb dX6_goThrough_70 (by decide) (fun _ => ?_) (fun c_70 => absurd (by decide) c_70)
        exact W.vret hx hb hr (fun t ht hW => ⟨⟨(XW ad cI cJ co fl ra li re ((lpW gtGo (gtStep fl) (120) (enter fl ((lp gtInit (80) (sl (sl (si (si wa 0 0) 1 0) 0 0) 1 0))) 0))) pi), rfl, xw_eq rfl rfl rfl rfl rfl (show ((lpW gtGo (gtStep fl) (120) (enter fl ((lp gtInit (80) (sl (sl (si (si wa 0 0) 1 0) 0 0) 1 0))) 0))) = (goThrough fl wa) from (by first | (simp only [goThrough, gtStart, gtZero, if_pos c_56, decide_eq_true c_56, decide_eq_false (not_not_intro c_56), gi_sl, gi_sA, gi_sB, gi_si_s, gi_si_n, gl_si, gl_sA, gl_sB, gl_sl_s, gl_sl_n, gA_si, gA_sl, gA_sB, gA_sA_s, gA_sA_n, gB_si, gB_sl, gB_sA, gB_sB_s, gB_sB_n, Nat.reduceBEq, if_true, if_false, eq_self, Bool.false_eq_true, reduceCtorEq, not_true_eq_false, not_false_eq_true, decide_true, decide_false, cond_true, cond_false, Bool.true_and, Bool.false_and, Bool.and_true, Bool.and_false, Bool.true_or, Bool.false_or, Bool.or_true, Bool.or_false, b2i_tt, b2i_ff]; done) | (simp only [goThrough, gtStart, gtZero, if_pos c_56, decide_eq_true c_56, decide_eq_false (not_not_intro c_56), gi_sl, gi_sA, gi_sB, gi_si_s, gi_si_n, gl_si, gl_sA, gl_sB, gl_sl_s, gl_sl_n, gA_si, gA_sl, gA_sB, gA_sA_s, gA_sA_n, gB_si, gB_sl, gB_sA, gB_sB_s, gB_sB_n, Nat.reduceBEq, if_true, if_false, eq_self, Bool.false_eq_true, reduceCtorEq, not_true_eq_false, not_false_eq_true, decide_true, decide_false, cond_true, cond_false, Bool.true_and, Bool.false_and, Bool.and_true, Bool.and_false, Bool.true_or, Bool.false_or, Bool.or_true, Bool.or_false, b2i_tt, b2i_ff]; rfl) | (simp [goThrough, gtStart, gtZero, c_56, gi_sl, gi_sA, gi_sB, gi_si_s, gi_si_n, gl_si, gl_sA, gl_sB, gl_sl_s, gl_sl_n, gA_si, gA_sl, gA_sB, gA_sA_s, gA_sA_n, gB_si, gB_sl, gB_sA, gB_sB_s, gB_sB_n, Nat.reduceBEq]; done))) rfl, ⟨by rw [ht]; exact hP, va_K.moved hW.alike hK, hD⟩⟩, hS.F ht⟩) hS.2.2 dX6_goThrough_104
      · obtain ⟨h_6, hP, hD, hS, hl⟩ := hI
        have hP : va_P D vwCl (XW ad cI cJ co fl ra li re p_6 pi) H := hP
        have hD : va_D A (XW ad cI cJ co fl ra li re p_6 pi) := hD
        have hl : lv_has ls 3 [(0, .ref (ad 7)), (1, .ref (ad 2)), (2, .int (nI i_6))] := hl
        refine lv_iload_n hx hb dX6_goThrough_67 rfl (lv_at hl 2 rfl) ?_
        refine lv_bipush (v := 120) hx hb dX6_goThrough_68 (by decide) ?_
        refine lv_icmp_ge (tgt := 104) hx hb dX6_goThrough_70 (by decide) (fun c_70 => absurd c_70 (nI_ge hi_6 (by decide))) (fun _ => ?_)
        refine lv_aload_n hx hb dX6_goThrough_73 rfl (lv_at hl 0 rfl) ?_
        refine va_get (D := D) (ci := 6) (v := .int (gi p_6 1)) (C := RX6) (T := TX6) (N := 9) hx hb hg inGX6 hown hK hP 7 rfl rfl 6 (by decide) (hg _ mw_212) (fun _ h9 => h9) rfl dX6_goThrough_74 ?_
        refine lv_if_le (tgt := 104) hx hb dX6_goThrough_77 (by decide) (fun c_77 => ?_) (fun c_77 => ?_)
        · have c_77 : ¬ 0 < (gi p_6 1) := i_ge c_77
          have h_6 : p_6 = (lpW gtGo (gtStep fl) (120) (enter fl ((lp gtInit (80) (sl (sl (si (si wa 0 0) 1 0) 0 0) 1 0))) 0)) := lpW_stop h_6 (by first | (simp only [gtGo, if_pos c_56, decide_eq_true c_56, decide_eq_false (not_not_intro c_56), if_neg c_77, decide_eq_false c_77, decide_eq_true c_77, if_pos c_77, gi_sl, gi_sA, gi_sB, gi_si_s, gi_si_n, gl_si, gl_sA, gl_sB, gl_sl_s, gl_sl_n, gA_si, gA_sl, gA_sB, gA_sA_s, gA_sA_n, gB_si, gB_sl, gB_sA, gB_sB_s, gB_sB_n, Nat.reduceBEq, if_true, if_false, eq_self, Bool.false_eq_true, reduceCtorEq, not_true_eq_false, not_false_eq_true, decide_true, decide_false, cond_true, cond_false, Bool.true_and, Bool.false_and, Bool.and_true, Bool.and_false, Bool.true_or, Bool.false_or, Bool.or_true, Bool.or_false, b2i_tt, b2i_ff]; done) | (simp only [gtGo, if_pos c_56, decide_eq_true c_56, decide_eq_false (not_not_intro c_56), if_neg c_77, decide_eq_false c_77, decide_eq_true c_77, if_pos c_77, gi_sl, gi_sA, gi_sB, gi_si_s, gi_si_n, gl_si, gl_sA, gl_sB, gl_sl_s, gl_sl_n, gA_si, gA_sl, gA_sB, gA_sA_s, gA_sA_n, gB_si, gB_sl, gB_sA, gB_sB_s, gB_sB_n, Nat.reduceBEq, if_true, if_false, eq_self, Bool.false_eq_true, reduceCtorEq, not_true_eq_false, not_false_eq_true, decide_true, decide_false, cond_true, cond_false, Bool.true_and, Bool.false_and, Bool.and_true, Bool.and_false, Bool.true_or, Bool.false_or, Bool.or_true, Bool.or_false, b2i_tt, b2i_ff]; rfl) | (simp [gtGo, c_56, c_77, gi_sl, gi_sA, gi_sB, gi_si_s, gi_si_n, gl_si, gl_sA, gl_sB, gl_sl_s, gl_sl_n, gA_si, gA_sl, gA_sB, gA_sA_s, gA_sA_n, gB_si, gB_sl, gB_sA, gB_sB_s, gB_sB_n, Nat.reduceBEq]; done)) (Nat.le_of_lt hi_6)
          have h_6 := h_6.symm
          subst h_6
          have hP : va_P D vwCl (XW ad cI cJ co fl ra li re ((lpW gtGo (gtStep fl) (120) (enter fl ((lp gtInit (80) (sl (sl (si (si wa 0 0) 1 0) 0 0) 1 0))) 0))) pi) H := hP
          have hD : va_D A (XW ad cI cJ co fl ra li re ((lpW gtGo (gtStep fl) (120) (enter fl ((lp gtInit (80) (sl (sl (si (si wa 0 0) 1 0) 0 0) 1 0))) 0))) pi) := hD
          have hl : lv_has ls 3 [(0, .ref (ad 7)), (1, .ref (ad 2)), (2, .int (nI i_6))] := hl
          exact W.vret hx hb hr (fun t ht hW => ⟨⟨(XW ad cI cJ co fl ra li re ((lpW gtGo (gtStep fl) (120) (enter fl ((lp gtInit (80) (sl (sl (si (si wa 0 0) 1 0) 0 0) 1 0))) 0))) pi), rfl, xw_eq rfl rfl rfl rfl rfl (show ((lpW gtGo (gtStep fl) (120) (enter fl ((lp gtInit (80) (sl (sl (si (si wa 0 0) 1 0) 0 0) 1 0))) 0))) = (goThrough fl wa) from (by first | (simp only [goThrough, gtStart, gtZero, if_pos c_56, decide_eq_true c_56, decide_eq_false (not_not_intro c_56), if_neg c_77, decide_eq_false c_77, decide_eq_true c_77, if_pos c_77, gi_sl, gi_sA, gi_sB, gi_si_s, gi_si_n, gl_si, gl_sA, gl_sB, gl_sl_s, gl_sl_n, gA_si, gA_sl, gA_sB, gA_sA_s, gA_sA_n, gB_si, gB_sl, gB_sA, gB_sB_s, gB_sB_n, Nat.reduceBEq, if_true, if_false, eq_self, Bool.false_eq_true, reduceCtorEq, not_true_eq_false, not_false_eq_true, decide_true, decide_false, cond_true, cond_false, Bool.true_and, Bool.false_and, Bool.and_true, Bool.and_false, Bool.true_or, Bool.false_or, Bool.or_true, Bool.or_false, b2i_tt, b2i_ff]; done) | (simp only [goThrough, gtStart, gtZero, if_pos c_56, decide_eq_true c_56, decide_eq_false (not_not_intro c_56), if_neg c_77, decide_eq_false c_77, decide_eq_true c_77, if_pos c_77, gi_sl, gi_sA, gi_sB, gi_si_s, gi_si_n, gl_si, gl_sA, gl_sB, gl_sl_s, gl_sl_n, gA_si, gA_sl, gA_sB, gA_sA_s, gA_sA_n, gB_si, gB_sl, gB_sA, gB_sB_s, gB_sB_n, Nat.reduceBEq, if_true, if_false, eq_self, Bool.false_eq_true, reduceCtorEq, not_true_eq_false, not_false_eq_true, decide_true, decide_false, cond_true, cond_false, Bool.true_and, Bool.false_and, Bool.and_true, Bool.and_false, Bool.true_or, Bool.false_or, Bool.or_true, Bool.or_false, b2i_tt, b2i_ff]; rfl) | (simp [goThrough, gtStart, gtZero, c_56, c_77, gi_sl, gi_sA, gi_sB, gi_si_s, gi_si_n, gl_si, gl_sA, gl_sB, gl_sl_s, gl_sl_n, gA_si, gA_sl, gA_sB, gA_sA_s, gA_sA_n, gB_si, gB_sl, gB_sA, gB_sB_s, gB_sB_n, Nat.reduceBEq]; done))) rfl, ⟨by rw [ht]; exact hP, va_K.moved hW.alike hK, hD⟩⟩, hS.F ht⟩) hS.2.2 dX6_goThrough_104
        · have c_77 : 0 < (gi p_6 1) := i_nge c_77
          refine lv_aload_n hx hb dX6_goThrough_80 rfl (lv_at hl 0 rfl) ?_
          refine lv_aload_n hx hb dX6_goThrough_81 rfl (lv_at hl 1 rfl) ?_
          refine lv_aload_n hx hb dX6_goThrough_82 rfl (lv_at hl 0 rfl) ?_
          refine va_get (D := D) (ci := 6) (v := .ref (ad 32)) (C := RX6) (T := TX6) (N := 9) hx hb hg inGX6 hown hK hP 7 rfl rfl 3 (by decide) (hg _ mw_211) (fun _ h9 => h9) rfl dX6_goThrough_83 ?_
          refine lv_aload_n hx hb dX6_goThrough_86 rfl (lv_at hl 0 rfl) ?_
          refine va_get (D := D) (ci := 6) (v := .int (gi p_6 1)) (C := RX6) (T := TX6) (N := 9) hx hb hg inGX6 hown hK hP 7 rfl rfl 6 (by decide) (hg _ mw_212) (fun _ h9 => h9) rfl dX6_goThrough_87 ?_
          refine lv_iconst (v := 1) hx hb dX6_goThrough_90 (by decide) ?_
          refine lv_isub hx hb dX6_goThrough_91 ?_
          refine kI (rSN hx hb hml hown hg hN hK hP hD (c_at l D cI cJ (XW ad cI cJ co fl ra li re p_6 pi) 32 (ad 32) 40 (gA p_6 3) ((gi p_6 1) - 1) rfl (by decide)) mw_84 nw_91 mw_85 mw_77 pd_X7_at ⟨Nat.le_of_ble_eq_true rfl, Nat.le_of_ble_eq_true rfl⟩ rfl hl.1 rfl (Nat.le_of_ble_eq_true rfl) dX6_goThrough_92 ⟨Nat.le_of_ble_eq_true rfl, Nat.le_of_ble_eq_true rfl⟩) hD hS hA (fun r_7 u_7 H locs hp hP hD hS => ?_)
          obtain ⟨er, eu⟩ := hp
          obtain rfl := er.symm
          obtain rfl := eu.symm
          refine kV (rV (q0 := 7) (ci := 6) hx hb hml hown hg hN hK hP hD (c_goOn l D cI cJ ad co fl ra li re p_6 pi (rd (gA p_6 3) 40 ((gi p_6 1) - 1))) mw_222 mw_223 mw_224 mw_225 mw_208 pdv_X6_goOn ⟨Nat.le_of_ble_eq_true rfl, Nat.le_of_ble_eq_true rfl⟩ rfl rfl rfl hl.1 rfl (Nat.le_of_ble_eq_true rfl) dX6_goThrough_95 ⟨Nat.le_of_ble_eq_true rfl, Nat.le_of_ble_eq_true rfl⟩) hD hS hA (fun u_8 H locs hp hP hD hS => ?_)
          obtain rfl := hp.symm
          have hP : va_P D vwCl (XW ad cI cJ co fl ra li re (goOn fl p_6 (rd (gA p_6 3) 40 ((gi p_6 1) - 1))) pi) H := hP
          have hD : va_D A (XW ad cI cJ co fl ra li re (goOn fl p_6 (rd (gA p_6 3) 40 ((gi p_6 1) - 1))) pi) := hD
          refine lv_iinc (v := (nI (i_6 + 1))) (lv' := [(2, .int (nI (i_6 + 1))), (0, .ref (ad 7)), (1, .ref (ad 2))]) hx hb dX6_goThrough_98 hl (k := 2) rfl (nI_1 i_6) (by decide) rfl (fun ls hl => ?_)
          refine lv_goto (tgt := 67) hx hb dX6_goThrough_101 (by decide) ?_
          exact ih_6 (goOn fl p_6 (rd (gA p_6 3) 40 ((gi p_6 1) - 1))) H locs ls ⟨((show (goOn fl p_6 (rd (gA p_6 3) 40 ((gi p_6 1) - 1))) = (gtStep fl) p_6 from (by first | (simp only [gtStep, if_pos c_56, decide_eq_true c_56, decide_eq_false (not_not_intro c_56), if_pos c_77, decide_eq_true c_77, decide_eq_false (not_not_intro c_77), gi_sl, gi_sA, gi_sB, gi_si_s, gi_si_n, gl_si, gl_sA, gl_sB, gl_sl_s, gl_sl_n, gA_si, gA_sl, gA_sB, gA_sA_s, gA_sA_n, gB_si, gB_sl, gB_sA, gB_sB_s, gB_sB_n, Nat.reduceBEq, if_true, if_false, eq_self, Bool.false_eq_true, reduceCtorEq, not_true_eq_false, not_false_eq_true, decide_true, decide_false, cond_true, cond_false, Bool.true_and, Bool.false_and, Bool.and_true, Bool.and_false, Bool.true_or, Bool.false_or, Bool.or_true, Bool.or_false, b2i_tt, b2i_ff]; done) | (simp only [gtStep, if_pos c_56, decide_eq_true c_56, decide_eq_false (not_not_intro c_56), if_pos c_77, decide_eq_true c_77, decide_eq_false (not_not_intro c_77), gi_sl, gi_sA, gi_sB, gi_si_s, gi_si_n, gl_si, gl_sA, gl_sB, gl_sl_s, gl_sl_n, gA_si, gA_sl, gA_sB, gA_sA_s, gA_sA_n, gB_si, gB_sl, gB_sA, gB_sB_s, gB_sB_n, Nat.reduceBEq, if_true, if_false, eq_self, Bool.false_eq_true, reduceCtorEq, not_true_eq_false, not_false_eq_true, decide_true, decide_false, cond_true, cond_false, Bool.true_and, Bool.false_and, Bool.and_true, Bool.and_false, Bool.true_or, Bool.false_or, Bool.or_true, Bool.or_false, b2i_tt, b2i_ff]; rfl) | (simp [gtStep, c_56, c_77, gi_sl, gi_sA, gi_sB, gi_si_s, gi_si_n, gl_si, gl_sA, gl_sB, gl_sl_s, gl_sl_n, gA_si, gA_sl, gA_sB, gA_sA_s, gA_sA_n, gB_si, gB_sl, gB_sA, gB_sB_s, gB_sB_n, Nat.reduceBEq]; done))).trans (lpW_go h_6 (by first | (simp only [gtGo, if_pos c_56, decide_eq_true c_56, decide_eq_false (not_not_intro c_56), if_pos c_77, decide_eq_true c_77, decide_eq_false (not_not_intro c_77), gi_sl, gi_sA, gi_sB, gi_si_s, gi_si_n, gl_si, gl_sA, gl_sB, gl_sl_s, gl_sl_n, gA_si, gA_sl, gA_sB, gA_sA_s, gA_sA_n, gB_si, gB_sl, gB_sA, gB_sB_s, gB_sB_n, Nat.reduceBEq, if_true, if_false, eq_self, Bool.false_eq_true, reduceCtorEq, not_true_eq_false, not_false_eq_true, decide_true, decide_false, cond_true, cond_false, Bool.true_and, Bool.false_and, Bool.and_true, Bool.and_false, Bool.true_or, Bool.false_or, Bool.or_true, Bool.or_false, b2i_tt, b2i_ff]; done) | (simp only [gtGo, if_pos c_56, decide_eq_true c_56, decide_eq_false (not_not_intro c_56), if_pos c_77, decide_eq_true c_77, decide_eq_false (not_not_intro c_77), gi_sl, gi_sA, gi_sB, gi_si_s, gi_si_n, gl_si, gl_sA, gl_sB, gl_sl_s, gl_sl_n, gA_si, gA_sl, gA_sB, gA_sA_s, gA_sA_n, gB_si, gB_sl, gB_sA, gB_sB_s, gB_sB_n, Nat.reduceBEq, if_true, if_false, eq_self, Bool.false_eq_true, reduceCtorEq, not_true_eq_false, not_false_eq_true, decide_true, decide_false, cond_true, cond_false, Bool.true_and, Bool.false_and, Bool.and_true, Bool.and_false, Bool.true_or, Bool.false_or, Bool.or_true, Bool.or_false, b2i_tt, b2i_ff]; rfl) | (simp [gtGo, c_56, c_77, gi_sl, gi_sA, gi_sB, gi_si_s, gi_si_n, gl_si, gl_sA, gl_sB, gl_sl_s, gl_sl_n, gA_si, gA_sl, gA_sB, gA_sA_s, gA_sA_n, gB_si, gB_sl, gB_sA, gB_sB_s, gB_sB_n, Nat.reduceBEq]; done)))), hP, hD, hS, lv_sub hl [1, 2, 0] rfl⟩
  · obtain ⟨h_1, hP, hD, hS, hl⟩ := hI
    have hP : va_P D vwCl (XW ad cI cJ co fl ra li re p_1 pi) H := hP
    have hD : va_D A (XW ad cI cJ co fl ra li re p_1 pi) := hD
    have hl : lv_has ls 3 [(0, .ref (ad 7)), (1, .ref (ad 2)), (2, .int (nI i_1))] := hl
    refine lv_iload_n hx hb dX6_goThrough_22 rfl (lv_at hl 2 rfl) ?_
    refine lv_bipush (v := 80) hx hb dX6_goThrough_23 (by decide) ?_
    refine lv_icmp_ge (tgt := 52) hx hb dX6_goThrough_25 (by decide) (fun c_25 => absurd c_25 (nI_ge hi_1 (by decide))) (fun _ => ?_)
    refine lv_aload_n hx hb dX6_goThrough_28 rfl (lv_at hl 0 rfl) ?_
    refine va_get (D := D) (ci := 6) (v := .ref (ad 30)) (C := RX6) (T := TX6) (N := 9) hx hb hg inGX6 hown hK hP 7 rfl rfl 1 (by decide) (hg _ mw_203) (fun _ h9 => h9) rfl dX6_goThrough_29 ?_
    refine lv_iload_n hx hb dX6_goThrough_32 rfl (lv_at hl 2 rfl) ?_
    refine lv_iconst (v := (-1)) hx hb dX6_goThrough_33 (by decide) ?_
    refine kV (rSN hx hb hml hown hg hN hK hP hD (c_put l D cI cJ (XW ad cI cJ co fl ra li re p_1 pi) 30 (ad 30) 80 (gA p_1 1) (nI i_1) (-1) rfl (by decide)) mw_92 nw_90 mw_93 mw_77 pd_X7_put ⟨Nat.le_of_ble_eq_true rfl, Nat.le_of_ble_eq_true rfl⟩ rfl hl.1 rfl (Nat.le_of_ble_eq_true rfl) dX6_goThrough_34 ⟨Nat.le_of_ble_eq_true rfl, Nat.le_of_ble_eq_true rfl⟩) hD hS hA (fun u_9 H locs hp hP hD hS => ?_)
    obtain rfl := hp.symm
    have hP : va_P D vwCl (XW ad cI cJ co fl ra li re (sA p_1 1 (wr (gA p_1 1) 80 (nI i_1) (-1))) pi) H := hP
    have hD : va_D A (XW ad cI cJ co fl ra li re (sA p_1 1 (wr (gA p_1 1) 80 (nI i_1) (-1))) pi) := hD
    refine lv_aload_n hx hb dX6_goThrough_37 rfl (lv_at hl 0 rfl) ?_
    refine va_get (D := D) (ci := 6) (v := .ref (ad 31)) (C := RX6) (T := TX6) (N := 9) hx hb hg inGX6 hown hK hP 7 rfl rfl 2 (by decide) (hg _ mw_216) (fun _ h9 => h9) rfl dX6_goThrough_38 ?_
    refine lv_iload_n hx hb dX6_goThrough_41 rfl (lv_at hl 2 rfl) ?_
    refine lv_iconst (v := (-1)) hx hb dX6_goThrough_42 (by decide) ?_
    refine kV (rSN hx hb hml hown hg hN hK hP hD (c_put l D cI cJ (XW ad cI cJ co fl ra li re (sA p_1 1 (wr (gA p_1 1) 80 (nI i_1) (-1))) pi) 31 (ad 31) 80 (gA p_1 2) (nI i_1) (-1) rfl (by decide)) mw_92 nw_90 mw_93 mw_77 pd_X7_put ⟨Nat.le_of_ble_eq_true rfl, Nat.le_of_ble_eq_true rfl⟩ rfl hl.1 rfl (Nat.le_of_ble_eq_true rfl) dX6_goThrough_43 ⟨Nat.le_of_ble_eq_true rfl, Nat.le_of_ble_eq_true rfl⟩) hD hS hA (fun u_10 H locs hp hP hD hS => ?_)
    obtain rfl := hp.symm
    have hP : va_P D vwCl (XW ad cI cJ co fl ra li re (sA (sA p_1 1 (wr (gA p_1 1) 80 (nI i_1) (-1))) 2 (wr (gA p_1 2) 80 (nI i_1) (-1))) pi) H := hP
    have hD : va_D A (XW ad cI cJ co fl ra li re (sA (sA p_1 1 (wr (gA p_1 1) 80 (nI i_1) (-1))) 2 (wr (gA p_1 2) 80 (nI i_1) (-1))) pi) := hD
    refine lv_iinc (v := (nI (i_1 + 1))) (lv' := [(2, .int (nI (i_1 + 1))), (0, .ref (ad 7)), (1, .ref (ad 2))]) hx hb dX6_goThrough_46 hl (k := 2) rfl (nI_1 i_1) (by decide) rfl (fun ls hl => ?_)
    refine lv_goto (tgt := 22) hx hb dX6_goThrough_49 (by decide) ?_
    exact ih_1 (sA (sA p_1 1 (wr (gA p_1 1) 80 (nI i_1) (-1))) 2 (wr (gA p_1 2) 80 (nI i_1) (-1))) H locs ls ⟨((show (sA (sA p_1 1 (wr (gA p_1 1) 80 (nI i_1) (-1))) 2 (wr (gA p_1 2) 80 (nI i_1) (-1))) = gtInit i_1 p_1 from (by first | with_reducible rfl | (simp only [gtInit, gi_sl, gi_sA, gi_sB, gi_si_s, gi_si_n, gl_si, gl_sA, gl_sB, gl_sl_s, gl_sl_n, gA_si, gA_sl, gA_sB, gA_sA_s, gA_sA_n, gB_si, gB_sl, gB_sA, gB_sB_s, gB_sB_n, Nat.reduceBEq, if_true, if_false, eq_self, Bool.false_eq_true, reduceCtorEq, not_true_eq_false, not_false_eq_true, decide_true, decide_false, cond_true, cond_false, Bool.true_and, Bool.false_and, Bool.and_true, Bool.and_false, Bool.true_or, Bool.false_or, Bool.or_true, Bool.or_false, b2i_tt, b2i_ff]; done) | rfl)).trans (lp_go h_1)), hP, hD, hS, lv_sub hl [1, 2, 0] rfl⟩
