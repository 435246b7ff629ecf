theorem dX7_spread_0 : decode cX7_spread 0 = .ok (.lload_n 1, 1) := by decide +kernel
theorem dX7_spread_1 : decode cX7_spread 1 = .ok (.lload_n 3, 1) := by decide +kernel
theorem dX7_spread_2 : decode cX7_spread 2 = .ok (.ldc2_w 355, 3) := by decide +kernel
theorem dX7_spread_5 : decode cX7_spread 5 = .ok (.lxor, 1) := by decide +kernel
theorem dX7_spread_6 : decode cX7_spread 6 = .ok (.land, 1) := by decide +kernel
theorem dX7_spread_7 : decode cX7_spread 7 = .ok (.lstore 5, 2) := by decide +kernel
theorem dX7_spread_9 : decode cX7_spread 9 = .ok (.lload 5, 2) := by decide +kernel
theorem dX7_spread_11 : decode cX7_spread 11 = .ok (.lstore 7, 2) := by decide +kernel
theorem dX7_spread_13 : decode cX7_spread 13 = .ok (.iconst 0, 1) := by decide +kernel
theorem dX7_spread_14 : decode cX7_spread 14 = .ok (.istore 9, 2) := by decide +kernel
theorem dX7_spread_16 : decode cX7_spread 16 = .ok (.iload 9, 2) := by decide +kernel
theorem dX7_spread_18 : decode cX7_spread 18 = .ok (.bipush 40, 2) := by decide +kernel
theorem dX7_spread_20 : decode cX7_spread 20 = .ok (.if_icmp .gt 72, 3) := by decide +kernel
theorem dX7_spread_23 : decode cX7_spread 23 = .ok (.lload 7, 2) := by decide +kernel
theorem dX7_spread_25 : decode cX7_spread 25 = .ok (.lconst 0, 1) := by decide +kernel
theorem dX7_spread_26 : decode cX7_spread 26 = .ok (.lcmp, 1) := by decide +kernel
theorem dX7_spread_27 : decode cX7_spread 27 = .ok (.ifCond .eq 65, 3) := by decide +kernel
theorem dX7_spread_30 : decode cX7_spread 30 = .ok (.lload 7, 2) := by decide +kernel
theorem dX7_spread_32 : decode cX7_spread 32 = .ok (.invokestatic 357, 3) := by decide +kernel
theorem dX7_spread_35 : decode cX7_spread 35 = .ok (.istore 10, 2) := by decide +kernel
theorem dX7_spread_37 : decode cX7_spread 37 = .ok (.lload 7, 2) := by decide +kernel
theorem dX7_spread_39 : decode cX7_spread 39 = .ok (.iload 10, 2) := by decide +kernel
theorem dX7_spread_41 : decode cX7_spread 41 = .ok (.invokestatic 360, 3) := by decide +kernel
theorem dX7_spread_44 : decode cX7_spread 44 = .ok (.ldc2_w 355, 3) := by decide +kernel
theorem dX7_spread_47 : decode cX7_spread 47 = .ok (.lxor, 1) := by decide +kernel
theorem dX7_spread_48 : decode cX7_spread 48 = .ok (.land, 1) := by decide +kernel
theorem dX7_spread_49 : decode cX7_spread 49 = .ok (.lstore 7, 2) := by decide +kernel
theorem dX7_spread_51 : decode cX7_spread 51 = .ok (.aload_n 0, 1) := by decide +kernel
theorem dX7_spread_52 : decode cX7_spread 52 = .ok (.iload 10, 2) := by decide +kernel
theorem dX7_spread_54 : decode cX7_spread 54 = .ok (.invokestatic 185, 3) := by decide +kernel
theorem dX7_spread_57 : decode cX7_spread 57 = .ok (.lload 5, 2) := by decide +kernel
theorem dX7_spread_59 : decode cX7_spread 59 = .ok (.ldc2_w 355, 3) := by decide +kernel
theorem dX7_spread_62 : decode cX7_spread 62 = .ok (.lxor, 1) := by decide +kernel
theorem dX7_spread_63 : decode cX7_spread 63 = .ok (.land, 1) := by decide +kernel
theorem dX7_spread_64 : decode cX7_spread 64 = .ok (.lload_n 3, 1) := by decide +kernel
theorem dX7_spread_65 : decode cX7_spread 65 = .ok (.ldc2_w 355, 3) := by decide +kernel
theorem dX7_spread_68 : decode cX7_spread 68 = .ok (.lxor, 1) := by decide +kernel
theorem dX7_spread_69 : decode cX7_spread 69 = .ok (.land, 1) := by decide +kernel
theorem dX7_spread_70 : decode cX7_spread 70 = .ok (.lstore 11, 2) := by decide +kernel
theorem dX7_spread_72 : decode cX7_spread 72 = .ok (.lload 5, 2) := by decide +kernel
theorem dX7_spread_74 : decode cX7_spread 74 = .ok (.lload 11, 2) := by decide +kernel
theorem dX7_spread_76 : decode cX7_spread 76 = .ok (.lor, 1) := by decide +kernel
theorem dX7_spread_77 : decode cX7_spread 77 = .ok (.lstore 5, 2) := by decide +kernel
theorem dX7_spread_79 : decode cX7_spread 79 = .ok (.lload 7, 2) := by decide +kernel
theorem dX7_spread_81 : decode cX7_spread 81 = .ok (.lload 11, 2) := by decide +kernel
theorem dX7_spread_83 : decode cX7_spread 83 = .ok (.lor, 1) := by decide +kernel
theorem dX7_spread_84 : decode cX7_spread 84 = .ok (.lstore 7, 2) := by decide +kernel
theorem dX7_spread_86 : decode cX7_spread 86 = .ok (.iinc 9 1, 3) := by decide +kernel
theorem dX7_spread_89 : decode cX7_spread 89 = .ok (.goto (-73), 3) := by decide +kernel
theorem dX7_spread_92 : decode cX7_spread 92 = .ok (.lload 5, 2) := by decide +kernel
theorem dX7_spread_94 : decode cX7_spread 94 = .ok (.lreturn, 1) := by decide +kernel
theorem dX1_leadersOf_0 : decode cX1_leadersOf 0 = .ok (.lconst 1, 1) := by decide +kernel
theorem dX1_leadersOf_1 : decode cX1_leadersOf 1 = .ok (.lstore_n 1, 1) := by decide +kernel
theorem dX1_leadersOf_2 : decode cX1_leadersOf 2 = .ok (.iconst 0, 1) := by decide +kernel
theorem dX1_leadersOf_3 : decode cX1_leadersOf 3 = .ok (.istore_n 3, 1) := by decide +kernel
theorem dX1_leadersOf_4 : decode cX1_leadersOf 4 = .ok (.iload_n 3, 1) := by decide +kernel
theorem dX1_leadersOf_5 : decode cX1_leadersOf 5 = .ok (.aload_n 0, 1) := by decide +kernel
theorem dX1_leadersOf_6 : decode cX1_leadersOf 6 = .ok (.getfield 34, 3) := by decide +kernel
theorem dX1_leadersOf_9 : decode cX1_leadersOf 9 = .ok (.if_icmp .ge 55, 3) := by decide +kernel
theorem dX1_leadersOf_12 : decode cX1_leadersOf 12 = .ok (.aload_n 0, 1) := by decide +kernel
theorem dX1_leadersOf_13 : decode cX1_leadersOf 13 = .ok (.getfield 77, 3) := by decide +kernel
theorem dX1_leadersOf_16 : decode cX1_leadersOf 16 = .ok (.iload_n 3, 1) := by decide +kernel
theorem dX1_leadersOf_17 : decode cX1_leadersOf 17 = .ok (.invokestatic 80, 3) := by decide +kernel
theorem dX1_leadersOf_20 : decode cX1_leadersOf 20 = .ok (.istore 4, 2) := by decide +kernel
theorem dX1_leadersOf_22 : decode cX1_leadersOf 22 = .ok (.iload 4, 2) := by decide +kernel
theorem dX1_leadersOf_24 : decode cX1_leadersOf 24 = .ok (.ifCond .eq 12, 3) := by decide +kernel
theorem dX1_leadersOf_27 : decode cX1_leadersOf 27 = .ok (.lload_n 1, 1) := by decide +kernel
theorem dX1_leadersOf_28 : decode cX1_leadersOf 28 = .ok (.iload_n 3, 1) := by decide +kernel
theorem dX1_leadersOf_29 : decode cX1_leadersOf 29 = .ok (.iconst 1, 1) := by decide +kernel
theorem dX1_leadersOf_30 : decode cX1_leadersOf 30 = .ok (.iadd, 1) := by decide +kernel
theorem dX1_leadersOf_31 : decode cX1_leadersOf 31 = .ok (.invokestatic 65, 3) := by decide +kernel
theorem dX1_leadersOf_34 : decode cX1_leadersOf 34 = .ok (.lor, 1) := by decide +kernel
theorem dX1_leadersOf_35 : decode cX1_leadersOf 35 = .ok (.lstore_n 1, 1) := by decide +kernel
theorem dX1_leadersOf_36 : decode cX1_leadersOf 36 = .ok (.iload 4, 2) := by decide +kernel
theorem dX1_leadersOf_38 : decode cX1_leadersOf 38 = .ok (.invokestatic 84, 3) := by decide +kernel
theorem dX1_leadersOf_41 : decode cX1_leadersOf 41 = .ok (.ifCond .eq 17, 3) := by decide +kernel
theorem dX1_leadersOf_44 : decode cX1_leadersOf 44 = .ok (.lload_n 1, 1) := by decide +kernel
theorem dX1_leadersOf_45 : decode cX1_leadersOf 45 = .ok (.aload_n 0, 1) := by decide +kernel
theorem dX1_leadersOf_46 : decode cX1_leadersOf 46 = .ok (.getfield 88, 3) := by decide +kernel
theorem dX1_leadersOf_49 : decode cX1_leadersOf 49 = .ok (.iload_n 3, 1) := by decide +kernel
theorem dX1_leadersOf_50 : decode cX1_leadersOf 50 = .ok (.invokestatic 80, 3) := by decide +kernel
theorem dX1_leadersOf_53 : decode cX1_leadersOf 53 = .ok (.invokestatic 65, 3) := by decide +kernel
theorem dX1_leadersOf_56 : decode cX1_leadersOf 56 = .ok (.lor, 1) := by decide +kernel
theorem dX1_leadersOf_57 : decode cX1_leadersOf 57 = .ok (.lstore_n 1, 1) := by decide +kernel
theorem dX1_leadersOf_58 : decode cX1_leadersOf 58 = .ok (.iinc 3 1, 3) := by decide +kernel
theorem dX1_leadersOf_61 : decode cX1_leadersOf 61 = .ok (.goto (-57), 3) := by decide +kernel
theorem dX1_leadersOf_64 : decode cX1_leadersOf 64 = .ok (.lload_n 1, 1) := by decide +kernel
theorem dX1_leadersOf_65 : decode cX1_leadersOf 65 = .ok (.lreturn, 1) := by decide +kernel
theorem dX1_cut_0 : decode cX1_cut 0 = .ok (.aload_n 0, 1) := by decide +kernel
theorem dX1_cut_1 : decode cX1_cut 1 = .ok (.iconst 0, 1) := by decide +kernel
theorem dX1_cut_2 : decode cX1_cut 2 = .ok (.putfield 51, 3) := by decide +kernel
theorem dX1_cut_5 : decode cX1_cut 5 = .ok (.iconst 0, 1) := by decide +kernel
theorem dX1_cut_6 : decode cX1_cut 6 = .ok (.istore 4, 2) := by decide +kernel
theorem dX1_cut_8 : decode cX1_cut 8 = .ok (.iload 4, 2) := by decide +kernel
theorem dX1_cut_10 : decode cX1_cut 10 = .ok (.iload_n 1, 1) := by decide +kernel
theorem dX1_cut_11 : decode cX1_cut 11 = .ok (.if_icmp .ge 71, 3) := by decide +kernel
theorem dX1_cut_14 : decode cX1_cut 14 = .ok (.lload_n 2, 1) := by decide +kernel
theorem dX1_cut_15 : decode cX1_cut 15 = .ok (.iload 4, 2) := by decide +kernel
theorem dX1_cut_17 : decode cX1_cut 17 = .ok (.invokestatic 91, 3) := by decide +kernel
theorem dX1_cut_20 : decode cX1_cut 20 = .ok (.ifCond .eq 26, 3) := by decide +kernel
theorem dX1_cut_23 : decode cX1_cut 23 = .ok (.aload_n 0, 1) := by decide +kernel
theorem dX1_cut_24 : decode cX1_cut 24 = .ok (.getfield 15, 3) := by decide +kernel
theorem dX1_cut_27 : decode cX1_cut 27 = .ok (.aload_n 0, 1) := by decide +kernel
theorem dX1_cut_28 : decode cX1_cut 28 = .ok (.getfield 51, 3) := by decide +kernel
theorem dX1_cut_31 : decode cX1_cut 31 = .ok (.iload 4, 2) := by decide +kernel
theorem dX1_cut_33 : decode cX1_cut 33 = .ok (.invokestatic 54, 3) := by decide +kernel
theorem dX1_cut_36 : decode cX1_cut 36 = .ok (.aload_n 0, 1) := by decide +kernel
theorem dX1_cut_37 : decode cX1_cut 37 = .ok (.dup, 1) := by decide +kernel
theorem dX1_cut_38 : decode cX1_cut 38 = .ok (.getfield 51, 3) := by decide +kernel
theorem dX1_cut_41 : decode cX1_cut 41 = .ok (.iconst 1, 1) := by decide +kernel
theorem dX1_cut_42 : decode cX1_cut 42 = .ok (.iadd, 1) := by decide +kernel
theorem dX1_cut_43 : decode cX1_cut 43 = .ok (.putfield 51, 3) := by decide +kernel
theorem dX1_cut_46 : decode cX1_cut 46 = .ok (.aload_n 0, 1) := by decide +kernel
theorem dX1_cut_47 : decode cX1_cut 47 = .ok (.getfield 9, 3) := by decide +kernel
theorem dX1_cut_50 : decode cX1_cut 50 = .ok (.iload 4, 2) := by decide +kernel
theorem dX1_cut_52 : decode cX1_cut 52 = .ok (.aload_n 0, 1) := by decide +kernel
theorem dX1_cut_53 : decode cX1_cut 53 = .ok (.getfield 51, 3) := by decide +kernel
theorem dX1_cut_56 : decode cX1_cut 56 = .ok (.iconst 1, 1) := by decide +kernel
theorem dX1_cut_57 : decode cX1_cut 57 = .ok (.isub, 1) := by decide +kernel
theorem dX1_cut_58 : decode cX1_cut 58 = .ok (.invokestatic 54, 3) := by decide +kernel
theorem dX1_cut_61 : decode cX1_cut 61 = .ok (.aload_n 0, 1) := by decide +kernel
theorem dX1_cut_62 : decode cX1_cut 62 = .ok (.getfield 18, 3) := by decide +kernel
theorem dX1_cut_65 : decode cX1_cut 65 = .ok (.aload_n 0, 1) := by decide +kernel
theorem dX1_cut_66 : decode cX1_cut 66 = .ok (.getfield 51, 3) := by decide +kernel
theorem dX1_cut_69 : decode cX1_cut 69 = .ok (.iconst 1, 1) := by decide +kernel
theorem dX1_cut_70 : decode cX1_cut 70 = .ok (.isub, 1) := by decide +kernel
theorem dX1_cut_71 : decode cX1_cut 71 = .ok (.iload 4, 2) := by decide +kernel
theorem dX1_cut_73 : decode cX1_cut 73 = .ok (.invokestatic 54, 3) := by decide +kernel
theorem dX1_cut_76 : decode cX1_cut 76 = .ok (.iinc 4 1, 3) := by decide +kernel
theorem dX1_cut_79 : decode cX1_cut 79 = .ok (.goto (-71), 3) := by decide +kernel
theorem dX1_cut_82 : decode cX1_cut 82 = .ok (.return_, 1) := by decide +kernel
theorem dX1_join_0 : decode cX1_join 0 = .ok (.iload_n 2, 1) := by decide +kernel
theorem dX1_join_1 : decode cX1_join 1 = .ok (.iload_n 3, 1) := by decide +kernel
theorem dX1_join_2 : decode cX1_join 2 = .ok (.if_icmp .ge 14, 3) := by decide +kernel
theorem dX1_join_5 : decode cX1_join 5 = .ok (.aload_n 0, 1) := by decide +kernel
theorem dX1_join_6 : decode cX1_join 6 = .ok (.getfield 9, 3) := by decide +kernel
theorem dX1_join_9 : decode cX1_join 9 = .ok (.iload_n 2, 1) := by decide +kernel
theorem dX1_join_10 : decode cX1_join 10 = .ok (.invokestatic 80, 3) := by decide +kernel
theorem dX1_join_13 : decode cX1_join 13 = .ok (.goto 5, 3) := by decide +kernel
theorem dX1_join_16 : decode cX1_join 16 = .ok (.bipush 40, 2) := by decide +kernel
theorem dX1_join_18 : decode cX1_join 18 = .ok (.istore 4, 2) := by decide +kernel
theorem dX1_join_20 : decode cX1_join 20 = .ok (.aload_n 0, 1) := by decide +kernel
theorem dX1_join_21 : decode cX1_join 21 = .ok (.getfield 30, 3) := by decide +kernel
theorem dX1_join_24 : decode cX1_join 24 = .ok (.iload_n 1, 1) := by decide +kernel
theorem dX1_join_25 : decode cX1_join 25 = .ok (.invokestatic 99, 3) := by decide +kernel
theorem dX1_join_28 : decode cX1_join 28 = .ok (.lstore 5, 2) := by decide +kernel
theorem dX1_join_30 : decode cX1_join 30 = .ok (.lload 5, 2) := by decide +kernel
theorem dX1_join_32 : decode cX1_join 32 = .ok (.iload 4, 2) := by decide +kernel
theorem dX1_join_34 : decode cX1_join 34 = .ok (.invokestatic 91, 3) := by decide +kernel
theorem dX1_join_37 : decode cX1_join 37 = .ok (.ifCond .eq 4, 3) := by decide +kernel
theorem dX1_join_40 : decode cX1_join 40 = .ok (.return_, 1) := by decide +kernel
theorem dX1_join_41 : decode cX1_join 41 = .ok (.aload_n 0, 1) := by decide +kernel
theorem dX1_join_42 : decode cX1_join 42 = .ok (.getfield 30, 3) := by decide +kernel
theorem dX1_join_45 : decode cX1_join 45 = .ok (.iload_n 1, 1) := by decide +kernel
theorem dX1_join_46 : decode cX1_join 46 = .ok (.lload 5, 2) := by decide +kernel
theorem dX1_join_48 : decode cX1_join 48 = .ok (.iload 4, 2) := by decide +kernel
theorem dX1_join_50 : decode cX1_join 50 = .ok (.invokestatic 65, 3) := by decide +kernel
theorem dX1_join_53 : decode cX1_join 53 = .ok (.lor, 1) := by decide +kernel
theorem dX1_join_54 : decode cX1_join 54 = .ok (.invokestatic 58, 3) := by decide +kernel
theorem dX1_join_57 : decode cX1_join 57 = .ok (.aload_n 0, 1) := by decide +kernel
theorem dX1_join_58 : decode cX1_join 58 = .ok (.getfield 21, 3) := by decide +kernel
theorem dX1_join_61 : decode cX1_join 61 = .ok (.aload_n 0, 1) := by decide +kernel
theorem dX1_join_62 : decode cX1_join 62 = .ok (.getfield 48, 3) := by decide +kernel
theorem dX1_join_65 : decode cX1_join 65 = .ok (.iload_n 1, 1) := by decide +kernel
theorem dX1_join_66 : decode cX1_join 66 = .ok (.invokestatic 54, 3) := by decide +kernel
theorem dX1_join_69 : decode cX1_join 69 = .ok (.aload_n 0, 1) := by decide +kernel
theorem dX1_join_70 : decode cX1_join 70 = .ok (.getfield 24, 3) := by decide +kernel
theorem dX1_join_73 : decode cX1_join 73 = .ok (.aload_n 0, 1) := by decide +kernel
theorem dX1_join_74 : decode cX1_join 74 = .ok (.getfield 48, 3) := by decide +kernel
theorem dX1_join_77 : decode cX1_join 77 = .ok (.iload 4, 2) := by decide +kernel
theorem dX1_join_79 : decode cX1_join 79 = .ok (.bipush 40, 2) := by decide +kernel
theorem dX1_join_81 : decode cX1_join 81 = .ok (.if_icmp .ne 7, 3) := by decide +kernel
theorem dX1_join_84 : decode cX1_join 84 = .ok (.iconst (-1), 1) := by decide +kernel
theorem dX1_join_85 : decode cX1_join 85 = .ok (.goto 5, 3) := by decide +kernel
theorem dX1_join_88 : decode cX1_join 88 = .ok (.iload 4, 2) := by decide +kernel
theorem dX1_join_90 : decode cX1_join 90 = .ok (.invokestatic 54, 3) := by decide +kernel
theorem dX1_join_93 : decode cX1_join 93 = .ok (.aload_n 0, 1) := by decide +kernel
theorem dX1_join_94 : decode cX1_join 94 = .ok (.dup, 1) := by decide +kernel
theorem dX1_join_95 : decode cX1_join 95 = .ok (.getfield 48, 3) := by decide +kernel
theorem dX1_join_98 : decode cX1_join 98 = .ok (.iconst 1, 1) := by decide +kernel
theorem dX1_join_99 : decode cX1_join 99 = .ok (.iadd, 1) := by decide +kernel
theorem dX1_join_100 : decode cX1_join 100 = .ok (.putfield 48, 3) := by decide +kernel
theorem dX1_join_103 : decode cX1_join 103 = .ok (.return_, 1) := by decide +kernel
theorem dX1_leave_0 : decode cX1_leave 0 = .ok (.aload_n 0, 1) := by decide +kernel
theorem dX1_leave_1 : decode cX1_leave 1 = .ok (.getfield 18, 3) := by decide +kernel
theorem dX1_leave_4 : decode cX1_leave 4 = .ok (.iload_n 2, 1) := by decide +kernel
theorem dX1_leave_5 : decode cX1_leave 5 = .ok (.invokestatic 80, 3) := by decide +kernel
theorem dX1_leave_8 : decode cX1_leave 8 = .ok (.istore_n 3, 1) := by decide +kernel
theorem dX1_leave_9 : decode cX1_leave 9 = .ok (.aload_n 1, 1) := by decide +kernel
theorem dX1_leave_10 : decode cX1_leave 10 = .ok (.getfield 77, 3) := by decide +kernel
theorem dX1_leave_13 : decode cX1_leave 13 = .ok (.iload_n 3, 1) := by decide +kernel
theorem dX1_leave_14 : decode cX1_leave 14 = .ok (.invokestatic 80, 3) := by decide +kernel
theorem dX1_leave_17 : decode cX1_leave 17 = .ok (.istore 4, 2) := by decide +kernel
theorem dX1_leave_19 : decode cX1_leave 19 = .ok (.iload 4, 2) := by decide +kernel
theorem dX1_leave_21 : decode cX1_leave 21 = .ok (.ifCond .eq 9, 3) := by decide +kernel
theorem dX1_leave_24 : decode cX1_leave 24 = .ok (.iload 4, 2) := by decide +kernel
theorem dX1_leave_26 : decode cX1_leave 26 = .ok (.iconst 1, 1) := by decide +kernel
theorem dX1_leave_27 : decode cX1_leave 27 = .ok (.if_icmp .ne 15, 3) := by decide +kernel
theorem dX1_leave_30 : decode cX1_leave 30 = .ok (.aload_n 0, 1) := by decide +kernel
theorem dX1_leave_31 : decode cX1_leave 31 = .ok (.iload_n 2, 1) := by decide +kernel
theorem dX1_leave_32 : decode cX1_leave 32 = .ok (.iload_n 3, 1) := by decide +kernel
theorem dX1_leave_33 : decode cX1_leave 33 = .ok (.iconst 1, 1) := by decide +kernel
theorem dX1_leave_34 : decode cX1_leave 34 = .ok (.iadd, 1) := by decide +kernel
theorem dX1_leave_35 : decode cX1_leave 35 = .ok (.aload_n 1, 1) := by decide +kernel
theorem dX1_leave_36 : decode cX1_leave 36 = .ok (.getfield 34, 3) := by decide +kernel
theorem dX1_leave_39 : decode cX1_leave 39 = .ok (.invokevirtual 95, 3) := by decide +kernel
theorem dX1_leave_42 : decode cX1_leave 42 = .ok (.iload 4, 2) := by decide +kernel
theorem dX1_leave_44 : decode cX1_leave 44 = .ok (.invokestatic 84, 3) := by decide +kernel
theorem dX1_leave_47 : decode cX1_leave 47 = .ok (.ifCond .eq 20, 3) := by decide +kernel
theorem dX1_leave_50 : decode cX1_leave 50 = .ok (.aload_n 0, 1) := by decide +kernel
theorem dX1_leave_51 : decode cX1_leave 51 = .ok (.iload_n 2, 1) := by decide +kernel
theorem dX1_leave_52 : decode cX1_leave 52 = .ok (.aload_n 1, 1) := by decide +kernel
theorem dX1_leave_53 : decode cX1_leave 53 = .ok (.getfield 88, 3) := by decide +kernel
theorem dX1_leave_56 : decode cX1_leave 56 = .ok (.iload_n 3, 1) := by decide +kernel
theorem dX1_leave_57 : decode cX1_leave 57 = .ok (.invokestatic 80, 3) := by decide +kernel
theorem dX1_leave_60 : decode cX1_leave 60 = .ok (.aload_n 1, 1) := by decide +kernel
theorem dX1_leave_61 : decode cX1_leave 61 = .ok (.getfield 34, 3) := by decide +kernel
theorem dX1_leave_64 : decode cX1_leave 64 = .ok (.invokevirtual 95, 3) := by decide +kernel
theorem dX1_leave_67 : decode cX1_leave 67 = .ok (.iload 4, 2) := by decide +kernel
theorem dX1_leave_69 : decode cX1_leave 69 = .ok (.iconst 3, 1) := by decide +kernel
theorem dX1_leave_70 : decode cX1_leave 70 = .ok (.if_icmp .ne 16, 3) := by decide +kernel
theorem dX1_leave_73 : decode cX1_leave 73 = .ok (.aload_n 0, 1) := by decide +kernel
theorem dX1_leave_74 : decode cX1_leave 74 = .ok (.iload_n 2, 1) := by decide +kernel
theorem dX1_leave_75 : decode cX1_leave 75 = .ok (.aload_n 1, 1) := by decide +kernel
theorem dX1_leave_76 : decode cX1_leave 76 = .ok (.getfield 34, 3) := by decide +kernel
theorem dX1_leave_79 : decode cX1_leave 79 = .ok (.aload_n 1, 1) := by decide +kernel
theorem dX1_leave_80 : decode cX1_leave 80 = .ok (.getfield 34, 3) := by decide +kernel
theorem dX1_leave_83 : decode cX1_leave 83 = .ok (.invokevirtual 95, 3) := by decide +kernel
theorem dX1_leave_86 : decode cX1_leave 86 = .ok (.return_, 1) := by decide +kernel
theorem dX1_part_0 : decode cX1_part 0 = .ok (.aload_n 0, 1) := by decide +kernel
theorem dX1_part_1 : decode cX1_part 1 = .ok (.aload_n 1, 1) := by decide +kernel
theorem dX1_part_2 : decode cX1_part 2 = .ok (.getfield 34, 3) := by decide +kernel
theorem dX1_part_5 : decode cX1_part 5 = .ok (.aload_n 1, 1) := by decide +kernel
theorem dX1_part_6 : decode cX1_part 6 = .ok (.invokestatic 40, 3) := by decide +kernel
theorem dX1_part_9 : decode cX1_part 9 = .ok (.invokevirtual 44, 3) := by decide +kernel
theorem dX1_part_12 : decode cX1_part 12 = .ok (.aload_n 0, 1) := by decide +kernel
theorem dX1_part_13 : decode cX1_part 13 = .ok (.iconst 0, 1) := by decide +kernel
theorem dX1_part_14 : decode cX1_part 14 = .ok (.putfield 48, 3) := by decide +kernel
theorem dX1_part_17 : decode cX1_part 17 = .ok (.iconst 0, 1) := by decide +kernel
theorem dX1_part_18 : decode cX1_part 18 = .ok (.istore_n 2, 1) := by decide +kernel
theorem dX1_part_19 : decode cX1_part 19 = .ok (.iload_n 2, 1) := by decide +kernel
theorem dX1_part_20 : decode cX1_part 20 = .ok (.aload_n 0, 1) := by decide +kernel
theorem dX1_part_21 : decode cX1_part 21 = .ok (.getfield 51, 3) := by decide +kernel
theorem dX1_part_24 : decode cX1_part 24 = .ok (.if_icmp .ge 36, 3) := by decide +kernel
theorem dX1_part_27 : decode cX1_part 27 = .ok (.aload_n 0, 1) := by decide +kernel
theorem dX1_part_28 : decode cX1_part 28 = .ok (.getfield 27, 3) := by decide +kernel
theorem dX1_part_31 : decode cX1_part 31 = .ok (.iload_n 2, 1) := by decide +kernel
theorem dX1_part_32 : decode cX1_part 32 = .ok (.aload_n 0, 1) := by decide +kernel
theorem dX1_part_33 : decode cX1_part 33 = .ok (.getfield 48, 3) := by decide +kernel
theorem dX1_part_36 : decode cX1_part 36 = .ok (.invokestatic 54, 3) := by decide +kernel
theorem dX1_part_39 : decode cX1_part 39 = .ok (.aload_n 0, 1) := by decide +kernel
theorem dX1_part_40 : decode cX1_part 40 = .ok (.getfield 30, 3) := by decide +kernel
theorem dX1_part_43 : decode cX1_part 43 = .ok (.iload_n 2, 1) := by decide +kernel
theorem dX1_part_44 : decode cX1_part 44 = .ok (.lconst 0, 1) := by decide +kernel
theorem dX1_part_45 : decode cX1_part 45 = .ok (.invokestatic 58, 3) := by decide +kernel
theorem dX1_part_48 : decode cX1_part 48 = .ok (.aload_n 0, 1) := by decide +kernel
theorem dX1_part_49 : decode cX1_part 49 = .ok (.aload_n 1, 1) := by decide +kernel
theorem dX1_part_50 : decode cX1_part 50 = .ok (.iload_n 2, 1) := by decide +kernel
theorem dX1_part_51 : decode cX1_part 51 = .ok (.invokevirtual 61, 3) := by decide +kernel
theorem dX1_part_54 : decode cX1_part 54 = .ok (.iinc 2 1, 3) := by decide +kernel
theorem dX1_part_57 : decode cX1_part 57 = .ok (.goto (-38), 3) := by decide +kernel
theorem dX1_part_60 : decode cX1_part 60 = .ok (.aload_n 0, 1) := by decide +kernel
theorem dX1_part_61 : decode cX1_part 61 = .ok (.getfield 27, 3) := by decide +kernel
theorem dX1_part_64 : decode cX1_part 64 = .ok (.aload_n 0, 1) := by decide +kernel
theorem dX1_part_65 : decode cX1_part 65 = .ok (.getfield 51, 3) := by decide +kernel
theorem dX1_part_68 : decode cX1_part 68 = .ok (.aload_n 0, 1) := by decide +kernel
theorem dX1_part_69 : decode cX1_part 69 = .ok (.getfield 48, 3) := by decide +kernel
theorem dX1_part_72 : decode cX1_part 72 = .ok (.invokestatic 54, 3) := by decide +kernel
theorem dX1_part_75 : decode cX1_part 75 = .ok (.aload_n 0, 1) := by decide +kernel
theorem dX1_part_76 : decode cX1_part 76 = .ok (.aload_n 0, 1) := by decide +kernel
theorem dX1_part_77 : decode cX1_part 77 = .ok (.getfield 51, 3) := by decide +kernel
theorem dX1_part_80 : decode cX1_part 80 = .ok (.ifCond .le 19, 3) := by decide +kernel
theorem dX1_part_83 : decode cX1_part 83 = .ok (.aload_n 0, 1) := by decide +kernel
theorem dX1_part_84 : decode cX1_part 84 = .ok (.getfield 30, 3) := by decide +kernel
theorem dX1_part_87 : decode cX1_part 87 = .ok (.lconst 1, 1) := by decide +kernel
theorem dX1_part_88 : decode cX1_part 88 = .ok (.bipush 40, 2) := by decide +kernel
theorem dX1_part_90 : decode cX1_part 90 = .ok (.invokestatic 65, 3) := by decide +kernel
theorem dX1_part_93 : decode cX1_part 93 = .ok (.invokestatic 69, 3) := by decide +kernel
theorem dX1_part_96 : decode cX1_part 96 = .ok (.goto 4, 3) := by decide +kernel
theorem dX1_part_99 : decode cX1_part 99 = .ok (.lconst 0, 1) := by decide +kernel
theorem dX1_part_100 : decode cX1_part 100 = .ok (.putfield 73, 3) := by decide +kernel
theorem dX1_part_103 : decode cX1_part 103 = .ok (.return_, 1) := by decide +kernel
theorem dX1_countWindings_0 : decode cX1_countWindings 0 = .ok (.aload_n 0, 1) := by decide +kernel
theorem dX1_countWindings_1 : decode cX1_countWindings 1 = .ok (.getfield 51, 3) := by decide +kernel
theorem dX1_countWindings_4 : decode cX1_countWindings 4 = .ok (.ifCond .ne 5, 3) := by decide +kernel
theorem dX1_countWindings_7 : decode cX1_countWindings 7 = .ok (.iconst 0, 1) := by decide +kernel
theorem dX1_countWindings_8 : decode cX1_countWindings 8 = .ok (.ireturn, 1) := by decide +kernel
theorem dX1_countWindings_9 : decode cX1_countWindings 9 = .ok (.iconst 0, 1) := by decide +kernel
theorem dX1_countWindings_10 : decode cX1_countWindings 10 = .ok (.istore_n 1, 1) := by decide +kernel
theorem dX1_countWindings_11 : decode cX1_countWindings 11 = .ok (.iconst 0, 1) := by decide +kernel
theorem dX1_countWindings_12 : decode cX1_countWindings 12 = .ok (.istore_n 2, 1) := by decide +kernel
theorem dX1_countWindings_13 : decode cX1_countWindings 13 = .ok (.iload_n 2, 1) := by decide +kernel
theorem dX1_countWindings_14 : decode cX1_countWindings 14 = .ok (.aload_n 0, 1) := by decide +kernel
theorem dX1_countWindings_15 : decode cX1_countWindings 15 = .ok (.getfield 48, 3) := by decide +kernel
theorem dX1_countWindings_18 : decode cX1_countWindings 18 = .ok (.if_icmp .ge 30, 3) := by decide +kernel
theorem dX1_countWindings_21 : decode cX1_countWindings 21 = .ok (.aload_n 0, 1) := by decide +kernel
theorem dX1_countWindings_22 : decode cX1_countWindings 22 = .ok (.getfield 73, 3) := by decide +kernel
theorem dX1_countWindings_25 : decode cX1_countWindings 25 = .ok (.aload_n 0, 1) := by decide +kernel
theorem dX1_countWindings_26 : decode cX1_countWindings 26 = .ok (.getfield 21, 3) := by decide +kernel
theorem dX1_countWindings_29 : decode cX1_countWindings 29 = .ok (.iload_n 2, 1) := by decide +kernel
theorem dX1_countWindings_30 : decode cX1_countWindings 30 = .ok (.invokestatic 80, 3) := by decide +kernel
theorem dX1_countWindings_33 : decode cX1_countWindings 33 = .ok (.invokestatic 91, 3) := by decide +kernel
theorem dX1_countWindings_36 : decode cX1_countWindings 36 = .ok (.ifCond .eq 6, 3) := by decide +kernel
theorem dX1_countWindings_39 : decode cX1_countWindings 39 = .ok (.iinc 1 1, 3) := by decide +kernel
theorem dX1_countWindings_42 : decode cX1_countWindings 42 = .ok (.iinc 2 1, 3) := by decide +kernel
theorem dX1_countWindings_45 : decode cX1_countWindings 45 = .ok (.goto (-32), 3) := by decide +kernel
theorem dX1_countWindings_48 : decode cX1_countWindings 48 = .ok (.iload_n 1, 1) := by decide +kernel
theorem dX1_countWindings_49 : decode cX1_countWindings 49 = .ok (.aload_n 0, 1) := by decide +kernel
theorem dX1_countWindings_50 : decode cX1_countWindings 50 = .ok (.getfield 73, 3) := by decide +kernel
theorem dX1_countWindings_53 : decode cX1_countWindings 53 = .ok (.invokestatic 102, 3) := by decide +kernel
theorem dX1_countWindings_56 : decode cX1_countWindings 56 = .ok (.isub, 1) := by decide +kernel
theorem dX1_countWindings_57 : decode cX1_countWindings 57 = .ok (.iconst 1, 1) := by decide +kernel
theorem dX1_countWindings_58 : decode cX1_countWindings 58 = .ok (.isub, 1) := by decide +kernel
theorem dX1_countWindings_59 : decode cX1_countWindings 59 = .ok (.iconst 2, 1) := by decide +kernel
theorem dX1_countWindings_60 : decode cX1_countWindings 60 = .ok (.iadd, 1) := by decide +kernel
theorem dX1_countWindings_61 : decode cX1_countWindings 61 = .ok (.ireturn, 1) := by decide +kernel
theorem mw_73 : Cond.constantLong RX7 355 (-1) ∈ GW := gw_mem (inT2 _ (List.mem_of_getElem? (i := 140) rfl)) rfl
theorem mw_74 : Cond.code yX7_lowest cX7_lowest 2 (some Jvm.ClassFile.FieldType.int) ∈ GW := gw_mem (inT2 _ (List.mem_of_getElem? (i := 143) rfl)) rfl
theorem mw_75 : Cond.methodLink RX7 357 yX7_lowest ∈ GW := gw_mem (inT2 _ (List.mem_of_getElem? (i := 141) rfl)) rfl
theorem mw_76 : Cond.static yX7_lowest ∈ GW := gw_mem (inT2 _ (List.mem_of_getElem? (i := 142) rfl)) rfl
theorem mw_77 : Cond.initialized RX7 ∈ GW := gw_mem (inT1 _ (List.mem_of_getElem? (i := 1) rfl)) rfl
theorem mw_78 : Cond.code yX7_bit cX7_bit 1 (some Jvm.ClassFile.FieldType.long) ∈ GW := gw_mem (inT2 _ (List.mem_of_getElem? (i := 109) rfl)) rfl
theorem mw_79 : Cond.methodLink RX7 360 yX7_bit ∈ GW := gw_mem (inT2 _ (List.mem_of_getElem? (i := 150) rfl)) rfl
theorem mw_80 : Cond.static yX7_bit ∈ GW := gw_mem (inT2 _ (List.mem_of_getElem? (i := 108) rfl)) rfl
theorem mw_81 : Cond.code yX7_at_ cX7_at_ 2 (some Jvm.ClassFile.FieldType.long) ∈ GW := gw_mem (inT2 _ (List.mem_of_getElem? (i := 136) rfl)) rfl
theorem mw_82 : Cond.methodLink RX7 185 yX7_at_ ∈ GW := gw_mem (inT2 _ (List.mem_of_getElem? (i := 151) rfl)) rfl
theorem mw_83 : Cond.static yX7_at_ ∈ GW := gw_mem (inT2 _ (List.mem_of_getElem? (i := 135) rfl)) rfl
theorem mw_84 : Cond.code yX7_at cX7_at 2 (some Jvm.ClassFile.FieldType.int) ∈ GW := gw_mem (inT2 _ (List.mem_of_getElem? (i := 106) rfl)) rfl
theorem mw_85 : Cond.static yX7_at ∈ GW := gw_mem (inT2 _ (List.mem_of_getElem? (i := 105) rfl)) rfl
theorem mw_86 : Cond.code yX7_jumps cX7_jumps 1 (some Jvm.ClassFile.FieldType.boolean) ∈ GW := gw_mem (inT2 _ (List.mem_of_getElem? (i := 112) rfl)) rfl
theorem mw_87 : Cond.static yX7_jumps ∈ GW := gw_mem (inT2 _ (List.mem_of_getElem? (i := 111) rfl)) rfl
theorem mw_88 : Cond.fieldLink RX1 51 "OrielChart$Flow" "blockCount" "I" ∈ GW := gw_mem (inT1 _ (List.mem_of_getElem? (i := 84) rfl)) rfl
theorem mw_89 : Cond.code yX7_has cX7_has 3 (some Jvm.ClassFile.FieldType.boolean) ∈ GW := gw_mem (inT2 _ (List.mem_of_getElem? (i := 119) rfl)) rfl
theorem mw_90 : Cond.static yX7_has ∈ GW := gw_mem (inT2 _ (List.mem_of_getElem? (i := 118) rfl)) rfl
theorem mw_91 : Cond.fieldLink RX1 9 "OrielChart$Flow" "home" "[I" ∈ GW := gw_mem (inT1 _ (List.mem_of_getElem? (i := 64) rfl)) rfl
theorem mw_92 : Cond.code yX7_put cX7_put 3 (none : Option FieldType) ∈ GW := gw_mem (inT2 _ (List.mem_of_getElem? (i := 122) rfl)) rfl
theorem mw_93 : Cond.static yX7_put ∈ GW := gw_mem (inT2 _ (List.mem_of_getElem? (i := 121) rfl)) rfl
theorem mw_94 : Cond.fieldLink RX1 18 "OrielChart$Flow" "last" "[I" ∈ GW := gw_mem (inT1 _ (List.mem_of_getElem? (i := 69) rfl)) rfl
theorem mw_95 : Cond.fieldLink RX1 15 "OrielChart$Flow" "first" "[I" ∈ GW := gw_mem (inT1 _ (List.mem_of_getElem? (i := 66) rfl)) rfl
theorem mw_96 : Cond.fieldLink RX1 30 "OrielChart$Flow" "next" "[J" ∈ GW := gw_mem (inT1 _ (List.mem_of_getElem? (i := 80) rfl)) rfl
theorem mw_97 : Cond.code yX7_put_ cX7_put_ 4 (none : Option FieldType) ∈ GW := gw_mem (inT2 _ (List.mem_of_getElem? (i := 125) rfl)) rfl
theorem mw_98 : Cond.static yX7_put_ ∈ GW := gw_mem (inT2 _ (List.mem_of_getElem? (i := 124) rfl)) rfl
theorem mw_99 : Cond.fieldLink RX1 21 "OrielChart$Flow" "from" "[I" ∈ GW := gw_mem (inT1 _ (List.mem_of_getElem? (i := 71) rfl)) rfl
theorem mw_100 : Cond.fieldLink RX1 48 "OrielChart$Flow" "edgeCount" "I" ∈ GW := gw_mem (inT1 _ (List.mem_of_getElem? (i := 90) rfl)) rfl
theorem mw_101 : Cond.fieldLink RX1 24 "OrielChart$Flow" "to" "[I" ∈ GW := gw_mem (inT1 _ (List.mem_of_getElem? (i := 74) rfl)) rfl
theorem mw_102 : Cond.code yX1_join cX1_join 7 (none : Option FieldType) ∈ GW := gw_mem (inT2 _ (List.mem_of_getElem? (i := 133) rfl)) rfl
theorem mw_103 : Cond.methodLink RX1 95 yX1_join ∈ GW := gw_mem (inT2 _ (List.mem_of_getElem? (i := 130) rfl)) rfl
theorem mw_104 : Cond.instanceMethod yX1_join ∈ GW := gw_mem (inT2 _ (List.mem_of_getElem? (i := 132) rfl)) rfl
theorem mw_105 : Cond.selects RX1 yX1_join yX1_join ∈ GW := gw_mem (inTp (q := (yX1_join, 11)) (List.mem_of_getElem? (i := 4) rfl)) rfl
theorem mw_106 : Cond.initialized RX1 ∈ GW := gw_mem (inT1 _ (List.mem_of_getElem? (i := 3) rfl)) rfl
theorem mw_107 : Cond.code yX1_leadersOf cX1_leadersOf 5 (some Jvm.ClassFile.FieldType.long) ∈ GW := gw_mem (inT2 _ (List.mem_of_getElem? (i := 103) rfl)) rfl
theorem mw_108 : Cond.methodLink RX1 40 yX1_leadersOf ∈ GW := gw_mem (inT2 _ (List.mem_of_getElem? (i := 101) rfl)) rfl
theorem mw_109 : Cond.static yX1_leadersOf ∈ GW := gw_mem (inT2 _ (List.mem_of_getElem? (i := 102) rfl)) rfl
theorem mw_110 : Cond.code yX1_cut cX1_cut 5 (none : Option FieldType) ∈ GW := gw_mem (inT2 _ (List.mem_of_getElem? (i := 116) rfl)) rfl
theorem mw_111 : Cond.methodLink RX1 44 yX1_cut ∈ GW := gw_mem (inT2 _ (List.mem_of_getElem? (i := 113) rfl)) rfl
theorem mw_112 : Cond.instanceMethod yX1_cut ∈ GW := gw_mem (inT2 _ (List.mem_of_getElem? (i := 115) rfl)) rfl
theorem mw_113 : Cond.selects RX1 yX1_cut yX1_cut ∈ GW := gw_mem (inTp (q := (yX1_cut, 11)) (List.mem_of_getElem? (i := 2) rfl)) rfl
theorem mw_114 : Cond.fieldLink RX1 27 "OrielChart$Flow" "firstEdge" "[I" ∈ GW := gw_mem (inT1 _ (List.mem_of_getElem? (i := 78) rfl)) rfl
theorem mw_115 : Cond.fieldLink RX1 73 "OrielChart$Flow" "reached" "J" ∈ GW := gw_mem (inT1 _ (List.mem_of_getElem? (i := 96) rfl)) rfl
theorem mw_116 : Cond.code yX7_spread cX7_spread 13 (some Jvm.ClassFile.FieldType.long) ∈ GW := gw_mem (inT2 _ (List.mem_of_getElem? (i := 139) rfl)) rfl
theorem mw_117 : Cond.static yX7_spread ∈ GW := gw_mem (inT2 _ (List.mem_of_getElem? (i := 138) rfl)) rfl
theorem mw_118 : Cond.code yX1_leave cX1_leave 5 (none : Option FieldType) ∈ GW := gw_mem (inT2 _ (List.mem_of_getElem? (i := 129) rfl)) rfl
theorem mw_119 : Cond.methodLink RX1 61 yX1_leave ∈ GW := gw_mem (inT2 _ (List.mem_of_getElem? (i := 126) rfl)) rfl
theorem mw_120 : Cond.instanceMethod yX1_leave ∈ GW := gw_mem (inT2 _ (List.mem_of_getElem? (i := 128) rfl)) rfl
theorem mw_121 : Cond.selects RX1 yX1_leave yX1_leave ∈ GW := gw_mem (inTp (q := (yX1_leave, 11)) (List.mem_of_getElem? (i := 3) rfl)) rfl
theorem mw_122 : Cond.methodLink RX1 102 yJ13_bitCount_95d88 ∈ GW := gw_mem (inT3 _ (List.mem_of_getElem? (i := 130) rfl)) rfl
theorem pd_X7_lowest : yX7_lowest.cls ≠ "java/lang/invoke/MethodHandle" ∧ yX7_lowest.cls ≠ "java/lang/invoke/VarHandle" ∧ (parseMethodDescriptor yX7_lowest.desc).map (fun d => d.parameters.length) = some 1 := by decide +kernel
theorem pd_X7_bit : yX7_bit.cls ≠ "java/lang/invoke/MethodHandle" ∧ yX7_bit.cls ≠ "java/lang/invoke/VarHandle" ∧ (parseMethodDescriptor yX7_bit.desc).map (fun d => d.parameters.length) = some 1 := by decide +kernel
theorem pd_X7_at_ : yX7_at_.cls ≠ "java/lang/invoke/MethodHandle" ∧ yX7_at_.cls ≠ "java/lang/invoke/VarHandle" ∧ (parseMethodDescriptor yX7_at_.desc).map (fun d => d.parameters.length) = some 2 := by decide +kernel
theorem pd_X7_at : yX7_at.cls ≠ "java/lang/invoke/MethodHandle" ∧ yX7_at.cls ≠ "java/lang/invoke/VarHandle" ∧ (parseMethodDescriptor yX7_at.desc).map (fun d => d.parameters.length) = some 2 := by decide +kernel
theorem pd_X7_jumps : yX7_jumps.cls ≠ "java/lang/invoke/MethodHandle" ∧ yX7_jumps.cls ≠ "java/lang/invoke/VarHandle" ∧ (parseMethodDescriptor yX7_jumps.desc).map (fun d => d.parameters.length) = some 1 := by decide +kernel
theorem pd_X7_has : yX7_has.cls ≠ "java/lang/invoke/MethodHandle" ∧ yX7_has.cls ≠ "java/lang/invoke/VarHandle" ∧ (parseMethodDescriptor yX7_has.desc).map (fun d => d.parameters.length) = some 2 := by decide +kernel
theorem pd_X7_put : yX7_put.cls ≠ "java/lang/invoke/MethodHandle" ∧ yX7_put.cls ≠ "java/lang/invoke/VarHandle" ∧ (parseMethodDescriptor yX7_put.desc).map (fun d => d.parameters.length) = some 3 := by decide +kernel
theorem pd_X7_put_ : yX7_put_.cls ≠ "java/lang/invoke/MethodHandle" ∧ yX7_put_.cls ≠ "java/lang/invoke/VarHandle" ∧ (parseMethodDescriptor yX7_put_.desc).map (fun d => d.parameters.length) = some 3 := by decide +kernel
theorem pdv_X1_join : yX1_join.cls = RX1 ∧ yX1_join.cls ≠ "java/lang/invoke/MethodHandle" ∧ yX1_join.cls ≠ "java/lang/invoke/VarHandle" ∧ (parseMethodDescriptor yX1_join.desc).map (fun d => d.parameters.length) = some 3 := by decide +kernel
theorem pd_X1_leadersOf : yX1_leadersOf.cls ≠ "java/lang/invoke/MethodHandle" ∧ yX1_leadersOf.cls ≠ "java/lang/invoke/VarHandle" ∧ (parseMethodDescriptor yX1_leadersOf.desc).map (fun d => d.parameters.length) = some 1 := by decide +kernel
theorem pdv_X1_cut : yX1_cut.cls = RX1 ∧ yX1_cut.cls ≠ "java/lang/invoke/MethodHandle" ∧ yX1_cut.cls ≠ "java/lang/invoke/VarHandle" ∧ (parseMethodDescriptor yX1_cut.desc).map (fun d => d.parameters.length) = some 2 := by decide +kernel
theorem pd_X7_spread : yX7_spread.cls ≠ "java/lang/invoke/MethodHandle" ∧ yX7_spread.cls ≠ "java/lang/invoke/VarHandle" ∧ (parseMethodDescriptor yX7_spread.desc).map (fun d => d.parameters.length) = some 3 := by decide +kernel
theorem pdv_X1_leave : yX1_leave.cls = RX1 ∧ yX1_leave.cls ≠ "java/lang/invoke/MethodHandle" ∧ yX1_leave.cls ≠ "java/lang/invoke/VarHandle" ∧ (parseMethodDescriptor yX1_leave.desc).map (fun d => d.parameters.length) = some 2 := by decide +kernel
set_option maxHeartbeats 4000000 in
set_option maxRecDepth 100000 in
theorem c_spread (l : Launch) (D : va_G) (cI cJ : ClassId) (w : va_W) (q0 a : Nat) (f : Nat → Int64) (x y : Int64) (hq : w[q0]? = some (a, .inl (cJ, 40, .inr (.inl f)))) : CT l D (TY cI cJ) yX7_spread (.code yX7_spread cX7_spread 13 (some Jvm.ClassFile.FieldType.long)) 2 0 0 w [.ref a, .long x, .long y] (QL D (TY cI cJ) (fun r u => r = spread f x y ∧ u = w)) := by
  refine ent (by decide) (Nat.le_of_ble_eq_true rfl) ?_
  intro p e s m below meth c ls A hx hb hr hg hown hml hlocks hnm hP hK hD hS hA hN hl
  have hl : lv_has ls 13 [(0, .ref a), (1, .long x), (3, .long y)] := hl
  refine lv_lload_n hx hb dX7_spread_0 rfl (lv_at hl 1 rfl) ?_
  refine lv_lload_n hx hb dX7_spread_1 rfl (lv_at hl 2 rfl) ?_
  refine lv_ldc2 (v := (-1)) hx hb hown (hg _ mw_73) dX7_spread_2 ?_
  refine lv_lxor hx hb dX7_spread_5 ?_
  refine lv_land hx hb dX7_spread_6 ?_
  refine lv_lstore (lv' := [(5, .long (x &&& (y ^^^ (-1)))), (0, .ref a), (1, .long x), (3, .long y)]) hx hb dX7_spread_7 hl (by decide) rfl (fun ls hl => ?_)
  refine lv_lload hx hb dX7_spread_9 (lv_at hl 0 rfl) ?_
  refine lv_lstore (lv' := [(7, .long (x &&& (y ^^^ (-1)))), (5, .long (x &&& (y ^^^ (-1)))), (0, .ref a), (1, .long x), (3, .long y)]) hx hb dX7_spread_11 hl (by decide) rfl (fun ls hl => ?_)
  refine lv_iconst (v := 0) hx hb dX7_spread_13 (by decide) ?_
  refine lv_istore (lv' := [(9, .int 0), (7, .long (x &&& (y ^^^ (-1)))), (5, .long (x &&& (y ^^^ (-1)))), (0, .ref a), (1, .long x), (3, .long y)]) hx hb dX7_spread_14 hl (by decide) rfl (fun ls hl => ?_)
  refine w_loop (σ := Int64 × Int64) (fun (i_1 : Nat) (p_1 : Int64 × Int64) (H : Heap) (locs : List Loc) (ls : Array Slot) => p_1 = (lpW spGo (spStep f y) i_1 ((x &&& (y ^^^ (-1))), (x &&& (y ^^^ (-1))))) ∧ va_P D vwCl w H ∧ va_D A w ∧ va_S A s.heap H locs ∧ lv_has ls 13 [(0, .ref a), (1, .long x), (3, .long y), (5, .long p_1.1), (7, .long p_1.2), (9, .int (nI i_1))]) (41) (fun p_1 H locs ls hI => ?_) (fun i_1 p_1 H locs ls hi_1 hI ih_1 => ?_) 0 ((x &&& (y ^^^ (-1))), (x &&& (y ^^^ (-1)))) (Nat.zero_le _) ⟨rfl, hP, hD, hS, (by rw [nI_0]; exact lv_sub hl [3, 4, 5, 2, 1, 0] rfl)⟩
  · obtain ⟨h_1, hP, hD, hS, hl⟩ := hI
    have h_1 := h_1.symm
    subst h_1
    have hP : va_P D vwCl w H := hP
    have hD : va_D A w := hD
    have hl : lv_has ls 13 [(0, .ref a), (1, .long x), (3, .long y), (5, .long ((lpW spGo (spStep f y) (41) ((x &&& (y ^^^ (-1))), (x &&& (y ^^^ (-1))))).1)), (7, .long ((lpW spGo (spStep f y) (41) ((x &&& (y ^^^ (-1))), (x &&& (y ^^^ (-1))))).2)), (9, .int (nI 41))] := hl
    refine lv_iload hx hb dX7_spread_16 (lv_at hl 5 rfl) ?_
    refine lv_bipush (v := 40) hx hb dX7_spread_18 (by decide) ?_
    refine lv_icmp_gt (tgt := 92) hx hb dX7_spread_20 (by decide) (fun _ => ?_) (fun c_20 => absurd (by decide) c_20)
    refine lv_lload hx hb dX7_spread_92 (lv_at hl 3 rfl) ?_
    exact W.lret (v := ((lpW spGo (spStep f y) (41) ((x &&& (y ^^^ (-1))), (x &&& (y ^^^ (-1))))).1)) hx hb hr (fun t ht hW => ⟨⟨((lpW spGo (spStep f y) (41) ((x &&& (y ^^^ (-1))), (x &&& (y ^^^ (-1))))).1), w, rfl, ⟨(show ((lpW spGo (spStep f y) (41) ((x &&& (y ^^^ (-1))), (x &&& (y ^^^ (-1))))).1) = spread f x y from (by rfl)), rfl⟩, ⟨by rw [ht]; exact hP, va_K.moved hW.alike hK, hD⟩⟩, hS.F ht⟩) hS.2.2 dX7_spread_94
  · obtain ⟨h_1, hP, hD, hS, hl⟩ := hI
    have hP : va_P D vwCl w H := hP
    have hD : va_D A w := hD
    have hl : lv_has ls 13 [(0, .ref a), (1, .long x), (3, .long y), (5, .long p_1.1), (7, .long p_1.2), (9, .int (nI i_1))] := hl
    refine lv_iload hx hb dX7_spread_16 (lv_at hl 5 rfl) ?_
    refine lv_bipush (v := 40) hx hb dX7_spread_18 (by decide) ?_
    refine lv_icmp_gt (tgt := 92) hx hb dX7_spread_20 (by decide) (fun c_20 => absurd c_20 (nI_nlt (Nat.le_of_lt_succ hi_1) (by decide))) (fun _ => ?_)
    refine lv_lload hx hb dX7_spread_23 (lv_at hl 4 rfl) ?_
    refine lv_lconst (v := 0) hx hb dX7_spread_25 (by decide) ?_
    refine W.lcmp hx hb dX7_spread_26 ?_
    refine lv_if_eq (tgt := 92) hx hb dX7_spread_27 (by decide) (fun c_27 => ?_) (fun c_27 => ?_)
    · have c_27 : p_1.2 = 0 := lcmp_0 c_27
      have h_1 : p_1 = (lpW spGo (spStep f y) (41) ((x &&& (y ^^^ (-1))), (x &&& (y ^^^ (-1))))) := lpW_stop h_1 (by first | (simp only [spGo, if_pos c_27, decide_eq_true c_27, decide_eq_false (not_not_intro c_27), gi_sl, gi_sA, gi_sB, gi_si_s, gi_si_n, gl_si, gl_sA, gl_sB, gl_sl_s, gl_sl_n, gA_si, gA_sl, gA_sB, gA_sA_s, gA_sA_n, gB_si, gB_sl, gB_sA, gB_sB_s, gB_sB_n, Nat.reduceBEq, if_true, if_false, eq_self, Bool.false_eq_true, reduceCtorEq, not_true_eq_false, not_false_eq_true, decide_true, decide_false, cond_true, cond_false, Bool.true_and, Bool.false_and, Bool.and_true, Bool.and_false, Bool.true_or, Bool.false_or, Bool.or_true, Bool.or_false, b2i_tt, b2i_ff]; done) | (simp only [spGo, if_pos c_27, decide_eq_true c_27, decide_eq_false (not_not_intro c_27), gi_sl, gi_sA, gi_sB, gi_si_s, gi_si_n, gl_si, gl_sA, gl_sB, gl_sl_s, gl_sl_n, gA_si, gA_sl, gA_sB, gA_sA_s, gA_sA_n, gB_si, gB_sl, gB_sA, gB_sB_s, gB_sB_n, Nat.reduceBEq, if_true, if_false, eq_self, Bool.false_eq_true, reduceCtorEq, not_true_eq_false, not_false_eq_true, decide_true, decide_false, cond_true, cond_false, Bool.true_and, Bool.false_and, Bool.and_true, Bool.and_false, Bool.true_or, Bool.false_or, Bool.or_true, Bool.or_false, b2i_tt, b2i_ff]; rfl) | (simp [spGo, c_27, gi_sl, gi_sA, gi_sB, gi_si_s, gi_si_n, gl_si, gl_sA, gl_sB, gl_sl_s, gl_sl_n, gA_si, gA_sl, gA_sB, gA_sA_s, gA_sA_n, gB_si, gB_sl, gB_sA, gB_sB_s, gB_sB_n, Nat.reduceBEq]; done)) (Nat.le_of_lt hi_1)
      have h_1 := h_1.symm
      subst h_1
      have hP : va_P D vwCl w H := hP
      have hD : va_D A w := hD
      have hl : lv_has ls 13 [(0, .ref a), (1, .long x), (3, .long y), (5, .long ((lpW spGo (spStep f y) (41) ((x &&& (y ^^^ (-1))), (x &&& (y ^^^ (-1))))).1)), (7, .long ((lpW spGo (spStep f y) (41) ((x &&& (y ^^^ (-1))), (x &&& (y ^^^ (-1))))).2)), (9, .int (nI i_1))] := hl
      refine lv_lload hx hb dX7_spread_92 (lv_at hl 3 rfl) ?_
      exact W.lret (v := ((lpW spGo (spStep f y) (41) ((x &&& (y ^^^ (-1))), (x &&& (y ^^^ (-1))))).1)) hx hb hr (fun t ht hW => ⟨⟨((lpW spGo (spStep f y) (41) ((x &&& (y ^^^ (-1))), (x &&& (y ^^^ (-1))))).1), w, rfl, ⟨(show ((lpW spGo (spStep f y) (41) ((x &&& (y ^^^ (-1))), (x &&& (y ^^^ (-1))))).1) = spread f x y from (by rfl)), rfl⟩, ⟨by rw [ht]; exact hP, va_K.moved hW.alike hK, hD⟩⟩, hS.F ht⟩) hS.2.2 dX7_spread_94
    · have c_27 : ¬ p_1.2 = 0 := lcmp_1 c_27
      refine lv_lload hx hb dX7_spread_30 (lv_at hl 4 rfl) ?_
      refine kI (rS hx hb hml hown hg hN hK hP hD (c_lowest l D cI cJ w p_1.2) mw_74 mw_75 mw_76 mw_77 pd_X7_lowest ⟨Nat.le_of_ble_eq_true rfl, Nat.le_of_ble_eq_true rfl⟩ rfl hl.1 rfl (Nat.le_of_ble_eq_true rfl) dX7_spread_32 ⟨Nat.le_of_ble_eq_true rfl, Nat.le_of_ble_eq_true rfl⟩) hD hS hA (fun r_2 u_2 H locs hp hP hD hS => ?_)
      obtain ⟨er, eu⟩ := hp
      obtain rfl := er.symm
      obtain rfl := eu.symm
      refine lv_istore (lv' := [(10, .int (lowest p_1.2)), (0, .ref a), (1, .long x), (3, .long y), (5, .long p_1.1), (7, .long p_1.2), (9, .int (nI i_1))]) hx hb dX7_spread_35 hl (by decide) rfl (fun ls hl => ?_)
      refine lv_lload hx hb dX7_spread_37 (lv_at hl 5 rfl) ?_
      refine lv_iload hx hb dX7_spread_39 (lv_at hl 0 rfl) ?_
      refine kL (rS hx hb hml hown hg hN hK hP hD (c_bit l D cI cJ w (lowest p_1.2)) mw_78 mw_79 mw_80 mw_77 pd_X7_bit ⟨Nat.le_of_ble_eq_true rfl, Nat.le_of_ble_eq_true rfl⟩ rfl hl.1 rfl (Nat.le_of_ble_eq_true rfl) dX7_spread_41 ⟨Nat.le_of_ble_eq_true rfl, Nat.le_of_ble_eq_true rfl⟩) hD hS hA (fun r_3 u_3 H locs hp hP hD hS => ?_)
      obtain ⟨er, eu⟩ := hp
      obtain rfl := er.symm
      obtain rfl := eu.symm
      refine lv_ldc2 (v := (-1)) hx hb hown (hg _ mw_73) dX7_spread_44 ?_
      refine lv_lxor hx hb dX7_spread_47 ?_
      refine lv_land hx hb dX7_spread_48 ?_
      refine lv_lstore (lv' := [(7, .long (p_1.2 &&& ((bitL (lowest p_1.2)) ^^^ (-1)))), (10, .int (lowest p_1.2)), (0, .ref a), (1, .long x), (3, .long y), (5, .long p_1.1), (9, .int (nI i_1))]) hx hb dX7_spread_49 hl (by decide) rfl (fun ls hl => ?_)
      refine lv_aload_n hx hb dX7_spread_51 rfl (lv_at hl 2 rfl) ?_
      refine lv_iload hx hb dX7_spread_52 (lv_at hl 1 rfl) ?_
      refine kL (rS hx hb hml hown hg hN hK hP hD (c_atL l D cI cJ w q0 a 40 f (lowest p_1.2) hq (by decide)) mw_81 mw_82 mw_83 mw_77 pd_X7_at_ ⟨Nat.le_of_ble_eq_true rfl, Nat.le_of_ble_eq_true rfl⟩ rfl hl.1 rfl (Nat.le_of_ble_eq_true rfl) dX7_spread_54 ⟨Nat.le_of_ble_eq_true rfl, Nat.le_of_ble_eq_true rfl⟩) hD hS hA (fun r_4 u_4 H locs hp hP hD hS => ?_)
      obtain ⟨er, eu⟩ := hp
      obtain rfl := er.symm
      obtain rfl := eu.symm
      refine lv_lload hx hb dX7_spread_57 (lv_at hl 5 rfl) ?_
      refine lv_ldc2 (v := (-1)) hx hb hown (hg _ mw_73) dX7_spread_59 ?_
      refine lv_lxor hx hb dX7_spread_62 ?_
      refine lv_land hx hb dX7_spread_63 ?_
      refine lv_lload_n hx hb dX7_spread_64 rfl (lv_at hl 4 rfl) ?_
      refine lv_ldc2 (v := (-1)) hx hb hown (hg _ mw_73) dX7_spread_65 ?_
      refine lv_lxor hx hb dX7_spread_68 ?_
      refine lv_land hx hb dX7_spread_69 ?_
      refine lv_lstore (lv' := [(11, .long (((rdL f 40 (lowest p_1.2)) &&& (p_1.1 ^^^ (-1))) &&& (y ^^^ (-1)))), (7, .long (p_1.2 &&& ((bitL (lowest p_1.2)) ^^^ (-1)))), (10, .int (lowest p_1.2)), (0, .ref a), (1, .long x), (3, .long y), (5, .long p_1.1), (9, .int (nI i_1))]) hx hb dX7_spread_70 hl (by decide) rfl (fun ls hl => ?_)
      refine lv_lload hx hb dX7_spread_72 (lv_at hl 6 rfl) ?_
      refine lv_lload hx hb dX7_spread_74 (lv_at hl 0 rfl) ?_
      refine lv_lor hx hb dX7_spread_76 ?_
      refine lv_lstore (lv' := [(5, .long (p_1.1 ||| (((rdL f 40 (lowest p_1.2)) &&& (p_1.1 ^^^ (-1))) &&& (y ^^^ (-1))))), (11, .long (((rdL f 40 (lowest p_1.2)) &&& (p_1.1 ^^^ (-1))) &&& (y ^^^ (-1)))), (7, .long (p_1.2 &&& ((bitL (lowest p_1.2)) ^^^ (-1)))), (10, .int (lowest p_1.2)), (0, .ref a), (1, .long x), (3, .long y), (9, .int (nI i_1))]) hx hb dX7_spread_77 hl (by decide) rfl (fun ls hl => ?_)
      refine lv_lload hx hb dX7_spread_79 (lv_at hl 2 rfl) ?_
      refine lv_lload hx hb dX7_spread_81 (lv_at hl 1 rfl) ?_
      refine lv_lor hx hb dX7_spread_83 ?_
      refine lv_lstore (lv' := [(7, .long ((p_1.2 &&& ((bitL (lowest p_1.2)) ^^^ (-1))) ||| (((rdL f 40 (lowest p_1.2)) &&& (p_1.1 ^^^ (-1))) &&& (y ^^^ (-1))))), (5, .long (p_1.1 ||| (((rdL f 40 (lowest p_1.2)) &&& (p_1.1 ^^^ (-1))) &&& (y ^^^ (-1))))), (11, .long (((rdL f 40 (lowest p_1.2)) &&& (p_1.1 ^^^ (-1))) &&& (y ^^^ (-1)))), (10, .int (lowest p_1.2)), (0, .ref a), (1, .long x), (3, .long y), (9, .int (nI i_1))]) hx hb dX7_spread_84 hl (by decide) rfl (fun ls hl => ?_)
      refine lv_iinc (v := (nI (i_1 + 1))) (lv' := [(9, .int (nI (i_1 + 1))), (7, .long ((p_1.2 &&& ((bitL (lowest p_1.2)) ^^^ (-1))) ||| (((rdL f 40 (lowest p_1.2)) &&& (p_1.1 ^^^ (-1))) &&& (y ^^^ (-1))))), (5, .long (p_1.1 ||| (((rdL f 40 (lowest p_1.2)) &&& (p_1.1 ^^^ (-1))) &&& (y ^^^ (-1))))), (11, .long (((rdL f 40 (lowest p_1.2)) &&& (p_1.1 ^^^ (-1))) &&& (y ^^^ (-1)))), (10, .int (lowest p_1.2)), (0, .ref a), (1, .long x), (3, .long y)]) hx hb dX7_spread_86 hl (k := 7) rfl (nI_1 i_1) (by decide) rfl (fun ls hl => ?_)
      refine lv_goto (tgt := 16) hx hb dX7_spread_89 (by decide) ?_
      exact ih_1 ((p_1.1 ||| (((rdL f 40 (lowest p_1.2)) &&& (p_1.1 ^^^ (-1))) &&& (y ^^^ (-1)))), ((p_1.2 &&& ((bitL (lowest p_1.2)) ^^^ (-1))) ||| (((rdL f 40 (lowest p_1.2)) &&& (p_1.1 ^^^ (-1))) &&& (y ^^^ (-1))))) H locs ls ⟨((show ((p_1.1 ||| (((rdL f 40 (lowest p_1.2)) &&& (p_1.1 ^^^ (-1))) &&& (y ^^^ (-1)))), ((p_1.2 &&& ((bitL (lowest p_1.2)) ^^^ (-1))) ||| (((rdL f 40 (lowest p_1.2)) &&& (p_1.1 ^^^ (-1))) &&& (y ^^^ (-1))))) = (spStep f y) p_1 from (by first | (simp only [spStep, if_neg c_27, decide_eq_false c_27, decide_eq_true c_27, if_pos c_27, gi_sl, gi_sA, gi_sB, gi_si_s, gi_si_n, gl_si, gl_sA, gl_sB, gl_sl_s, gl_sl_n, gA_si, gA_sl, gA_sB, gA_sA_s, gA_sA_n, gB_si, gB_sl, gB_sA, gB_sB_s, gB_sB_n, Nat.reduceBEq, if_true, if_false, eq_self, Bool.false_eq_true, reduceCtorEq, not_true_eq_false, not_false_eq_true, decide_true, decide_false, cond_true, cond_false, Bool.true_and, Bool.false_and, Bool.and_true, Bool.and_false, Bool.true_or, Bool.false_or, Bool.or_true, Bool.or_false, b2i_tt, b2i_ff]; done) | (simp only [spStep, if_neg c_27, decide_eq_false c_27, decide_eq_true c_27, if_pos c_27, gi_sl, gi_sA, gi_sB, gi_si_s, gi_si_n, gl_si, gl_sA, gl_sB, gl_sl_s, gl_sl_n, gA_si, gA_sl, gA_sB, gA_sA_s, gA_sA_n, gB_si, gB_sl, gB_sA, gB_sB_s, gB_sB_n, Nat.reduceBEq, if_true, if_false, eq_self, Bool.false_eq_true, reduceCtorEq, not_true_eq_false, not_false_eq_true, decide_true, decide_false, cond_true, cond_false, Bool.true_and, Bool.false_and, Bool.and_true, Bool.and_false, Bool.true_or, Bool.false_or, Bool.or_true, Bool.or_false, b2i_tt, b2i_ff]; rfl) | (simp [spStep, c_27, gi_sl, gi_sA, gi_sB, gi_si_s, gi_si_n, gl_si, gl_sA, gl_sB, gl_sl_s, gl_sl_n, gA_si, gA_sl, gA_sB, gA_sA_s, gA_sA_n, gB_si, gB_sl, gB_sA, gB_sB_s, gB_sB_n, Nat.reduceBEq]; done))).trans (lpW_go h_1 (by first | (simp only [spGo, if_neg c_27, decide_eq_false c_27, decide_eq_true c_27, if_pos c_27, gi_sl, gi_sA, gi_sB, gi_si_s, gi_si_n, gl_si, gl_sA, gl_sB, gl_sl_s, gl_sl_n, gA_si, gA_sl, gA_sB, gA_sA_s, gA_sA_n, gB_si, gB_sl, gB_sA, gB_sB_s, gB_sB_n, Nat.reduceBEq, if_true, if_false, eq_self, Bool.false_eq_true, reduceCtorEq, not_true_eq_false, not_false_eq_true, decide_true, decide_false, cond_true, cond_false, Bool.true_and, Bool.false_and, Bool.and_true, Bool.and_false, Bool.true_or, Bool.false_or, Bool.or_true, Bool.or_false, b2i_tt, b2i_ff]; done) | (simp only [spGo, if_neg c_27, decide_eq_false c_27, decide_eq_true c_27, if_pos c_27, gi_sl, gi_sA, gi_sB, gi_si_s, gi_si_n, gl_si, gl_sA, gl_sB, gl_sl_s, gl_sl_n, gA_si, gA_sl, gA_sB, gA_sA_s, gA_sA_n, gB_si, gB_sl, gB_sA, gB_sB_s, gB_sB_n, Nat.reduceBEq, if_true, if_false, eq_self, Bool.false_eq_true, reduceCtorEq, not_true_eq_false, not_false_eq_true, decide_true, decide_false, cond_true, cond_false, Bool.true_and, Bool.false_and, Bool.and_true, Bool.and_false, Bool.true_or, Bool.false_or, Bool.or_true, Bool.or_false, b2i_tt, b2i_ff]; rfl) | (simp [spGo, c_27, gi_sl, gi_sA, gi_sB, gi_si_s, gi_si_n, gl_si, gl_sA, gl_sB, gl_sl_s, gl_sl_n, gA_si, gA_sl, gA_sB, gA_sA_s, gA_sA_n, gB_si, gB_sl, gB_sA, gB_sB_s, gB_sB_n, Nat.reduceBEq]; done)))), hP, hD, hS, lv_sub hl [5, 6, 7, 2, 1, 0] rfl⟩
set_option maxHeartbeats 4000000 in
set_option maxRecDepth 100000 in
theorem c_leadersOf (l : Launch) (D : va_G) (cI cJ : ClassId) (ad : Nat → Nat) (co fl ra li re wa pi : Ob) : CT l D (TY cI cJ) yX1_leadersOf (.code yX1_leadersOf cX1_leadersOf 5 (some Jvm.ClassFile.FieldType.long)) 1 0 0 (XW ad cI cJ co fl ra li re wa pi) [.ref (ad 1)] (QL D (TY cI cJ) (fun r u => r = (leaders co) ∧ u = (XW ad cI cJ co fl ra li re wa pi))) := by
  refine ent (by decide) (Nat.le_of_ble_eq_true rfl) ?_
  intro p e s m below meth c ls A hx hb hr hg hown hml hlocks hnm hP hK hD hS hA hN hl
  have hl : lv_has ls 5 [(0, .ref (ad 1))] := hl
  refine lv_lconst (v := 1) hx hb dX1_leadersOf_0 (by decide) ?_
  refine lv_lstore_n (lv' := [(1, .long 1), (0, .ref (ad 1))]) hx hb dX1_leadersOf_1 rfl hl (by decide) rfl (fun ls hl => ?_)
  refine lv_iconst (v := 0) hx hb dX1_leadersOf_2 (by decide) ?_
  refine lv_istore_n (lv' := [(3, .int 0), (1, .long 1), (0, .ref (ad 1))]) hx hb dX1_leadersOf_3 rfl hl (by decide) rfl (fun ls hl => ?_)
  refine w_loop (σ := Int64) (fun (i_1 : Nat) (p_1 : Int64) (H : Heap) (locs : List Loc) (ls : Array Slot) => p_1 = (lp (leadStep co) i_1 1) ∧ va_P D vwCl (XW ad cI cJ co fl ra li re wa pi) H ∧ va_D A (XW ad cI cJ co fl ra li re wa pi) ∧ va_S A s.heap H locs ∧ lv_has ls 5 [(0, .ref (ad 1)), (1, .long p_1), (3, .int (nI i_1))]) (nN (gi co 0)) (fun p_1 H locs ls hI => ?_) (fun i_1 p_1 H locs ls hi_1 hI ih_1 => ?_) 0 1 (Nat.zero_le _) ⟨rfl, hP, hD, hS, (by rw [nI_0]; exact lv_sub hl [2, 1, 0] rfl)⟩
  · obtain ⟨h_1, hP, hD, hS, hl⟩ := hI
    have h_1 := h_1.symm
    subst h_1
    have hP : va_P D vwCl (XW ad cI cJ co fl ra li re wa pi) H := hP
    have hD : va_D A (XW ad cI cJ co fl ra li re wa pi) := hD
    have hl : lv_has ls 5 [(0, .ref (ad 1)), (1, .long ((lp (leadStep co) (nN (gi co 0)) 1))), (3, .int (nI ((nN (gi co 0)))))] := hl
    refine lv_iload_n hx hb dX1_leadersOf_4 rfl (lv_at hl 2 rfl) ?_
    refine lv_aload_n hx hb dX1_leadersOf_5 rfl (lv_at hl 0 rfl) ?_
    refine va_getN (D := D) (ci := 0) (v := .int (gi co 0)) (C := RX0) (T := TX0) (N := 5) hx hb hg inGX0 hown hK hP 1 rfl rfl 4 (by decide) (hN.use nw_9) (fun _ h9 => h9) rfl dX1_leadersOf_6 ?_
    refine lv_icmp_ge (tgt := 64) hx hb dX1_leadersOf_9 (by decide) (fun _ => ?_) (fun c_9 => absurd (lp_out _) c_9)
    refine lv_lload_n hx hb dX1_leadersOf_64 rfl (lv_at hl 1 rfl) ?_
    exact W.lret (v := ((lp (leadStep co) (nN (gi co 0)) 1))) hx hb hr (fun t ht hW => ⟨⟨((lp (leadStep co) (nN (gi co 0)) 1)), (XW ad cI cJ co fl ra li re wa pi), rfl, ⟨(show (((lp (leadStep co) (nN (gi co 0)) 1)) : Int64) = (leaders co) from (by first | with_reducible rfl | (simp only [leaders, gi_sl, gi_sA, gi_sB, gi_si_s, gi_si_n, gl_si, gl_sA, gl_sB, gl_sl_s, gl_sl_n, gA_si, gA_sl, gA_sB, gA_sA_s, gA_sA_n, gB_si, gB_sl, gB_sA, gB_sB_s, gB_sB_n, Nat.reduceBEq, if_true, if_false, eq_self, Bool.false_eq_true, reduceCtorEq, not_true_eq_false, not_false_eq_true, decide_true, decide_false, cond_true, cond_false, Bool.true_and, Bool.false_and, Bool.and_true, Bool.and_false, Bool.true_or, Bool.false_or, Bool.or_true, Bool.or_false, b2i_tt, b2i_ff]; done) | rfl)), xw_eq rfl rfl rfl rfl rfl rfl rfl⟩, ⟨by rw [ht]; exact hP, va_K.moved hW.alike hK, hD⟩⟩, hS.F ht⟩) hS.2.2 dX1_leadersOf_65
  · obtain ⟨h_1, hP, hD, hS, hl⟩ := hI
    have hP : va_P D vwCl (XW ad cI cJ co fl ra li re wa pi) H := hP
    have hD : va_D A (XW ad cI cJ co fl ra li re wa pi) := hD
    have hl : lv_has ls 5 [(0, .ref (ad 1)), (1, .long p_1), (3, .int (nI i_1))] := hl
    refine lv_iload_n hx hb dX1_leadersOf_4 rfl (lv_at hl 2 rfl) ?_
    refine lv_aload_n hx hb dX1_leadersOf_5 rfl (lv_at hl 0 rfl) ?_
    refine va_getN (D := D) (ci := 0) (v := .int (gi co 0)) (C := RX0) (T := TX0) (N := 5) hx hb hg inGX0 hown hK hP 1 rfl rfl 4 (by decide) (hN.use nw_9) (fun _ h9 => h9) rfl dX1_leadersOf_6 ?_
    refine lv_icmp_ge (tgt := 64) hx hb dX1_leadersOf_9 (by decide) (fun c_9 => absurd c_9 (lp_in hi_1)) (fun _ => ?_)
    refine lv_aload_n hx hb dX1_leadersOf_12 rfl (lv_at hl 0 rfl) ?_
    refine va_getN (D := D) (ci := 0) (v := .ref (ad 8)) (C := RX0) (T := TX0) (N := 5) hx hb hg inGX0 hown hK hP 1 rfl rfl 0 (by decide) (hN.use nw_1) (fun _ h9 => h9) rfl dX1_leadersOf_13 ?_
    refine lv_iload_n hx hb dX1_leadersOf_16 rfl (lv_at hl 2 rfl) ?_
    refine kI (rSN hx hb hml hown hg hN hK hP hD (c_at l D cI cJ (XW ad cI cJ co fl ra li re wa pi) 8 (ad 8) 40 (gA co 0) (nI i_1) rfl (by decide)) mw_84 nw_65 mw_85 mw_77 pd_X7_at ⟨Nat.le_of_ble_eq_true rfl, Nat.le_of_ble_eq_true rfl⟩ rfl hl.1 rfl (Nat.le_of_ble_eq_true rfl) dX1_leadersOf_17 ⟨Nat.le_of_ble_eq_true rfl, Nat.le_of_ble_eq_true rfl⟩) hD hS hA (fun r_2 u_2 H locs hp hP hD hS => ?_)
    obtain ⟨er, eu⟩ := hp
    obtain rfl := er.symm
    obtain rfl := eu.symm
    refine lv_istore (lv' := [(4, .int (rd (gA co 0) 40 (nI i_1))), (0, .ref (ad 1)), (1, .long p_1), (3, .int (nI i_1))]) hx hb dX1_leadersOf_20 hl (by decide) rfl (fun ls hl => ?_)
    refine lv_iload hx hb dX1_leadersOf_22 (lv_at hl 0 rfl) ?_
    refine lv_if_eq (tgt := 36) hx hb dX1_leadersOf_24 (by decide) (fun c_24 => ?_) (fun c_24 => ?_)
    · refine lv_iload hx hb dX1_leadersOf_36 (lv_at hl 0 rfl) ?_
      refine kI (rSN hx hb hml hown hg hN hK hP hD (c_jumps l D cI cJ (XW ad cI cJ co fl ra li re wa pi) (rd (gA co 0) 40 (nI i_1))) mw_86 nw_67 mw_87 mw_77 pd_X7_jumps ⟨Nat.le_of_ble_eq_true rfl, Nat.le_of_ble_eq_true rfl⟩ rfl hl.1 rfl (Nat.le_of_ble_eq_true rfl) dX1_leadersOf_38 ⟨Nat.le_of_ble_eq_true rfl, Nat.le_of_ble_eq_true rfl⟩) hD hS hA (fun r_3 u_3 H locs hp hP hD hS => ?_)
      obtain ⟨er, eu⟩ := hp
      obtain rfl := er.symm
      obtain rfl := eu.symm
      refine lv_if_eq (tgt := 58) hx hb dX1_leadersOf_41 (by decide) (fun c_41 => ?_) (fun c_41 => ?_)
      · have c_41 : ¬ (jmp (rd (gA co 0) 40 (nI i_1))) = true := b2i_0 c_41
        refine lv_iinc (v := (nI (i_1 + 1))) (lv' := [(3, .int (nI (i_1 + 1))), (4, .int (rd (gA co 0) 40 (nI i_1))), (0, .ref (ad 1)), (1, .long p_1)]) hx hb dX1_leadersOf_58 hl (k := 3) rfl (nI_1 i_1) (by decide) rfl (fun ls hl => ?_)
        refine lv_goto (tgt := 4) hx hb dX1_leadersOf_61 (by decide) ?_
        exact ih_1 p_1 H locs ls ⟨((show p_1 = (leadStep co) i_1 p_1 from (by first | (simp only [leadStep, leadA, if_pos c_24, decide_eq_true c_24, decide_eq_false (not_not_intro c_24), if_neg c_41, bf_of c_41, gi_sl, gi_sA, gi_sB, gi_si_s, gi_si_n, gl_si, gl_sA, gl_sB, gl_sl_s, gl_sl_n, gA_si, gA_sl, gA_sB, gA_sA_s, gA_sA_n, gB_si, gB_sl, gB_sA, gB_sB_s, gB_sB_n, Nat.reduceBEq, if_true, if_false, eq_self, Bool.false_eq_true, reduceCtorEq, not_true_eq_false, not_false_eq_true, decide_true, decide_false, cond_true, cond_false, Bool.true_and, Bool.false_and, Bool.and_true, Bool.and_false, Bool.true_or, Bool.false_or, Bool.or_true, Bool.or_false, b2i_tt, b2i_ff]; done) | (simp only [leadStep, leadA, if_pos c_24, decide_eq_true c_24, decide_eq_false (not_not_intro c_24), if_neg c_41, bf_of c_41, gi_sl, gi_sA, gi_sB, gi_si_s, gi_si_n, gl_si, gl_sA, gl_sB, gl_sl_s, gl_sl_n, gA_si, gA_sl, gA_sB, gA_sA_s, gA_sA_n, gB_si, gB_sl, gB_sA, gB_sB_s, gB_sB_n, Nat.reduceBEq, if_true, if_false, eq_self, Bool.false_eq_true, reduceCtorEq, not_true_eq_false, not_false_eq_true, decide_true, decide_false, cond_true, cond_false, Bool.true_and, Bool.false_and, Bool.and_true, Bool.and_false, Bool.true_or, Bool.false_or, Bool.or_true, Bool.or_false, b2i_tt, b2i_ff]; rfl) | (simp [leadStep, leadA, c_24, c_41, gi_sl, gi_sA, gi_sB, gi_si_s, gi_si_n, gl_si, gl_sA, gl_sB, gl_sl_s, gl_sl_n, gA_si, gA_sl, gA_sB, gA_sA_s, gA_sA_n, gB_si, gB_sl, gB_sA, gB_sB_s, gB_sB_n, Nat.reduceBEq]; done))).trans (lp_go h_1)), hP, hD, hS, lv_sub hl [2, 3, 0] rfl⟩
      · have c_41 : (jmp (rd (gA co 0) 40 (nI i_1))) = true := b2i_1 c_41
        refine lv_lload_n hx hb dX1_leadersOf_44 rfl (lv_at hl 2 rfl) ?_
        refine lv_aload_n hx hb dX1_leadersOf_45 rfl (lv_at hl 1 rfl) ?_
        refine va_getN (D := D) (ci := 0) (v := .ref (ad 9)) (C := RX0) (T := TX0) (N := 5) hx hb hg inGX0 hown hK hP 1 rfl rfl 1 (by decide) (hN.use nw_3) (fun _ h9 => h9) rfl dX1_leadersOf_46 ?_
        refine lv_iload_n hx hb dX1_leadersOf_49 rfl (lv_at hl 3 rfl) ?_
        refine kI (rSN hx hb hml hown hg hN hK hP hD (c_at l D cI cJ (XW ad cI cJ co fl ra li re wa pi) 9 (ad 9) 40 (gA co 1) (nI i_1) rfl (by decide)) mw_84 nw_65 mw_85 mw_77 pd_X7_at ⟨Nat.le_of_ble_eq_true rfl, Nat.le_of_ble_eq_true rfl⟩ rfl hl.1 rfl (Nat.le_of_ble_eq_true rfl) dX1_leadersOf_50 ⟨Nat.le_of_ble_eq_true rfl, Nat.le_of_ble_eq_true rfl⟩) hD hS hA (fun r_4 u_4 H locs hp hP hD hS => ?_)
        obtain ⟨er, eu⟩ := hp
        obtain rfl := er.symm
        obtain rfl := eu.symm
        refine kL (rSN hx hb hml hown hg hN hK hP hD (c_bit l D cI cJ (XW ad cI cJ co fl ra li re wa pi) (rd (gA co 1) 40 (nI i_1))) mw_78 nw_66 mw_80 mw_77 pd_X7_bit ⟨Nat.le_of_ble_eq_true rfl, Nat.le_of_ble_eq_true rfl⟩ rfl hl.1 rfl (Nat.le_of_ble_eq_true rfl) dX1_leadersOf_53 ⟨Nat.le_of_ble_eq_true rfl, Nat.le_of_ble_eq_true rfl⟩) hD hS hA (fun r_5 u_5 H locs hp hP hD hS => ?_)
        obtain ⟨er, eu⟩ := hp
        obtain rfl := er.symm
        obtain rfl := eu.symm
        refine lv_lor hx hb dX1_leadersOf_56 ?_
        refine lv_lstore_n (lv' := [(1, .long (p_1 ||| (bitL (rd (gA co 1) 40 (nI i_1))))), (4, .int (rd (gA co 0) 40 (nI i_1))), (0, .ref (ad 1)), (3, .int (nI i_1))]) hx hb dX1_leadersOf_57 rfl hl (by decide) rfl (fun ls hl => ?_)
        refine lv_iinc (v := (nI (i_1 + 1))) (lv' := [(3, .int (nI (i_1 + 1))), (1, .long (p_1 ||| (bitL (rd (gA co 1) 40 (nI i_1))))), (4, .int (rd (gA co 0) 40 (nI i_1))), (0, .ref (ad 1))]) hx hb dX1_leadersOf_58 hl (k := 3) rfl (nI_1 i_1) (by decide) rfl (fun ls hl => ?_)
        refine lv_goto (tgt := 4) hx hb dX1_leadersOf_61 (by decide) ?_
        exact ih_1 (p_1 ||| (bitL (rd (gA co 1) 40 (nI i_1)))) H locs ls ⟨((show (p_1 ||| (bitL (rd (gA co 1) 40 (nI i_1)))) = (leadStep co) i_1 p_1 from (by first | (simp only [leadStep, leadA, if_pos c_24, decide_eq_true c_24, decide_eq_false (not_not_intro c_24), if_pos c_41, c_41, gi_sl, gi_sA, gi_sB, gi_si_s, gi_si_n, gl_si, gl_sA, gl_sB, gl_sl_s, gl_sl_n, gA_si, gA_sl, gA_sB, gA_sA_s, gA_sA_n, gB_si, gB_sl, gB_sA, gB_sB_s, gB_sB_n, Nat.reduceBEq, if_true, if_false, eq_self, Bool.false_eq_true, reduceCtorEq, not_true_eq_false, not_false_eq_true, decide_true, decide_false, cond_true, cond_false, Bool.true_and, Bool.false_and, Bool.and_true, Bool.and_false, Bool.true_or, Bool.false_or, Bool.or_true, Bool.or_false, b2i_tt, b2i_ff]; done) | (simp only [leadStep, leadA, if_pos c_24, decide_eq_true c_24, decide_eq_false (not_not_intro c_24), if_pos c_41, c_41, gi_sl, gi_sA, gi_sB, gi_si_s, gi_si_n, gl_si, gl_sA, gl_sB, gl_sl_s, gl_sl_n, gA_si, gA_sl, gA_sB, gA_sA_s, gA_sA_n, gB_si, gB_sl, gB_sA, gB_sB_s, gB_sB_n, Nat.reduceBEq, if_true, if_false, eq_self, Bool.false_eq_true, reduceCtorEq, not_true_eq_false, not_false_eq_true, decide_true, decide_false, cond_true, cond_false, Bool.true_and, Bool.false_and, Bool.and_true, Bool.and_false, Bool.true_or, Bool.false_or, Bool.or_true, Bool.or_false, b2i_tt, b2i_ff]; rfl) | (simp [leadStep, leadA, c_24, c_41, gi_sl, gi_sA, gi_sB, gi_si_s, gi_si_n, gl_si, gl_sA, gl_sB, gl_sl_s, gl_sl_n, gA_si, gA_sl, gA_sB, gA_sA_s, gA_sA_n, gB_si, gB_sl, gB_sA, gB_sB_s, gB_sB_n, Nat.reduceBEq]; done))).trans (lp_go h_1)), hP, hD, hS, lv_sub hl [3, 1, 0] rfl⟩
    · refine lv_lload_n hx hb dX1_leadersOf_27 rfl (lv_at hl 2 rfl) ?_
      refine lv_iload_n hx hb dX1_leadersOf_28 rfl (lv_at hl 3 rfl) ?_
      refine lv_iconst (v := 1) hx hb dX1_leadersOf_29 (by decide) ?_
      refine lv_iadd hx hb dX1_leadersOf_30 ?_
      refine kL (rSN hx hb hml hown hg hN hK hP hD (c_bit l D cI cJ (XW ad cI cJ co fl ra li re wa pi) ((nI i_1) + 1)) mw_78 nw_66 mw_80 mw_77 pd_X7_bit ⟨Nat.le_of_ble_eq_true rfl, Nat.le_of_ble_eq_true rfl⟩ rfl hl.1 rfl (Nat.le_of_ble_eq_true rfl) dX1_leadersOf_31 ⟨Nat.le_of_ble_eq_true rfl, Nat.le_of_ble_eq_true rfl⟩) hD hS hA (fun r_6 u_6 H locs hp hP hD hS => ?_)
      obtain ⟨er, eu⟩ := hp
      obtain rfl := er.symm
      obtain rfl := eu.symm
      refine lv_lor hx hb dX1_leadersOf_34 ?_
      refine lv_lstore_n (lv' := [(1, .long (p_1 ||| (bitL ((nI i_1) + 1)))), (4, .int (rd (gA co 0) 40 (nI i_1))), (0, .ref (ad 1)), (3, .int (nI i_1))]) hx hb dX1_leadersOf_35 rfl hl (by decide) rfl (fun ls hl => ?_)
      refine lv_iload hx hb dX1_leadersOf_36 (lv_at hl 1 rfl) ?_
      refine kI (rSN hx hb hml hown hg hN hK hP hD (c_jumps l D cI cJ (XW ad cI cJ co fl ra li re wa pi) (rd (gA co 0) 40 (nI i_1))) mw_86 nw_67 mw_87 mw_77 pd_X7_jumps ⟨Nat.le_of_ble_eq_true rfl, Nat.le_of_ble_eq_true rfl⟩ rfl hl.1 rfl (Nat.le_of_ble_eq_true rfl) dX1_leadersOf_38 ⟨Nat.le_of_ble_eq_true rfl, Nat.le_of_ble_eq_true rfl⟩) hD hS hA (fun r_7 u_7 H locs hp hP hD hS => ?_)
      obtain ⟨er, eu⟩ := hp
      obtain rfl := er.symm
      obtain rfl := eu.symm
      refine lv_if_eq (tgt := 58) hx hb dX1_leadersOf_41 (by decide) (fun c_41 => ?_) (fun c_41 => ?_)
      · have c_41 : ¬ (jmp (rd (gA co 0) 40 (nI i_1))) = true := b2i_0 c_41
        refine lv_iinc (v := (nI (i_1 + 1))) (lv' := [(3, .int (nI (i_1 + 1))), (1, .long (p_1 ||| (bitL ((nI i_1) + 1)))), (4, .int (rd (gA co 0) 40 (nI i_1))), (0, .ref (ad 1))]) hx hb dX1_leadersOf_58 hl (k := 3) rfl (nI_1 i_1) (by decide) rfl (fun ls hl => ?_)
        refine lv_goto (tgt := 4) hx hb dX1_leadersOf_61 (by decide) ?_
        exact ih_1 (p_1 ||| (bitL ((nI i_1) + 1))) H locs ls ⟨((show (p_1 ||| (bitL ((nI i_1) + 1))) = (leadStep co) i_1 p_1 from (by first | (simp only [leadStep, leadA, if_neg c_24, decide_eq_false c_24, decide_eq_true c_24, if_pos c_24, if_neg c_41, bf_of c_41, gi_sl, gi_sA, gi_sB, gi_si_s, gi_si_n, gl_si, gl_sA, gl_sB, gl_sl_s, gl_sl_n, gA_si, gA_sl, gA_sB, gA_sA_s, gA_sA_n, gB_si, gB_sl, gB_sA, gB_sB_s, gB_sB_n, Nat.reduceBEq, if_true, if_false, eq_self, Bool.false_eq_true, reduceCtorEq, not_true_eq_false, not_false_eq_true, decide_true, decide_false, cond_true, cond_false, Bool.true_and, Bool.false_and, Bool.and_true, Bool.and_false, Bool.true_or, Bool.false_or, Bool.or_true, Bool.or_false, b2i_tt, b2i_ff]; done) | (simp only [leadStep, leadA, if_neg c_24, decide_eq_false c_24, decide_eq_true c_24, if_pos c_24, if_neg c_41, bf_of c_41, gi_sl, gi_sA, gi_sB, gi_si_s, gi_si_n, gl_si, gl_sA, gl_sB, gl_sl_s, gl_sl_n, gA_si, gA_sl, gA_sB, gA_sA_s, gA_sA_n, gB_si, gB_sl, gB_sA, gB_sB_s, gB_sB_n, Nat.reduceBEq, if_true, if_false, eq_self, Bool.false_eq_true, reduceCtorEq, not_true_eq_false, not_false_eq_true, decide_true, decide_false, cond_true, cond_false, Bool.true_and, Bool.false_and, Bool.and_true, Bool.and_false, Bool.true_or, Bool.false_or, Bool.or_true, Bool.or_false, b2i_tt, b2i_ff]; rfl) | (simp [leadStep, leadA, c_24, c_41, gi_sl, gi_sA, gi_sB, gi_si_s, gi_si_n, gl_si, gl_sA, gl_sB, gl_sl_s, gl_sl_n, gA_si, gA_sl, gA_sB, gA_sA_s, gA_sA_n, gB_si, gB_sl, gB_sA, gB_sB_s, gB_sB_n, Nat.reduceBEq]; done))).trans (lp_go h_1)), hP, hD, hS, lv_sub hl [3, 1, 0] rfl⟩
      · have c_41 : (jmp (rd (gA co 0) 40 (nI i_1))) = true := b2i_1 c_41
        refine lv_lload_n hx hb dX1_leadersOf_44 rfl (lv_at hl 0 rfl) ?_
        refine lv_aload_n hx hb dX1_leadersOf_45 rfl (lv_at hl 2 rfl) ?_
        refine va_getN (D := D) (ci := 0) (v := .ref (ad 9)) (C := RX0) (T := TX0) (N := 5) hx hb hg inGX0 hown hK hP 1 rfl rfl 1 (by decide) (hN.use nw_3) (fun _ h9 => h9) rfl dX1_leadersOf_46 ?_
        refine lv_iload_n hx hb dX1_leadersOf_49 rfl (lv_at hl 3 rfl) ?_
        refine kI (rSN hx hb hml hown hg hN hK hP hD (c_at l D cI cJ (XW ad cI cJ co fl ra li re wa pi) 9 (ad 9) 40 (gA co 1) (nI i_1) rfl (by decide)) mw_84 nw_65 mw_85 mw_77 pd_X7_at ⟨Nat.le_of_ble_eq_true rfl, Nat.le_of_ble_eq_true rfl⟩ rfl hl.1 rfl (Nat.le_of_ble_eq_true rfl) dX1_leadersOf_50 ⟨Nat.le_of_ble_eq_true rfl, Nat.le_of_ble_eq_true rfl⟩) hD hS hA (fun r_8 u_8 H locs hp hP hD hS => ?_)
        obtain ⟨er, eu⟩ := hp
        obtain rfl := er.symm
        obtain rfl := eu.symm
        refine kL (rSN hx hb hml hown hg hN hK hP hD (c_bit l D cI cJ (XW ad cI cJ co fl ra li re wa pi) (rd (gA co 1) 40 (nI i_1))) mw_78 nw_66 mw_80 mw_77 pd_X7_bit ⟨Nat.le_of_ble_eq_true rfl, Nat.le_of_ble_eq_true rfl⟩ rfl hl.1 rfl (Nat.le_of_ble_eq_true rfl) dX1_leadersOf_53 ⟨Nat.le_of_ble_eq_true rfl, Nat.le_of_ble_eq_true rfl⟩) hD hS hA (fun r_9 u_9 H locs hp hP hD hS => ?_)
        obtain ⟨er, eu⟩ := hp
        obtain rfl := er.symm
        obtain rfl := eu.symm
        refine lv_lor hx hb dX1_leadersOf_56 ?_
        refine lv_lstore_n (lv' := [(1, .long ((p_1 ||| (bitL ((nI i_1) + 1))) ||| (bitL (rd (gA co 1) 40 (nI i_1))))), (4, .int (rd (gA co 0) 40 (nI i_1))), (0, .ref (ad 1)), (3, .int (nI i_1))]) hx hb dX1_leadersOf_57 rfl hl (by decide) rfl (fun ls hl => ?_)
        refine lv_iinc (v := (nI (i_1 + 1))) (lv' := [(3, .int (nI (i_1 + 1))), (1, .long ((p_1 ||| (bitL ((nI i_1) + 1))) ||| (bitL (rd (gA co 1) 40 (nI i_1))))), (4, .int (rd (gA co 0) 40 (nI i_1))), (0, .ref (ad 1))]) hx hb dX1_leadersOf_58 hl (k := 3) rfl (nI_1 i_1) (by decide) rfl (fun ls hl => ?_)
        refine lv_goto (tgt := 4) hx hb dX1_leadersOf_61 (by decide) ?_
        exact ih_1 ((p_1 ||| (bitL ((nI i_1) + 1))) ||| (bitL (rd (gA co 1) 40 (nI i_1)))) H locs ls ⟨((show ((p_1 ||| (bitL ((nI i_1) + 1))) ||| (bitL (rd (gA co 1) 40 (nI i_1)))) = (leadStep co) i_1 p_1 from (by first | (simp only [leadStep, leadA, if_neg c_24, decide_eq_false c_24, decide_eq_true c_24, if_pos c_24, if_pos c_41, c_41, gi_sl, gi_sA, gi_sB, gi_si_s, gi_si_n, gl_si, gl_sA, gl_sB, gl_sl_s, gl_sl_n, gA_si, gA_sl, gA_sB, gA_sA_s, gA_sA_n, gB_si, gB_sl, gB_sA, gB_sB_s, gB_sB_n, Nat.reduceBEq, if_true, if_false, eq_self, Bool.false_eq_true, reduceCtorEq, not_true_eq_false, not_false_eq_true, decide_true, decide_false, cond_true, cond_false, Bool.true_and, Bool.false_and, Bool.and_true, Bool.and_false, Bool.true_or, Bool.false_or, Bool.or_true, Bool.or_false, b2i_tt, b2i_ff]; done) | (simp only [leadStep, leadA, if_neg c_24, decide_eq_false c_24, decide_eq_true c_24, if_pos c_24, if_pos c_41, c_41, gi_sl, gi_sA, gi_sB, gi_si_s, gi_si_n, gl_si, gl_sA, gl_sB, gl_sl_s, gl_sl_n, gA_si, gA_sl, gA_sB, gA_sA_s, gA_sA_n, gB_si, gB_sl, gB_sA, gB_sB_s, gB_sB_n, Nat.reduceBEq, if_true, if_false, eq_self, Bool.false_eq_true, reduceCtorEq, not_true_eq_false, not_false_eq_true, decide_true, decide_false, cond_true, cond_false, Bool.true_and, Bool.false_and, Bool.and_true, Bool.and_false, Bool.true_or, Bool.false_or, Bool.or_true, Bool.or_false, b2i_tt, b2i_ff]; rfl) | (simp [leadStep, leadA, c_24, c_41, gi_sl, gi_sA, gi_sB, gi_si_s, gi_si_n, gl_si, gl_sA, gl_sB, gl_sl_s, gl_sl_n, gA_si, gA_sl, gA_sB, gA_sA_s, gA_sA_n, gB_si, gB_sl, gB_sA, gB_sB_s, gB_sB_n, Nat.reduceBEq]; done))).trans (lp_go h_1)), hP, hD, hS, lv_sub hl [3, 1, 0] rfl⟩
set_option maxHeartbeats 4000000 in
set_option maxRecDepth 100000 in
theorem c_cut (l : Launch) (D : va_G) (cI cJ : ClassId) (ad : Nat → Nat) (co fl ra li re wa pi : Ob) (k1 : Int32) (l1 : Int64) : CT l D (TY cI cJ) yX1_cut (.code yX1_cut cX1_cut 5 (none : Option FieldType)) 1 0 0 (XW ad cI cJ co fl ra li re wa pi) [.ref (ad 2), .int k1, .long l1] (QV D (TY cI cJ) (fun u => u = (XW ad cI cJ co (cut fl k1 l1) ra li re wa pi))) := by
  refine ent (by decide) (Nat.le_of_ble_eq_true rfl) ?_
  intro p e s m below meth c ls A hx hb hr hg hown hml hlocks hnm hP hK hD hS hA hN hl
  have hl : lv_has ls 5 [(0, .ref (ad 2)), (1, .int k1), (2, .long l1)] := hl
  refine lv_aload_n hx hb dX1_cut_0 rfl (lv_at hl 0 rfl) ?_
  refine lv_iconst (v := 0) hx hb dX1_cut_1 (by decide) ?_
  refine va_put (D := D) (ci := 1) (v := .int 0) (C := RX1) (T := TX1) (N := 11) hx hb hg inGX1 tyX1 tyX1_ok nmX1 hown hK hP hD hS 2 rfl rfl 7 (by decide) (hg _ mw_88) (fun _ h9 => h9) rfl (tyX1_ok 7 (by decide)) rfl rfl (Nat.le_of_ble_eq_true rfl) dX1_cut_2 (fun H locs hP hD hS => ?_)
  have hP : va_P D vwCl (XW ad cI cJ co (si fl 0 0) ra li re wa pi) H := hP
  have hD : va_D A (XW ad cI cJ co (si fl 0 0) ra li re wa pi) := hD
  refine lv_iconst (v := 0) hx hb dX1_cut_5 (by decide) ?_
  refine lv_istore (lv' := [(4, .int 0), (0, .ref (ad 2)), (1, .int k1), (2, .long l1)]) hx hb dX1_cut_6 hl (by decide) rfl (fun ls hl => ?_)
  refine w_loop (σ := Ob) (fun (i_1 : Nat) (p_1 : Ob) (H : Heap) (locs : List Loc) (ls : Array Slot) => p_1 = (lp (cutStep l1) i_1 (si fl 0 0)) ∧ va_P D vwCl (XW ad cI cJ co p_1 ra li re wa pi) H ∧ va_D A (XW ad cI cJ co p_1 ra li re wa pi) ∧ va_S A s.heap H locs ∧ lv_has ls 5 [(0, .ref (ad 2)), (1, .int k1), (2, .long l1), (4, .int (nI i_1))]) (nN k1) (fun p_1 H locs ls hI => ?_) (fun i_1 p_1 H locs ls hi_1 hI ih_1 => ?_) 0 (si fl 0 0) (Nat.zero_le _) ⟨rfl, hP, hD, hS, (by rw [nI_0]; exact lv_sub hl [1, 2, 3, 0] rfl)⟩
  · obtain ⟨h_1, hP, hD, hS, hl⟩ := hI
    have h_1 := h_1.symm
    subst h_1
    have hP : va_P D vwCl (XW ad cI cJ co ((lp (cutStep l1) (nN k1) (si fl 0 0))) ra li re wa pi) H := hP
    have hD : va_D A (XW ad cI cJ co ((lp (cutStep l1) (nN k1) (si fl 0 0))) ra li re wa pi) := hD
    have hl : lv_has ls 5 [(0, .ref (ad 2)), (1, .int k1), (2, .long l1), (4, .int (nI ((nN k1))))] := hl
    refine lv_iload hx hb dX1_cut_8 (lv_at hl 3 rfl) ?_
    refine lv_iload_n hx hb dX1_cut_10 rfl (lv_at hl 1 rfl) ?_
    refine lv_icmp_ge (tgt := 82) hx hb dX1_cut_11 (by decide) (fun _ => ?_) (fun c_11 => absurd (lp_out _) c_11)
    exact W.vret hx hb hr (fun t ht hW => ⟨⟨(XW ad cI cJ co ((lp (cutStep l1) (nN k1) (si fl 0 0))) ra li re wa pi), rfl, xw_eq rfl (show ((lp (cutStep l1) (nN k1) (si fl 0 0))) = (cut fl k1 l1) from (by first | with_reducible rfl | (simp only [cut, gi_sl, gi_sA, gi_sB, gi_si_s, gi_si_n, gl_si, gl_sA, gl_sB, gl_sl_s, gl_sl_n, gA_si, gA_sl, gA_sB, gA_sA_s, gA_sA_n, gB_si, gB_sl, gB_sA, gB_sB_s, gB_sB_n, Nat.reduceBEq, if_true, if_false, eq_self, Bool.false_eq_true, reduceCtorEq, not_true_eq_false, not_false_eq_true, decide_true, decide_false, cond_true, cond_false, Bool.true_and, Bool.false_and, Bool.and_true, Bool.and_false, Bool.true_or, Bool.false_or, Bool.or_true, Bool.or_false, b2i_tt, b2i_ff]; done) | rfl)) rfl rfl rfl rfl rfl, ⟨by rw [ht]; exact hP, va_K.moved hW.alike hK, hD⟩⟩, hS.F ht⟩) hS.2.2 dX1_cut_82
  · obtain ⟨h_1, hP, hD, hS, hl⟩ := hI
    have hP : va_P D vwCl (XW ad cI cJ co p_1 ra li re wa pi) H := hP
    have hD : va_D A (XW ad cI cJ co p_1 ra li re wa pi) := hD
    have hl : lv_has ls 5 [(0, .ref (ad 2)), (1, .int k1), (2, .long l1), (4, .int (nI i_1))] := hl
    refine lv_iload hx hb dX1_cut_8 (lv_at hl 3 rfl) ?_
    refine lv_iload_n hx hb dX1_cut_10 rfl (lv_at hl 1 rfl) ?_
    refine lv_icmp_ge (tgt := 82) hx hb dX1_cut_11 (by decide) (fun c_11 => absurd c_11 (lp_in hi_1)) (fun _ => ?_)
    refine lv_lload_n hx hb dX1_cut_14 rfl (lv_at hl 2 rfl) ?_
    refine lv_iload hx hb dX1_cut_15 (lv_at hl 3 rfl) ?_
    refine kI (rSN hx hb hml hown hg hN hK hP hD (c_has l D cI cJ (XW ad cI cJ co p_1 ra li re wa pi) l1 (nI i_1)) mw_89 nw_68 mw_90 mw_77 pd_X7_has ⟨Nat.le_of_ble_eq_true rfl, Nat.le_of_ble_eq_true rfl⟩ rfl hl.1 rfl (Nat.le_of_ble_eq_true rfl) dX1_cut_17 ⟨Nat.le_of_ble_eq_true rfl, Nat.le_of_ble_eq_true rfl⟩) hD hS hA (fun r_2 u_2 H locs hp hP hD hS => ?_)
    obtain ⟨er, eu⟩ := hp
    obtain rfl := er.symm
    obtain rfl := eu.symm
    refine lv_if_eq (tgt := 46) hx hb dX1_cut_20 (by decide) (fun c_20 => ?_) (fun c_20 => ?_)
    · have c_20 : ¬ (hs l1 (nI i_1)) = true := b2i_0 c_20
      refine lv_aload_n hx hb dX1_cut_46 rfl (lv_at hl 0 rfl) ?_
      refine va_get (D := D) (ci := 1) (v := .ref (ad 12)) (C := RX1) (T := TX1) (N := 11) hx hb hg inGX1 hown hK hP 2 rfl rfl 0 (by decide) (hg _ mw_91) (fun _ h9 => h9) rfl dX1_cut_47 ?_
      refine lv_iload hx hb dX1_cut_50 (lv_at hl 3 rfl) ?_
      refine lv_aload_n hx hb dX1_cut_52 rfl (lv_at hl 0 rfl) ?_
      refine va_get (D := D) (ci := 1) (v := .int (gi p_1 0)) (C := RX1) (T := TX1) (N := 11) hx hb hg inGX1 hown hK hP 2 rfl rfl 7 (by decide) (hg _ mw_88) (fun _ h9 => h9) rfl dX1_cut_53 ?_
      refine lv_iconst (v := 1) hx hb dX1_cut_56 (by decide) ?_
      refine lv_isub hx hb dX1_cut_57 ?_
      refine kV (rSN hx hb hml hown hg hN hK hP hD (c_put l D cI cJ (XW ad cI cJ co p_1 ra li re wa pi) 12 (ad 12) 40 (gA p_1 0) (nI i_1) ((gi p_1 0) - 1) rfl (by decide)) mw_92 nw_69 mw_93 mw_77 pd_X7_put ⟨Nat.le_of_ble_eq_true rfl, Nat.le_of_ble_eq_true rfl⟩ rfl hl.1 rfl (Nat.le_of_ble_eq_true rfl) dX1_cut_58 ⟨Nat.le_of_ble_eq_true rfl, Nat.le_of_ble_eq_true rfl⟩) hD hS hA (fun u_3 H locs hp hP hD hS => ?_)
      obtain rfl := hp.symm
      have hP : va_P D vwCl (XW ad cI cJ co (sA p_1 0 (wr (gA p_1 0) 40 (nI i_1) ((gi p_1 0) - 1))) ra li re wa pi) H := hP
      have hD : va_D A (XW ad cI cJ co (sA p_1 0 (wr (gA p_1 0) 40 (nI i_1) ((gi p_1 0) - 1))) ra li re wa pi) := hD
      refine lv_aload_n hx hb dX1_cut_61 rfl (lv_at hl 0 rfl) ?_
      refine va_get (D := D) (ci := 1) (v := .ref (ad 14)) (C := RX1) (T := TX1) (N := 11) hx hb hg inGX1 hown hK hP 2 rfl rfl 2 (by decide) (hg _ mw_94) (fun _ h9 => h9) rfl dX1_cut_62 ?_
      refine lv_aload_n hx hb dX1_cut_65 rfl (lv_at hl 0 rfl) ?_
      refine va_get (D := D) (ci := 1) (v := .int (gi p_1 0)) (C := RX1) (T := TX1) (N := 11) hx hb hg inGX1 hown hK hP 2 rfl rfl 7 (by decide) (hg _ mw_88) (fun _ h9 => h9) rfl dX1_cut_66 ?_
      refine lv_iconst (v := 1) hx hb dX1_cut_69 (by decide) ?_
      refine lv_isub hx hb dX1_cut_70 ?_
      refine lv_iload hx hb dX1_cut_71 (lv_at hl 3 rfl) ?_
      refine kV (rSN hx hb hml hown hg hN hK hP hD (c_put l D cI cJ (XW ad cI cJ co (sA p_1 0 (wr (gA p_1 0) 40 (nI i_1) ((gi p_1 0) - 1))) ra li re wa pi) 14 (ad 14) 40 (gA p_1 2) ((gi p_1 0) - 1) (nI i_1) rfl (by decide)) mw_92 nw_69 mw_93 mw_77 pd_X7_put ⟨Nat.le_of_ble_eq_true rfl, Nat.le_of_ble_eq_true rfl⟩ rfl hl.1 rfl (Nat.le_of_ble_eq_true rfl) dX1_cut_73 ⟨Nat.le_of_ble_eq_true rfl, Nat.le_of_ble_eq_true rfl⟩) hD hS hA (fun u_4 H locs hp hP hD hS => ?_)
      obtain rfl := hp.symm
      have hP : va_P D vwCl (XW ad cI cJ co (sA (sA p_1 0 (wr (gA p_1 0) 40 (nI i_1) ((gi p_1 0) - 1))) 2 (wr (gA p_1 2) 40 ((gi p_1 0) - 1) (nI i_1))) ra li re wa pi) H := hP
      have hD : va_D A (XW ad cI cJ co (sA (sA p_1 0 (wr (gA p_1 0) 40 (nI i_1) ((gi p_1 0) - 1))) 2 (wr (gA p_1 2) 40 ((gi p_1 0) - 1) (nI i_1))) ra li re wa pi) := hD
      refine lv_iinc (v := (nI (i_1 + 1))) (lv' := [(4, .int (nI (i_1 + 1))), (0, .ref (ad 2)), (1, .int k1), (2, .long l1)]) hx hb dX1_cut_76 hl (k := 3) rfl (nI_1 i_1) (by decide) rfl (fun ls hl => ?_)
      refine lv_goto (tgt := 8) hx hb dX1_cut_79 (by decide) ?_
      exact ih_1 (sA (sA p_1 0 (wr (gA p_1 0) 40 (nI i_1) ((gi p_1 0) - 1))) 2 (wr (gA p_1 2) 40 ((gi p_1 0) - 1) (nI i_1))) H locs ls ⟨((show (sA (sA p_1 0 (wr (gA p_1 0) 40 (nI i_1) ((gi p_1 0) - 1))) 2 (wr (gA p_1 2) 40 ((gi p_1 0) - 1) (nI i_1))) = (cutStep l1) i_1 p_1 from (by first | (simp only [cutStep, cutA, cutB, if_neg c_20, bf_of c_20, gi_sl, gi_sA, gi_sB, gi_si_s, gi_si_n, gl_si, gl_sA, gl_sB, gl_sl_s, gl_sl_n, gA_si, gA_sl, gA_sB, gA_sA_s, gA_sA_n, gB_si, gB_sl, gB_sA, gB_sB_s, gB_sB_n, Nat.reduceBEq, if_true, if_false, eq_self, Bool.false_eq_true, reduceCtorEq, not_true_eq_false, not_false_eq_true, decide_true, decide_false, cond_true, cond_false, Bool.true_and, Bool.false_and, Bool.and_true, Bool.and_false, Bool.true_or, Bool.false_or, Bool.or_true, Bool.or_false, b2i_tt, b2i_ff]; done) | (simp only [cutStep, cutA, cutB, if_neg c_20, bf_of c_20, gi_sl, gi_sA, gi_sB, gi_si_s, gi_si_n, gl_si, gl_sA, gl_sB, gl_sl_s, gl_sl_n, gA_si, gA_sl, gA_sB, gA_sA_s, gA_sA_n, gB_si, gB_sl, gB_sA, gB_sB_s, gB_sB_n, Nat.reduceBEq, if_true, if_false, eq_self, Bool.false_eq_true, reduceCtorEq, not_true_eq_false, not_false_eq_true, decide_true, decide_false, cond_true, cond_false, Bool.true_and, Bool.false_and, Bool.and_true, Bool.and_false, Bool.true_or, Bool.false_or, Bool.or_true, Bool.or_false, b2i_tt, b2i_ff]; rfl) | (simp [cutStep, cutA, cutB, c_20, gi_sl, gi_sA, gi_sB, gi_si_s, gi_si_n, gl_si, gl_sA, gl_sB, gl_sl_s, gl_sl_n, gA_si, gA_sl, gA_sB, gA_sA_s, gA_sA_n, gB_si, gB_sl, gB_sA, gB_sB_s, gB_sB_n, Nat.reduceBEq]; done))).trans (lp_go h_1)), hP, hD, hS, lv_sub hl [1, 2, 3, 0] rfl⟩
    · have c_20 : (hs l1 (nI i_1)) = true := b2i_1 c_20
      refine lv_aload_n hx hb dX1_cut_23 rfl (lv_at hl 0 rfl) ?_
      refine va_get (D := D) (ci := 1) (v := .ref (ad 13)) (C := RX1) (T := TX1) (N := 11) hx hb hg inGX1 hown hK hP 2 rfl rfl 1 (by decide) (hg _ mw_95) (fun _ h9 => h9) rfl dX1_cut_24 ?_
      refine lv_aload_n hx hb dX1_cut_27 rfl (lv_at hl 0 rfl) ?_
      refine va_get (D := D) (ci := 1) (v := .int (gi p_1 0)) (C := RX1) (T := TX1) (N := 11) hx hb hg inGX1 hown hK hP 2 rfl rfl 7 (by decide) (hg _ mw_88) (fun _ h9 => h9) rfl dX1_cut_28 ?_
      refine lv_iload hx hb dX1_cut_31 (lv_at hl 3 rfl) ?_
      refine kV (rSN hx hb hml hown hg hN hK hP hD (c_put l D cI cJ (XW ad cI cJ co p_1 ra li re wa pi) 13 (ad 13) 40 (gA p_1 1) (gi p_1 0) (nI i_1) rfl (by decide)) mw_92 nw_69 mw_93 mw_77 pd_X7_put ⟨Nat.le_of_ble_eq_true rfl, Nat.le_of_ble_eq_true rfl⟩ rfl hl.1 rfl (Nat.le_of_ble_eq_true rfl) dX1_cut_33 ⟨Nat.le_of_ble_eq_true rfl, Nat.le_of_ble_eq_true rfl⟩) hD hS hA (fun u_5 H locs hp hP hD hS => ?_)
      obtain rfl := hp.symm
      have hP : va_P D vwCl (XW ad cI cJ co (sA p_1 1 (wr (gA p_1 1) 40 (gi p_1 0) (nI i_1))) ra li re wa pi) H := hP
      have hD : va_D A (XW ad cI cJ co (sA p_1 1 (wr (gA p_1 1) 40 (gi p_1 0) (nI i_1))) ra li re wa pi) := hD
      refine lv_aload_n hx hb dX1_cut_36 rfl (lv_at hl 0 rfl) ?_
      refine lv_dup hx hb dX1_cut_37 rfl ?_
      refine va_get (D := D) (ci := 1) (v := .int (gi p_1 0)) (C := RX1) (T := TX1) (N := 11) hx hb hg inGX1 hown hK hP 2 rfl rfl 7 (by decide) (hg _ mw_88) (fun _ h9 => h9) rfl dX1_cut_38 ?_
      refine lv_iconst (v := 1) hx hb dX1_cut_41 (by decide) ?_
      refine lv_iadd hx hb dX1_cut_42 ?_
      refine va_put (D := D) (ci := 1) (v := .int ((gi p_1 0) + 1)) (C := RX1) (T := TX1) (N := 11) hx hb hg inGX1 tyX1 tyX1_ok nmX1 hown hK hP hD hS 2 rfl rfl 7 (by decide) (hg _ mw_88) (fun _ h9 => h9) rfl (tyX1_ok 7 (by decide)) rfl rfl (Nat.le_of_ble_eq_true rfl) dX1_cut_43 (fun H locs hP hD hS => ?_)
      have hP : va_P D vwCl (XW ad cI cJ co (si (sA p_1 1 (wr (gA p_1 1) 40 (gi p_1 0) (nI i_1))) 0 ((gi p_1 0) + 1)) ra li re wa pi) H := hP
      have hD : va_D A (XW ad cI cJ co (si (sA p_1 1 (wr (gA p_1 1) 40 (gi p_1 0) (nI i_1))) 0 ((gi p_1 0) + 1)) ra li re wa pi) := hD
      refine lv_aload_n hx hb dX1_cut_46 rfl (lv_at hl 0 rfl) ?_
      refine va_get (D := D) (ci := 1) (v := .ref (ad 12)) (C := RX1) (T := TX1) (N := 11) hx hb hg inGX1 hown hK hP 2 rfl rfl 0 (by decide) (hg _ mw_91) (fun _ h9 => h9) rfl dX1_cut_47 ?_
      refine lv_iload hx hb dX1_cut_50 (lv_at hl 3 rfl) ?_
      refine lv_aload_n hx hb dX1_cut_52 rfl (lv_at hl 0 rfl) ?_
      refine va_get (D := D) (ci := 1) (v := .int ((gi p_1 0) + 1)) (C := RX1) (T := TX1) (N := 11) hx hb hg inGX1 hown hK hP 2 rfl rfl 7 (by decide) (hg _ mw_88) (fun _ h9 => h9) rfl dX1_cut_53 ?_
      refine lv_iconst (v := 1) hx hb dX1_cut_56 (by decide) ?_
      refine lv_isub hx hb dX1_cut_57 ?_
      refine kV (rSN hx hb hml hown hg hN hK hP hD (c_put l D cI cJ (XW ad cI cJ co (si (sA p_1 1 (wr (gA p_1 1) 40 (gi p_1 0) (nI i_1))) 0 ((gi p_1 0) + 1)) ra li re wa pi) 12 (ad 12) 40 (gA p_1 0) (nI i_1) (((gi p_1 0) + 1) - 1) rfl (by decide)) mw_92 nw_69 mw_93 mw_77 pd_X7_put ⟨Nat.le_of_ble_eq_true rfl, Nat.le_of_ble_eq_true rfl⟩ rfl hl.1 rfl (Nat.le_of_ble_eq_true rfl) dX1_cut_58 ⟨Nat.le_of_ble_eq_true rfl, Nat.le_of_ble_eq_true rfl⟩) hD hS hA (fun u_6 H locs hp hP hD hS => ?_)
      obtain rfl := hp.symm
      have hP : va_P D vwCl (XW ad cI cJ co (sA (si (sA p_1 1 (wr (gA p_1 1) 40 (gi p_1 0) (nI i_1))) 0 ((gi p_1 0) + 1)) 0 (wr (gA p_1 0) 40 (nI i_1) (((gi p_1 0) + 1) - 1))) ra li re wa pi) H := hP
      have hD : va_D A (XW ad cI cJ co (sA (si (sA p_1 1 (wr (gA p_1 1) 40 (gi p_1 0) (nI i_1))) 0 ((gi p_1 0) + 1)) 0 (wr (gA p_1 0) 40 (nI i_1) (((gi p_1 0) + 1) - 1))) ra li re wa pi) := hD
      refine lv_aload_n hx hb dX1_cut_61 rfl (lv_at hl 0 rfl) ?_
      refine va_get (D := D) (ci := 1) (v := .ref (ad 14)) (C := RX1) (T := TX1) (N := 11) hx hb hg inGX1 hown hK hP 2 rfl rfl 2 (by decide) (hg _ mw_94) (fun _ h9 => h9) rfl dX1_cut_62 ?_
      refine lv_aload_n hx hb dX1_cut_65 rfl (lv_at hl 0 rfl) ?_
      refine va_get (D := D) (ci := 1) (v := .int ((gi p_1 0) + 1)) (C := RX1) (T := TX1) (N := 11) hx hb hg inGX1 hown hK hP 2 rfl rfl 7 (by decide) (hg _ mw_88) (fun _ h9 => h9) rfl dX1_cut_66 ?_
      refine lv_iconst (v := 1) hx hb dX1_cut_69 (by decide) ?_
      refine lv_isub hx hb dX1_cut_70 ?_
      refine lv_iload hx hb dX1_cut_71 (lv_at hl 3 rfl) ?_
      refine kV (rSN hx hb hml hown hg hN hK hP hD (c_put l D cI cJ (XW ad cI cJ co (sA (si (sA p_1 1 (wr (gA p_1 1) 40 (gi p_1 0) (nI i_1))) 0 ((gi p_1 0) + 1)) 0 (wr (gA p_1 0) 40 (nI i_1) (((gi p_1 0) + 1) - 1))) ra li re wa pi) 14 (ad 14) 40 (gA p_1 2) (((gi p_1 0) + 1) - 1) (nI i_1) rfl (by decide)) mw_92 nw_69 mw_93 mw_77 pd_X7_put ⟨Nat.le_of_ble_eq_true rfl, Nat.le_of_ble_eq_true rfl⟩ rfl hl.1 rfl (Nat.le_of_ble_eq_true rfl) dX1_cut_73 ⟨Nat.le_of_ble_eq_true rfl, Nat.le_of_ble_eq_true rfl⟩) hD hS hA (fun u_7 H locs hp hP hD hS => ?_)
      obtain rfl := hp.symm
      have hP : va_P D vwCl (XW ad cI cJ co (sA (sA (si (sA p_1 1 (wr (gA p_1 1) 40 (gi p_1 0) (nI i_1))) 0 ((gi p_1 0) + 1)) 0 (wr (gA p_1 0) 40 (nI i_1) (((gi p_1 0) + 1) - 1))) 2 (wr (gA p_1 2) 40 (((gi p_1 0) + 1) - 1) (nI i_1))) ra li re wa pi) H := hP
      have hD : va_D A (XW ad cI cJ co (sA (sA (si (sA p_1 1 (wr (gA p_1 1) 40 (gi p_1 0) (nI i_1))) 0 ((gi p_1 0) + 1)) 0 (wr (gA p_1 0) 40 (nI i_1) (((gi p_1 0) + 1) - 1))) 2 (wr (gA p_1 2) 40 (((gi p_1 0) + 1) - 1) (nI i_1))) ra li re wa pi) := hD
      refine lv_iinc (v := (nI (i_1 + 1))) (lv' := [(4, .int (nI (i_1 + 1))), (0, .ref (ad 2)), (1, .int k1), (2, .long l1)]) hx hb dX1_cut_76 hl (k := 3) rfl (nI_1 i_1) (by decide) rfl (fun ls hl => ?_)
      refine lv_goto (tgt := 8) hx hb dX1_cut_79 (by decide) ?_
      exact ih_1 (sA (sA (si (sA p_1 1 (wr (gA p_1 1) 40 (gi p_1 0) (nI i_1))) 0 ((gi p_1 0) + 1)) 0 (wr (gA p_1 0) 40 (nI i_1) (((gi p_1 0) + 1) - 1))) 2 (wr (gA p_1 2) 40 (((gi p_1 0) + 1) - 1) (nI i_1))) H locs ls ⟨((show (sA (sA (si (sA p_1 1 (wr (gA p_1 1) 40 (gi p_1 0) (nI i_1))) 0 ((gi p_1 0) + 1)) 0 (wr (gA p_1 0) 40 (nI i_1) (((gi p_1 0) + 1) - 1))) 2 (wr (gA p_1 2) 40 (((gi p_1 0) + 1) - 1) (nI i_1))) = (cutStep l1) i_1 p_1 from (by first | (simp only [cutStep, cutA, cutB, if_pos c_20, c_20, gi_sl, gi_sA, gi_sB, gi_si_s, gi_si_n, gl_si, gl_sA, gl_sB, gl_sl_s, gl_sl_n, gA_si, gA_sl, gA_sB, gA_sA_s, gA_sA_n, gB_si, gB_sl, gB_sA, gB_sB_s, gB_sB_n, Nat.reduceBEq, if_true, if_false, eq_self, Bool.false_eq_true, reduceCtorEq, not_true_eq_false, not_false_eq_true, decide_true, decide_false, cond_true, cond_false, Bool.true_and, Bool.false_and, Bool.and_true, Bool.and_false, Bool.true_or, Bool.false_or, Bool.or_true, Bool.or_false, b2i_tt, b2i_ff]; done) | (simp only [cutStep, cutA, cutB, if_pos c_20, c_20, gi_sl, gi_sA, gi_sB, gi_si_s, gi_si_n, gl_si, gl_sA, gl_sB, gl_sl_s, gl_sl_n, gA_si, gA_sl, gA_sB, gA_sA_s, gA_sA_n, gB_si, gB_sl, gB_sA, gB_sB_s, gB_sB_n, Nat.reduceBEq, if_true, if_false, eq_self, Bool.false_eq_true, reduceCtorEq, not_true_eq_false, not_false_eq_true, decide_true, decide_false, cond_true, cond_false, Bool.true_and, Bool.false_and, Bool.and_true, Bool.and_false, Bool.true_or, Bool.false_or, Bool.or_true, Bool.or_false, b2i_tt, b2i_ff]; rfl) | (simp [cutStep, cutA, cutB, c_20, gi_sl, gi_sA, gi_sB, gi_si_s, gi_si_n, gl_si, gl_sA, gl_sB, gl_sl_s, gl_sl_n, gA_si, gA_sl, gA_sB, gA_sA_s, gA_sA_n, gB_si, gB_sl, gB_sA, gB_sB_s, gB_sB_n, Nat.reduceBEq]; done))).trans (lp_go h_1)), hP, hD, hS, lv_sub hl [1, 2, 3, 0] rfl⟩
set_option maxHeartbeats 4000000 in
set_option maxRecDepth 100000 in
theorem c_join (l : Launch) (D : va_G) (cI cJ : ClassId) (ad : Nat → Nat) (co fl ra li re wa pi : Ob) (k1 : Int32) (k2 : Int32) (k3 : Int32) : CT l D (TY cI cJ) yX1_join (.code yX1_join cX1_join 7 (none : Option FieldType)) 1 0 0 (XW ad cI cJ co fl ra li re wa pi) [.ref (ad 2), .int k1, .int k2, .int k3] (QV D (TY cI cJ) (fun u => u = (XW ad cI cJ co (join fl k1 k2 k3) ra li re wa pi))) := by
  refine ent (by decide) (Nat.le_of_ble_eq_true rfl) ?_
  intro p e s m below meth c ls A hx hb hr hg hown hml hlocks hnm hP hK hD hS hA hN hl
  have hl : lv_has ls 7 [(0, .ref (ad 2)), (1, .int k1), (2, .int k2), (3, .int k3)] := hl
  refine lv_iload_n hx hb dX1_join_0 rfl (lv_at hl 2 rfl) ?_
  refine lv_iload_n hx hb dX1_join_1 rfl (lv_at hl 3 rfl) ?_
  refine lv_icmp_ge (tgt := 16) hx hb dX1_join_2 (by decide) (fun c_2 => ?_) (fun c_2 => ?_)
  · have c_2 : ¬ k2 < k3 := i_ge c_2
    refine lv_bipush (v := 40) hx hb dX1_join_16 (by decide) ?_
    refine lv_istore (lv' := [(4, .int 40), (0, .ref (ad 2)), (1, .int k1), (2, .int k2), (3, .int k3)]) hx hb dX1_join_18 hl (by decide) rfl (fun ls hl => ?_)
    refine lv_aload_n hx hb dX1_join_20 rfl (lv_at hl 1 rfl) ?_
    refine va_get (D := D) (ci := 1) (v := .ref (ad 18)) (C := RX1) (T := TX1) (N := 11) hx hb hg inGX1 hown hK hP 2 rfl rfl 6 (by decide) (hg _ mw_96) (fun _ h9 => h9) rfl dX1_join_21 ?_
    refine lv_iload_n hx hb dX1_join_24 rfl (lv_at hl 2 rfl) ?_
    refine kL (rSN hx hb hml hown hg hN hK hP hD (c_atL l D cI cJ (XW ad cI cJ co fl ra li re wa pi) 18 (ad 18) 40 (gB fl 0) k1 rfl (by decide)) mw_81 nw_71 mw_83 mw_77 pd_X7_at_ ⟨Nat.le_of_ble_eq_true rfl, Nat.le_of_ble_eq_true rfl⟩ rfl hl.1 rfl (Nat.le_of_ble_eq_true rfl) dX1_join_25 ⟨Nat.le_of_ble_eq_true rfl, Nat.le_of_ble_eq_true rfl⟩) hD hS hA (fun r_1 u_1 H locs hp hP hD hS => ?_)
    obtain ⟨er, eu⟩ := hp
    obtain rfl := er.symm
    obtain rfl := eu.symm
    refine lv_lstore (lv' := [(5, .long (rdL (gB fl 0) 40 k1)), (4, .int 40), (0, .ref (ad 2)), (1, .int k1), (2, .int k2), (3, .int k3)]) hx hb dX1_join_28 hl (by decide) rfl (fun ls hl => ?_)
    refine lv_lload hx hb dX1_join_30 (lv_at hl 0 rfl) ?_
    refine lv_iload hx hb dX1_join_32 (lv_at hl 1 rfl) ?_
    refine kI (rSN hx hb hml hown hg hN hK hP hD (c_has l D cI cJ (XW ad cI cJ co fl ra li re wa pi) (rdL (gB fl 0) 40 k1) 40) mw_89 nw_68 mw_90 mw_77 pd_X7_has ⟨Nat.le_of_ble_eq_true rfl, Nat.le_of_ble_eq_true rfl⟩ rfl hl.1 rfl (Nat.le_of_ble_eq_true rfl) dX1_join_34 ⟨Nat.le_of_ble_eq_true rfl, Nat.le_of_ble_eq_true rfl⟩) hD hS hA (fun r_2 u_2 H locs hp hP hD hS => ?_)
    obtain ⟨er, eu⟩ := hp
    obtain rfl := er.symm
    obtain rfl := eu.symm
    refine lv_if_eq (tgt := 41) hx hb dX1_join_37 (by decide) (fun c_37 => ?_) (fun c_37 => ?_)
    · have c_37 : ¬ (hs (rdL (gB fl 0) 40 k1) 40) = true := b2i_0 c_37
      refine lv_aload_n hx hb dX1_join_41 rfl (lv_at hl 2 rfl) ?_
      refine va_get (D := D) (ci := 1) (v := .ref (ad 18)) (C := RX1) (T := TX1) (N := 11) hx hb hg inGX1 hown hK hP 2 rfl rfl 6 (by decide) (hg _ mw_96) (fun _ h9 => h9) rfl dX1_join_42 ?_
      refine lv_iload_n hx hb dX1_join_45 rfl (lv_at hl 3 rfl) ?_
      refine lv_lload hx hb dX1_join_46 (lv_at hl 0 rfl) ?_
      refine lv_iload hx hb dX1_join_48 (lv_at hl 1 rfl) ?_
      refine kL (rSN hx hb hml hown hg hN hK hP hD (c_bit l D cI cJ (XW ad cI cJ co fl ra li re wa pi) 40) mw_78 nw_66 mw_80 mw_77 pd_X7_bit ⟨Nat.le_of_ble_eq_true rfl, Nat.le_of_ble_eq_true rfl⟩ rfl hl.1 rfl (Nat.le_of_ble_eq_true rfl) dX1_join_50 ⟨Nat.le_of_ble_eq_true rfl, Nat.le_of_ble_eq_true rfl⟩) hD hS hA (fun r_3 u_3 H locs hp hP hD hS => ?_)
      obtain ⟨er, eu⟩ := hp
      obtain rfl := er.symm
      obtain rfl := eu.symm
      refine lv_lor hx hb dX1_join_53 ?_
      refine kV (rSN hx hb hml hown hg hN hK hP hD (c_putL l D cI cJ (XW ad cI cJ co fl ra li re wa pi) 18 (ad 18) 40 (gB fl 0) k1 ((rdL (gB fl 0) 40 k1) ||| (bitL 40)) rfl (by decide)) mw_97 nw_70 mw_98 mw_77 pd_X7_put_ ⟨Nat.le_of_ble_eq_true rfl, Nat.le_of_ble_eq_true rfl⟩ rfl hl.1 rfl (Nat.le_of_ble_eq_true rfl) dX1_join_54 ⟨Nat.le_of_ble_eq_true rfl, Nat.le_of_ble_eq_true rfl⟩) hD hS hA (fun u_4 H locs hp hP hD hS => ?_)
      obtain rfl := hp.symm
      have hP : va_P D vwCl (XW ad cI cJ co (sB fl 0 (wrL (gB fl 0) 40 k1 ((rdL (gB fl 0) 40 k1) ||| (bitL 40)))) ra li re wa pi) H := hP
      have hD : va_D A (XW ad cI cJ co (sB fl 0 (wrL (gB fl 0) 40 k1 ((rdL (gB fl 0) 40 k1) ||| (bitL 40)))) ra li re wa pi) := hD
      refine lv_aload_n hx hb dX1_join_57 rfl (lv_at hl 2 rfl) ?_
      refine va_get (D := D) (ci := 1) (v := .ref (ad 15)) (C := RX1) (T := TX1) (N := 11) hx hb hg inGX1 hown hK hP 2 rfl rfl 3 (by decide) (hg _ mw_99) (fun _ h9 => h9) rfl dX1_join_58 ?_
      refine lv_aload_n hx hb dX1_join_61 rfl (lv_at hl 2 rfl) ?_
      refine va_get (D := D) (ci := 1) (v := .int (gi fl 1)) (C := RX1) (T := TX1) (N := 11) hx hb hg inGX1 hown hK hP 2 rfl rfl 8 (by decide) (hg _ mw_100) (fun _ h9 => h9) rfl dX1_join_62 ?_
      refine lv_iload_n hx hb dX1_join_65 rfl (lv_at hl 3 rfl) ?_
      refine kV (rSN hx hb hml hown hg hN hK hP hD (c_put l D cI cJ (XW ad cI cJ co (sB fl 0 (wrL (gB fl 0) 40 k1 ((rdL (gB fl 0) 40 k1) ||| (bitL 40)))) ra li re wa pi) 15 (ad 15) 80 (gA fl 3) (gi fl 1) k1 rfl (by decide)) mw_92 nw_69 mw_93 mw_77 pd_X7_put ⟨Nat.le_of_ble_eq_true rfl, Nat.le_of_ble_eq_true rfl⟩ rfl hl.1 rfl (Nat.le_of_ble_eq_true rfl) dX1_join_66 ⟨Nat.le_of_ble_eq_true rfl, Nat.le_of_ble_eq_true rfl⟩) hD hS hA (fun u_5 H locs hp hP hD hS => ?_)
      obtain rfl := hp.symm
      have hP : va_P D vwCl (XW ad cI cJ co (sA (sB fl 0 (wrL (gB fl 0) 40 k1 ((rdL (gB fl 0) 40 k1) ||| (bitL 40)))) 3 (wr (gA fl 3) 80 (gi fl 1) k1)) ra li re wa pi) H := hP
      have hD : va_D A (XW ad cI cJ co (sA (sB fl 0 (wrL (gB fl 0) 40 k1 ((rdL (gB fl 0) 40 k1) ||| (bitL 40)))) 3 (wr (gA fl 3) 80 (gi fl 1) k1)) ra li re wa pi) := hD
      refine lv_aload_n hx hb dX1_join_69 rfl (lv_at hl 2 rfl) ?_
      refine va_get (D := D) (ci := 1) (v := .ref (ad 16)) (C := RX1) (T := TX1) (N := 11) hx hb hg inGX1 hown hK hP 2 rfl rfl 4 (by decide) (hg _ mw_101) (fun _ h9 => h9) rfl dX1_join_70 ?_
      refine lv_aload_n hx hb dX1_join_73 rfl (lv_at hl 2 rfl) ?_
      refine va_get (D := D) (ci := 1) (v := .int (gi fl 1)) (C := RX1) (T := TX1) (N := 11) hx hb hg inGX1 hown hK hP 2 rfl rfl 8 (by decide) (hg _ mw_100) (fun _ h9 => h9) rfl dX1_join_74 ?_
      refine lv_iload hx hb dX1_join_77 (lv_at hl 1 rfl) ?_
      refine lv_bipush (v := 40) hx hb dX1_join_79 (by decide) ?_
      refine lv_icmp_ne (tgt := 88) hx hb dX1_join_81 (by decide) (fun c_81 => absurd (by decide) c_81) (fun _ => ?_)
      refine lv_iconst (v := (-1)) hx hb dX1_join_84 (by decide) ?_
      refine lv_goto (tgt := 90) hx hb dX1_join_85 (by decide) ?_
      refine kV (rSN hx hb hml hown hg hN hK hP hD (c_put l D cI cJ (XW ad cI cJ co (sA (sB fl 0 (wrL (gB fl 0) 40 k1 ((rdL (gB fl 0) 40 k1) ||| (bitL 40)))) 3 (wr (gA fl 3) 80 (gi fl 1) k1)) ra li re wa pi) 16 (ad 16) 80 (gA fl 4) (gi fl 1) (-1) rfl (by decide)) mw_92 nw_69 mw_93 mw_77 pd_X7_put ⟨Nat.le_of_ble_eq_true rfl, Nat.le_of_ble_eq_true rfl⟩ rfl hl.1 rfl (Nat.le_of_ble_eq_true rfl) dX1_join_90 ⟨Nat.le_of_ble_eq_true rfl, Nat.le_of_ble_eq_true rfl⟩) hD hS hA (fun u_6 H locs hp hP hD hS => ?_)
      obtain rfl := hp.symm
      have hP : va_P D vwCl (XW ad cI cJ co (sA (sA (sB fl 0 (wrL (gB fl 0) 40 k1 ((rdL (gB fl 0) 40 k1) ||| (bitL 40)))) 3 (wr (gA fl 3) 80 (gi fl 1) k1)) 4 (wr (gA fl 4) 80 (gi fl 1) (-1))) ra li re wa pi) H := hP
      have hD : va_D A (XW ad cI cJ co (sA (sA (sB fl 0 (wrL (gB fl 0) 40 k1 ((rdL (gB fl 0) 40 k1) ||| (bitL 40)))) 3 (wr (gA fl 3) 80 (gi fl 1) k1)) 4 (wr (gA fl 4) 80 (gi fl 1) (-1))) ra li re wa pi) := hD
      refine lv_aload_n hx hb dX1_join_93 rfl (lv_at hl 2 rfl) ?_
      refine lv_dup hx hb dX1_join_94 rfl ?_
      refine va_get (D := D) (ci := 1) (v := .int (gi fl 1)) (C := RX1) (T := TX1) (N := 11) hx hb hg inGX1 hown hK hP 2 rfl rfl 8 (by decide) (hg _ mw_100) (fun _ h9 => h9) rfl dX1_join_95 ?_
      refine lv_iconst (v := 1) hx hb dX1_join_98 (by decide) ?_
      refine lv_iadd hx hb dX1_join_99 ?_
      refine va_put (D := D) (ci := 1) (v := .int ((gi fl 1) + 1)) (C := RX1) (T := TX1) (N := 11) hx hb hg inGX1 tyX1 tyX1_ok nmX1 hown hK hP hD hS 2 rfl rfl 8 (by decide) (hg _ mw_100) (fun _ h9 => h9) rfl (tyX1_ok 8 (by decide)) rfl rfl (Nat.le_of_ble_eq_true rfl) dX1_join_100 (fun H locs hP hD hS => ?_)
      have hP : va_P D vwCl (XW ad cI cJ co (si (sA (sA (sB fl 0 (wrL (gB fl 0) 40 k1 ((rdL (gB fl 0) 40 k1) ||| (bitL 40)))) 3 (wr (gA fl 3) 80 (gi fl 1) k1)) 4 (wr (gA fl 4) 80 (gi fl 1) (-1))) 1 ((gi fl 1) + 1)) ra li re wa pi) H := hP
      have hD : va_D A (XW ad cI cJ co (si (sA (sA (sB fl 0 (wrL (gB fl 0) 40 k1 ((rdL (gB fl 0) 40 k1) ||| (bitL 40)))) 3 (wr (gA fl 3) 80 (gi fl 1) k1)) 4 (wr (gA fl 4) 80 (gi fl 1) (-1))) 1 ((gi fl 1) + 1)) ra li re wa pi) := hD
      exact W.vret hx hb hr (fun t ht hW => ⟨⟨(XW ad cI cJ co (si (sA (sA (sB fl 0 (wrL (gB fl 0) 40 k1 ((rdL (gB fl 0) 40 k1) ||| (bitL 40)))) 3 (wr (gA fl 3) 80 (gi fl 1) k1)) 4 (wr (gA fl 4) 80 (gi fl 1) (-1))) 1 ((gi fl 1) + 1)) ra li re wa pi), rfl, xw_eq rfl (show (si (sA (sA (sB fl 0 (wrL (gB fl 0) 40 k1 ((rdL (gB fl 0) 40 k1) ||| (bitL 40)))) 3 (wr (gA fl 3) 80 (gi fl 1) k1)) 4 (wr (gA fl 4) 80 (gi fl 1) (-1))) 1 ((gi fl 1) + 1)) = (join fl k1 k2 k3) from (by first | (simp only [join, joinG, joinP, if_neg c_2, decide_eq_false c_2, decide_eq_true c_2, if_pos c_2, if_neg c_37, bf_of c_37, gi_sl, gi_sA, gi_sB, gi_si_s, gi_si_n, gl_si, gl_sA, gl_sB, gl_sl_s, gl_sl_n, gA_si, gA_sl, gA_sB, gA_sA_s, gA_sA_n, gB_si, gB_sl, gB_sA, gB_sB_s, gB_sB_n, Nat.reduceBEq, if_true, if_false, eq_self, Bool.false_eq_true, reduceCtorEq, not_true_eq_false, not_false_eq_true, decide_true, decide_false, cond_true, cond_false, Bool.true_and, Bool.false_and, Bool.and_true, Bool.and_false, Bool.true_or, Bool.false_or, Bool.or_true, Bool.or_false, b2i_tt, b2i_ff]; done) | (simp only [join, joinG, joinP, if_neg c_2, decide_eq_false c_2, decide_eq_true c_2, if_pos c_2, if_neg c_37, bf_of c_37, gi_sl, gi_sA, gi_sB, gi_si_s, gi_si_n, gl_si, gl_sA, gl_sB, gl_sl_s, gl_sl_n, gA_si, gA_sl, gA_sB, gA_sA_s, gA_sA_n, gB_si, gB_sl, gB_sA, gB_sB_s, gB_sB_n, Nat.reduceBEq, if_true, if_false, eq_self, Bool.false_eq_true, reduceCtorEq, not_true_eq_false, not_false_eq_true, decide_true, decide_false, cond_true, cond_false, Bool.true_and, Bool.false_and, Bool.and_true, Bool.and_false, Bool.true_or, Bool.false_or, Bool.or_true, Bool.or_false, b2i_tt, b2i_ff]; rfl) | (simp [join, joinG, joinP, c_2, c_37, gi_sl, gi_sA, gi_sB, gi_si_s, gi_si_n, gl_si, gl_sA, gl_sB, gl_sl_s, gl_sl_n, gA_si, gA_sl, gA_sB, gA_sA_s, gA_sA_n, gB_si, gB_sl, gB_sA, gB_sB_s, gB_sB_n, Nat.reduceBEq]; done))) rfl rfl rfl rfl rfl, ⟨by rw [ht]; exact hP, va_K.moved hW.alike hK, hD⟩⟩, hS.F ht⟩) hS.2.2 dX1_join_103
    · have c_37 : (hs (rdL (gB fl 0) 40 k1) 40) = true := b2i_1 c_37
      exact W.vret hx hb hr (fun t ht hW => ⟨⟨(XW ad cI cJ co fl ra li re wa pi), rfl, xw_eq rfl (show fl = (join fl k1 k2 k3) from (by first | (simp only [join, joinG, joinP, if_neg c_2, decide_eq_false c_2, decide_eq_true c_2, if_pos c_2, if_pos c_37, c_37, gi_sl, gi_sA, gi_sB, gi_si_s, gi_si_n, gl_si, gl_sA, gl_sB, gl_sl_s, gl_sl_n, gA_si, gA_sl, gA_sB, gA_sA_s, gA_sA_n, gB_si, gB_sl, gB_sA, gB_sB_s, gB_sB_n, Nat.reduceBEq, if_true, if_false, eq_self, Bool.false_eq_true, reduceCtorEq, not_true_eq_false, not_false_eq_true, decide_true, decide_false, cond_true, cond_false, Bool.true_and, Bool.false_and, Bool.and_true, Bool.and_false, Bool.true_or, Bool.false_or, Bool.or_true, Bool.or_false, b2i_tt, b2i_ff]; done) | (simp only [join, joinG, joinP, if_neg c_2, decide_eq_false c_2, decide_eq_true c_2, if_pos c_2, if_pos c_37, c_37, gi_sl, gi_sA, gi_sB, gi_si_s, gi_si_n, gl_si, gl_sA, gl_sB, gl_sl_s, gl_sl_n, gA_si, gA_sl, gA_sB, gA_sA_s, gA_sA_n, gB_si, gB_sl, gB_sA, gB_sB_s, gB_sB_n, Nat.reduceBEq, if_true, if_false, eq_self, Bool.false_eq_true, reduceCtorEq, not_true_eq_false, not_false_eq_true, decide_true, decide_false, cond_true, cond_false, Bool.true_and, Bool.false_and, Bool.and_true, Bool.and_false, Bool.true_or, Bool.false_or, Bool.or_true, Bool.or_false, b2i_tt, b2i_ff]; rfl) | (simp [join, joinG, joinP, c_2, c_37, gi_sl, gi_sA, gi_sB, gi_si_s, gi_si_n, gl_si, gl_sA, gl_sB, gl_sl_s, gl_sl_n, gA_si, gA_sl, gA_sB, gA_sA_s, gA_sA_n, gB_si, gB_sl, gB_sA, gB_sB_s, gB_sB_n, Nat.reduceBEq]; done))) rfl rfl rfl rfl rfl, ⟨by rw [ht]; exact hP, va_K.moved hW.alike hK, hD⟩⟩, hS.F ht⟩) hS.2.2 dX1_join_40
  · have c_2 : k2 < k3 := i_nge c_2
    refine lv_aload_n hx hb dX1_join_5 rfl (lv_at hl 0 rfl) ?_
    refine va_get (D := D) (ci := 1) (v := .ref (ad 12)) (C := RX1) (T := TX1) (N := 11) hx hb hg inGX1 hown hK hP 2 rfl rfl 0 (by decide) (hg _ mw_91) (fun _ h9 => h9) rfl dX1_join_6 ?_
    refine lv_iload_n hx hb dX1_join_9 rfl (lv_at hl 2 rfl) ?_
    refine kI (rSN hx hb hml hown hg hN hK hP hD (c_at l D cI cJ (XW ad cI cJ co fl ra li re wa pi) 12 (ad 12) 40 (gA fl 0) k2 rfl (by decide)) mw_84 nw_65 mw_85 mw_77 pd_X7_at ⟨Nat.le_of_ble_eq_true rfl, Nat.le_of_ble_eq_true rfl⟩ rfl hl.1 rfl (Nat.le_of_ble_eq_true rfl) dX1_join_10 ⟨Nat.le_of_ble_eq_true rfl, Nat.le_of_ble_eq_true rfl⟩) hD hS hA (fun r_7 u_7 H locs hp hP hD hS => ?_)
    obtain ⟨er, eu⟩ := hp
    obtain rfl := er.symm
    obtain rfl := eu.symm
    refine lv_goto (tgt := 18) hx hb dX1_join_13 (by decide) ?_
    refine lv_istore (lv' := [(4, .int (rd (gA fl 0) 40 k2)), (0, .ref (ad 2)), (1, .int k1), (2, .int k2), (3, .int k3)]) hx hb dX1_join_18 hl (by decide) rfl (fun ls hl => ?_)
    refine lv_aload_n hx hb dX1_join_20 rfl (lv_at hl 1 rfl) ?_
    refine va_get (D := D) (ci := 1) (v := .ref (ad 18)) (C := RX1) (T := TX1) (N := 11) hx hb hg inGX1 hown hK hP 2 rfl rfl 6 (by decide) (hg _ mw_96) (fun _ h9 => h9) rfl dX1_join_21 ?_
    refine lv_iload_n hx hb dX1_join_24 rfl (lv_at hl 2 rfl) ?_
    refine kL (rSN hx hb hml hown hg hN hK hP hD (c_atL l D cI cJ (XW ad cI cJ co fl ra li re wa pi) 18 (ad 18) 40 (gB fl 0) k1 rfl (by decide)) mw_81 nw_71 mw_83 mw_77 pd_X7_at_ ⟨Nat.le_of_ble_eq_true rfl, Nat.le_of_ble_eq_true rfl⟩ rfl hl.1 rfl (Nat.le_of_ble_eq_true rfl) dX1_join_25 ⟨Nat.le_of_ble_eq_true rfl, Nat.le_of_ble_eq_true rfl⟩) hD hS hA (fun r_8 u_8 H locs hp hP hD hS => ?_)
    obtain ⟨er, eu⟩ := hp
    obtain rfl := er.symm
    obtain rfl := eu.symm
    refine lv_lstore (lv' := [(5, .long (rdL (gB fl 0) 40 k1)), (4, .int (rd (gA fl 0) 40 k2)), (0, .ref (ad 2)), (1, .int k1), (2, .int k2), (3, .int k3)]) hx hb dX1_join_28 hl (by decide) rfl (fun ls hl => ?_)
    refine lv_lload hx hb dX1_join_30 (lv_at hl 0 rfl) ?_
    refine lv_iload hx hb dX1_join_32 (lv_at hl 1 rfl) ?_
    refine kI (rSN hx hb hml hown hg hN hK hP hD (c_has l D cI cJ (XW ad cI cJ co fl ra li re wa pi) (rdL (gB fl 0) 40 k1) (rd (gA fl 0) 40 k2)) mw_89 nw_68 mw_90 mw_77 pd_X7_has ⟨Nat.le_of_ble_eq_true rfl, Nat.le_of_ble_eq_true rfl⟩ rfl hl.1 rfl (Nat.le_of_ble_eq_true rfl) dX1_join_34 ⟨Nat.le_of_ble_eq_true rfl, Nat.le_of_ble_eq_true rfl⟩) hD hS hA (fun r_9 u_9 H locs hp hP hD hS => ?_)
    obtain ⟨er, eu⟩ := hp
    obtain rfl := er.symm
    obtain rfl := eu.symm
    refine lv_if_eq (tgt := 41) hx hb dX1_join_37 (by decide) (fun c_37 => ?_) (fun c_37 => ?_)
    · have c_37 : ¬ (hs (rdL (gB fl 0) 40 k1) (rd (gA fl 0) 40 k2)) = true := b2i_0 c_37
      refine lv_aload_n hx hb dX1_join_41 rfl (lv_at hl 2 rfl) ?_
      refine va_get (D := D) (ci := 1) (v := .ref (ad 18)) (C := RX1) (T := TX1) (N := 11) hx hb hg inGX1 hown hK hP 2 rfl rfl 6 (by decide) (hg _ mw_96) (fun _ h9 => h9) rfl dX1_join_42 ?_
      refine lv_iload_n hx hb dX1_join_45 rfl (lv_at hl 3 rfl) ?_
      refine lv_lload hx hb dX1_join_46 (lv_at hl 0 rfl) ?_
      refine lv_iload hx hb dX1_join_48 (lv_at hl 1 rfl) ?_
      refine kL (rSN hx hb hml hown hg hN hK hP hD (c_bit l D cI cJ (XW ad cI cJ co fl ra li re wa pi) (rd (gA fl 0) 40 k2)) mw_78 nw_66 mw_80 mw_77 pd_X7_bit ⟨Nat.le_of_ble_eq_true rfl, Nat.le_of_ble_eq_true rfl⟩ rfl hl.1 rfl (Nat.le_of_ble_eq_true rfl) dX1_join_50 ⟨Nat.le_of_ble_eq_true rfl, Nat.le_of_ble_eq_true rfl⟩) hD hS hA (fun r_10 u_10 H locs hp hP hD hS => ?_)
      obtain ⟨er, eu⟩ := hp
      obtain rfl := er.symm
      obtain rfl := eu.symm
      refine lv_lor hx hb dX1_join_53 ?_
      refine kV (rSN hx hb hml hown hg hN hK hP hD (c_putL l D cI cJ (XW ad cI cJ co fl ra li re wa pi) 18 (ad 18) 40 (gB fl 0) k1 ((rdL (gB fl 0) 40 k1) ||| (bitL (rd (gA fl 0) 40 k2))) rfl (by decide)) mw_97 nw_70 mw_98 mw_77 pd_X7_put_ ⟨Nat.le_of_ble_eq_true rfl, Nat.le_of_ble_eq_true rfl⟩ rfl hl.1 rfl (Nat.le_of_ble_eq_true rfl) dX1_join_54 ⟨Nat.le_of_ble_eq_true rfl, Nat.le_of_ble_eq_true rfl⟩) hD hS hA (fun u_11 H locs hp hP hD hS => ?_)
      obtain rfl := hp.symm
      have hP : va_P D vwCl (XW ad cI cJ co (sB fl 0 (wrL (gB fl 0) 40 k1 ((rdL (gB fl 0) 40 k1) ||| (bitL (rd (gA fl 0) 40 k2))))) ra li re wa pi) H := hP
      have hD : va_D A (XW ad cI cJ co (sB fl 0 (wrL (gB fl 0) 40 k1 ((rdL (gB fl 0) 40 k1) ||| (bitL (rd (gA fl 0) 40 k2))))) ra li re wa pi) := hD
      refine lv_aload_n hx hb dX1_join_57 rfl (lv_at hl 2 rfl) ?_
      refine va_get (D := D) (ci := 1) (v := .ref (ad 15)) (C := RX1) (T := TX1) (N := 11) hx hb hg inGX1 hown hK hP 2 rfl rfl 3 (by decide) (hg _ mw_99) (fun _ h9 => h9) rfl dX1_join_58 ?_
      refine lv_aload_n hx hb dX1_join_61 rfl (lv_at hl 2 rfl) ?_
      refine va_get (D := D) (ci := 1) (v := .int (gi fl 1)) (C := RX1) (T := TX1) (N := 11) hx hb hg inGX1 hown hK hP 2 rfl rfl 8 (by decide) (hg _ mw_100) (fun _ h9 => h9) rfl dX1_join_62 ?_
      refine lv_iload_n hx hb dX1_join_65 rfl (lv_at hl 3 rfl) ?_
      refine kV (rSN hx hb hml hown hg hN hK hP hD (c_put l D cI cJ (XW ad cI cJ co (sB fl 0 (wrL (gB fl 0) 40 k1 ((rdL (gB fl 0) 40 k1) ||| (bitL (rd (gA fl 0) 40 k2))))) ra li re wa pi) 15 (ad 15) 80 (gA fl 3) (gi fl 1) k1 rfl (by decide)) mw_92 nw_69 mw_93 mw_77 pd_X7_put ⟨Nat.le_of_ble_eq_true rfl, Nat.le_of_ble_eq_true rfl⟩ rfl hl.1 rfl (Nat.le_of_ble_eq_true rfl) dX1_join_66 ⟨Nat.le_of_ble_eq_true rfl, Nat.le_of_ble_eq_true rfl⟩) hD hS hA (fun u_12 H locs hp hP hD hS => ?_)
      obtain rfl := hp.symm
      have hP : va_P D vwCl (XW ad cI cJ co (sA (sB fl 0 (wrL (gB fl 0) 40 k1 ((rdL (gB fl 0) 40 k1) ||| (bitL (rd (gA fl 0) 40 k2))))) 3 (wr (gA fl 3) 80 (gi fl 1) k1)) ra li re wa pi) H := hP
      have hD : va_D A (XW ad cI cJ co (sA (sB fl 0 (wrL (gB fl 0) 40 k1 ((rdL (gB fl 0) 40 k1) ||| (bitL (rd (gA fl 0) 40 k2))))) 3 (wr (gA fl 3) 80 (gi fl 1) k1)) ra li re wa pi) := hD
      refine lv_aload_n hx hb dX1_join_69 rfl (lv_at hl 2 rfl) ?_
      refine va_get (D := D) (ci := 1) (v := .ref (ad 16)) (C := RX1) (T := TX1) (N := 11) hx hb hg inGX1 hown hK hP 2 rfl rfl 4 (by decide) (hg _ mw_101) (fun _ h9 => h9) rfl dX1_join_70 ?_
      refine lv_aload_n hx hb dX1_join_73 rfl (lv_at hl 2 rfl) ?_
      refine va_get (D := D) (ci := 1) (v := .int (gi fl 1)) (C := RX1) (T := TX1) (N := 11) hx hb hg inGX1 hown hK hP 2 rfl rfl 8 (by decide) (hg _ mw_100) (fun _ h9 => h9) rfl dX1_join_74 ?_
      refine lv_iload hx hb dX1_join_77 (lv_at hl 1 rfl) ?_
      refine lv_bipush (v := 40) hx hb dX1_join_79 (by decide) ?_
      refine lv_icmp_ne (tgt := 88) hx hb dX1_join_81 (by decide) (fun c_81 => ?_) (fun c_81 => ?_)
      · refine lv_iload hx hb dX1_join_88 (lv_at hl 1 rfl) ?_
        refine kV (rSN hx hb hml hown hg hN hK hP hD (c_put l D cI cJ (XW ad cI cJ co (sA (sB fl 0 (wrL (gB fl 0) 40 k1 ((rdL (gB fl 0) 40 k1) ||| (bitL (rd (gA fl 0) 40 k2))))) 3 (wr (gA fl 3) 80 (gi fl 1) k1)) ra li re wa pi) 16 (ad 16) 80 (gA fl 4) (gi fl 1) (rd (gA fl 0) 40 k2) rfl (by decide)) mw_92 nw_69 mw_93 mw_77 pd_X7_put ⟨Nat.le_of_ble_eq_true rfl, Nat.le_of_ble_eq_true rfl⟩ rfl hl.1 rfl (Nat.le_of_ble_eq_true rfl) dX1_join_90 ⟨Nat.le_of_ble_eq_true rfl, Nat.le_of_ble_eq_true rfl⟩) hD hS hA (fun u_13 H locs hp hP hD hS => ?_)
        obtain rfl := hp.symm
        have hP : va_P D vwCl (XW ad cI cJ co (sA (sA (sB fl 0 (wrL (gB fl 0) 40 k1 ((rdL (gB fl 0) 40 k1) ||| (bitL (rd (gA fl 0) 40 k2))))) 3 (wr (gA fl 3) 80 (gi fl 1) k1)) 4 (wr (gA fl 4) 80 (gi fl 1) (rd (gA fl 0) 40 k2))) ra li re wa pi) H := hP
        have hD : va_D A (XW ad cI cJ co (sA (sA (sB fl 0 (wrL (gB fl 0) 40 k1 ((rdL (gB fl 0) 40 k1) ||| (bitL (rd (gA fl 0) 40 k2))))) 3 (wr (gA fl 3) 80 (gi fl 1) k1)) 4 (wr (gA fl 4) 80 (gi fl 1) (rd (gA fl 0) 40 k2))) ra li re wa pi) := hD
        refine lv_aload_n hx hb dX1_join_93 rfl (lv_at hl 2 rfl) ?_
        refine lv_dup hx hb dX1_join_94 rfl ?_
        refine va_get (D := D) (ci := 1) (v := .int (gi fl 1)) (C := RX1) (T := TX1) (N := 11) hx hb hg inGX1 hown hK hP 2 rfl rfl 8 (by decide) (hg _ mw_100) (fun _ h9 => h9) rfl dX1_join_95 ?_
        refine lv_iconst (v := 1) hx hb dX1_join_98 (by decide) ?_
        refine lv_iadd hx hb dX1_join_99 ?_
        refine va_put (D := D) (ci := 1) (v := .int ((gi fl 1) + 1)) (C := RX1) (T := TX1) (N := 11) hx hb hg inGX1 tyX1 tyX1_ok nmX1 hown hK hP hD hS 2 rfl rfl 8 (by decide) (hg _ mw_100) (fun _ h9 => h9) rfl (tyX1_ok 8 (by decide)) rfl rfl (Nat.le_of_ble_eq_true rfl) dX1_join_100 (fun H locs hP hD hS => ?_)
        have hP : va_P D vwCl (XW ad cI cJ co (si (sA (sA (sB fl 0 (wrL (gB fl 0) 40 k1 ((rdL (gB fl 0) 40 k1) ||| (bitL (rd (gA fl 0) 40 k2))))) 3 (wr (gA fl 3) 80 (gi fl 1) k1)) 4 (wr (gA fl 4) 80 (gi fl 1) (rd (gA fl 0) 40 k2))) 1 ((gi fl 1) + 1)) ra li re wa pi) H := hP
        have hD : va_D A (XW ad cI cJ co (si (sA (sA (sB fl 0 (wrL (gB fl 0) 40 k1 ((rdL (gB fl 0) 40 k1) ||| (bitL (rd (gA fl 0) 40 k2))))) 3 (wr (gA fl 3) 80 (gi fl 1) k1)) 4 (wr (gA fl 4) 80 (gi fl 1) (rd (gA fl 0) 40 k2))) 1 ((gi fl 1) + 1)) ra li re wa pi) := hD
        exact W.vret hx hb hr (fun t ht hW => ⟨⟨(XW ad cI cJ co (si (sA (sA (sB fl 0 (wrL (gB fl 0) 40 k1 ((rdL (gB fl 0) 40 k1) ||| (bitL (rd (gA fl 0) 40 k2))))) 3 (wr (gA fl 3) 80 (gi fl 1) k1)) 4 (wr (gA fl 4) 80 (gi fl 1) (rd (gA fl 0) 40 k2))) 1 ((gi fl 1) + 1)) ra li re wa pi), rfl, xw_eq rfl (show (si (sA (sA (sB fl 0 (wrL (gB fl 0) 40 k1 ((rdL (gB fl 0) 40 k1) ||| (bitL (rd (gA fl 0) 40 k2))))) 3 (wr (gA fl 3) 80 (gi fl 1) k1)) 4 (wr (gA fl 4) 80 (gi fl 1) (rd (gA fl 0) 40 k2))) 1 ((gi fl 1) + 1)) = (join fl k1 k2 k3) from (by first | (simp only [join, joinG, joinP, if_pos c_2, decide_eq_true c_2, decide_eq_false (not_not_intro c_2), if_neg c_37, bf_of c_37, if_neg c_81, decide_eq_false c_81, decide_eq_true c_81, if_pos c_81, gi_sl, gi_sA, gi_sB, gi_si_s, gi_si_n, gl_si, gl_sA, gl_sB, gl_sl_s, gl_sl_n, gA_si, gA_sl, gA_sB, gA_sA_s, gA_sA_n, gB_si, gB_sl, gB_sA, gB_sB_s, gB_sB_n, Nat.reduceBEq, if_true, if_false, eq_self, Bool.false_eq_true, reduceCtorEq, not_true_eq_false, not_false_eq_true, decide_true, decide_false, cond_true, cond_false, Bool.true_and, Bool.false_and, Bool.and_true, Bool.and_false, Bool.true_or, Bool.false_or, Bool.or_true, Bool.or_false, b2i_tt, b2i_ff]; done) | (simp only [join, joinG, joinP, if_pos c_2, decide_eq_true c_2, decide_eq_false (not_not_intro c_2), if_neg c_37, bf_of c_37, if_neg c_81, decide_eq_false c_81, decide_eq_true c_81, if_pos c_81, gi_sl, gi_sA, gi_sB, gi_si_s, gi_si_n, gl_si, gl_sA, gl_sB, gl_sl_s, gl_sl_n, gA_si, gA_sl, gA_sB, gA_sA_s, gA_sA_n, gB_si, gB_sl, gB_sA, gB_sB_s, gB_sB_n, Nat.reduceBEq, if_true, if_false, eq_self, Bool.false_eq_true, reduceCtorEq, not_true_eq_false, not_false_eq_true, decide_true, decide_false, cond_true, cond_false, Bool.true_and, Bool.false_and, Bool.and_true, Bool.and_false, Bool.true_or, Bool.false_or, Bool.or_true, Bool.or_false, b2i_tt, b2i_ff]; rfl) | (simp [join, joinG, joinP, c_2, c_37, c_81, gi_sl, gi_sA, gi_sB, gi_si_s, gi_si_n, gl_si, gl_sA, gl_sB, gl_sl_s, gl_sl_n, gA_si, gA_sl, gA_sB, gA_sA_s, gA_sA_n, gB_si, gB_sl, gB_sA, gB_sB_s, gB_sB_n, Nat.reduceBEq]; done))) rfl rfl rfl rfl rfl, ⟨by rw [ht]; exact hP, va_K.moved hW.alike hK, hD⟩⟩, hS.F ht⟩) hS.2.2 dX1_join_103
      · refine lv_iconst (v := (-1)) hx hb dX1_join_84 (by decide) ?_
        refine lv_goto (tgt := 90) hx hb dX1_join_85 (by decide) ?_
        refine kV (rSN hx hb hml hown hg hN hK hP hD (c_put l D cI cJ (XW ad cI cJ co (sA (sB fl 0 (wrL (gB fl 0) 40 k1 ((rdL (gB fl 0) 40 k1) ||| (bitL (rd (gA fl 0) 40 k2))))) 3 (wr (gA fl 3) 80 (gi fl 1) k1)) ra li re wa pi) 16 (ad 16) 80 (gA fl 4) (gi fl 1) (-1) rfl (by decide)) mw_92 nw_69 mw_93 mw_77 pd_X7_put ⟨Nat.le_of_ble_eq_true rfl, Nat.le_of_ble_eq_true rfl⟩ rfl hl.1 rfl (Nat.le_of_ble_eq_true rfl) dX1_join_90 ⟨Nat.le_of_ble_eq_true rfl, Nat.le_of_ble_eq_true rfl⟩) hD hS hA (fun u_14 H locs hp hP hD hS => ?_)
        obtain rfl := hp.symm
        have hP : va_P D vwCl (XW ad cI cJ co (sA (sA (sB fl 0 (wrL (gB fl 0) 40 k1 ((rdL (gB fl 0) 40 k1) ||| (bitL (rd (gA fl 0) 40 k2))))) 3 (wr (gA fl 3) 80 (gi fl 1) k1)) 4 (wr (gA fl 4) 80 (gi fl 1) (-1))) ra li re wa pi) H := hP
        have hD : va_D A (XW ad cI cJ co (sA (sA (sB fl 0 (wrL (gB fl 0) 40 k1 ((rdL (gB fl 0) 40 k1) ||| (bitL (rd (gA fl 0) 40 k2))))) 3 (wr (gA fl 3) 80 (gi fl 1) k1)) 4 (wr (gA fl 4) 80 (gi fl 1) (-1))) ra li re wa pi) := hD
        refine lv_aload_n hx hb dX1_join_93 rfl (lv_at hl 2 rfl) ?_
        refine lv_dup hx hb dX1_join_94 rfl ?_
        refine va_get (D := D) (ci := 1) (v := .int (gi fl 1)) (C := RX1) (T := TX1) (N := 11) hx hb hg inGX1 hown hK hP 2 rfl rfl 8 (by decide) (hg _ mw_100) (fun _ h9 => h9) rfl dX1_join_95 ?_
        refine lv_iconst (v := 1) hx hb dX1_join_98 (by decide) ?_
        refine lv_iadd hx hb dX1_join_99 ?_
        refine va_put (D := D) (ci := 1) (v := .int ((gi fl 1) + 1)) (C := RX1) (T := TX1) (N := 11) hx hb hg inGX1 tyX1 tyX1_ok nmX1 hown hK hP hD hS 2 rfl rfl 8 (by decide) (hg _ mw_100) (fun _ h9 => h9) rfl (tyX1_ok 8 (by decide)) rfl rfl (Nat.le_of_ble_eq_true rfl) dX1_join_100 (fun H locs hP hD hS => ?_)
        have hP : va_P D vwCl (XW ad cI cJ co (si (sA (sA (sB fl 0 (wrL (gB fl 0) 40 k1 ((rdL (gB fl 0) 40 k1) ||| (bitL (rd (gA fl 0) 40 k2))))) 3 (wr (gA fl 3) 80 (gi fl 1) k1)) 4 (wr (gA fl 4) 80 (gi fl 1) (-1))) 1 ((gi fl 1) + 1)) ra li re wa pi) H := hP
        have hD : va_D A (XW ad cI cJ co (si (sA (sA (sB fl 0 (wrL (gB fl 0) 40 k1 ((rdL (gB fl 0) 40 k1) ||| (bitL (rd (gA fl 0) 40 k2))))) 3 (wr (gA fl 3) 80 (gi fl 1) k1)) 4 (wr (gA fl 4) 80 (gi fl 1) (-1))) 1 ((gi fl 1) + 1)) ra li re wa pi) := hD
        exact W.vret hx hb hr (fun t ht hW => ⟨⟨(XW ad cI cJ co (si (sA (sA (sB fl 0 (wrL (gB fl 0) 40 k1 ((rdL (gB fl 0) 40 k1) ||| (bitL (rd (gA fl 0) 40 k2))))) 3 (wr (gA fl 3) 80 (gi fl 1) k1)) 4 (wr (gA fl 4) 80 (gi fl 1) (-1))) 1 ((gi fl 1) + 1)) ra li re wa pi), rfl, xw_eq rfl (show (si (sA (sA (sB fl 0 (wrL (gB fl 0) 40 k1 ((rdL (gB fl 0) 40 k1) ||| (bitL (rd (gA fl 0) 40 k2))))) 3 (wr (gA fl 3) 80 (gi fl 1) k1)) 4 (wr (gA fl 4) 80 (gi fl 1) (-1))) 1 ((gi fl 1) + 1)) = (join fl k1 k2 k3) from (by first | (simp only [join, joinG, joinP, if_pos c_2, decide_eq_true c_2, decide_eq_false (not_not_intro c_2), if_neg c_37, bf_of c_37, if_pos c_81, decide_eq_true c_81, decide_eq_false (not_not_intro c_81), gi_sl, gi_sA, gi_sB, gi_si_s, gi_si_n, gl_si, gl_sA, gl_sB, gl_sl_s, gl_sl_n, gA_si, gA_sl, gA_sB, gA_sA_s, gA_sA_n, gB_si, gB_sl, gB_sA, gB_sB_s, gB_sB_n, Nat.reduceBEq, if_true, if_false, eq_self, Bool.false_eq_true, reduceCtorEq, not_true_eq_false, not_false_eq_true, decide_true, decide_false, cond_true, cond_false, Bool.true_and, Bool.false_and, Bool.and_true, Bool.and_false, Bool.true_or, Bool.false_or, Bool.or_true, Bool.or_false, b2i_tt, b2i_ff]; done) | (simp only [join, joinG, joinP, if_pos c_2, decide_eq_true c_2, decide_eq_false (not_not_intro c_2), if_neg c_37, bf_of c_37, if_pos c_81, decide_eq_true c_81, decide_eq_false (not_not_intro c_81), gi_sl, gi_sA, gi_sB, gi_si_s, gi_si_n, gl_si, gl_sA, gl_sB, gl_sl_s, gl_sl_n, gA_si, gA_sl, gA_sB, gA_sA_s, gA_sA_n, gB_si, gB_sl, gB_sA, gB_sB_s, gB_sB_n, Nat.reduceBEq, if_true, if_false, eq_self, Bool.false_eq_true, reduceCtorEq, not_true_eq_false, not_false_eq_true, decide_true, decide_false, cond_true, cond_false, Bool.true_and, Bool.false_and, Bool.and_true, Bool.and_false, Bool.true_or, Bool.false_or, Bool.or_true, Bool.or_false, b2i_tt, b2i_ff]; rfl) | (simp [join, joinG, joinP, c_2, c_37, c_81, gi_sl, gi_sA, gi_sB, gi_si_s, gi_si_n, gl_si, gl_sA, gl_sB, gl_sl_s, gl_sl_n, gA_si, gA_sl, gA_sB, gA_sA_s, gA_sA_n, gB_si, gB_sl, gB_sA, gB_sB_s, gB_sB_n, Nat.reduceBEq]; done))) rfl rfl rfl rfl rfl, ⟨by rw [ht]; exact hP, va_K.moved hW.alike hK, hD⟩⟩, hS.F ht⟩) hS.2.2 dX1_join_103
    · have c_37 : (hs (rdL (gB fl 0) 40 k1) (rd (gA fl 0) 40 k2)) = true := b2i_1 c_37
      exact W.vret hx hb hr (fun t ht hW => ⟨⟨(XW ad cI cJ co fl ra li re wa pi), rfl, xw_eq rfl (show fl = (join fl k1 k2 k3) from (by first | (simp only [join, joinG, joinP, if_pos c_2, decide_eq_true c_2, decide_eq_false (not_not_intro c_2), if_pos c_37, c_37, gi_sl, gi_sA, gi_sB, gi_si_s, gi_si_n, gl_si, gl_sA, gl_sB, gl_sl_s, gl_sl_n, gA_si, gA_sl, gA_sB, gA_sA_s, gA_sA_n, gB_si, gB_sl, gB_sA, gB_sB_s, gB_sB_n, Nat.reduceBEq, if_true, if_false, eq_self, Bool.false_eq_true, reduceCtorEq, not_true_eq_false, not_false_eq_true, decide_true, decide_false, cond_true, cond_false, Bool.true_and, Bool.false_and, Bool.and_true, Bool.and_false, Bool.true_or, Bool.false_or, Bool.or_true, Bool.or_false, b2i_tt, b2i_ff]; done) | (simp only [join, joinG, joinP, if_pos c_2, decide_eq_true c_2, decide_eq_false (not_not_intro c_2), if_pos c_37, c_37, gi_sl, gi_sA, gi_sB, gi_si_s, gi_si_n, gl_si, gl_sA, gl_sB, gl_sl_s, gl_sl_n, gA_si, gA_sl, gA_sB, gA_sA_s, gA_sA_n, gB_si, gB_sl, gB_sA, gB_sB_s, gB_sB_n, Nat.reduceBEq, if_true, if_false, eq_self, Bool.false_eq_true, reduceCtorEq, not_true_eq_false, not_false_eq_true, decide_true, decide_false, cond_true, cond_false, Bool.true_and, Bool.false_and, Bool.and_true, Bool.and_false, Bool.true_or, Bool.false_or, Bool.or_true, Bool.or_false, b2i_tt, b2i_ff]; rfl) | (simp [join, joinG, joinP, c_2, c_37, gi_sl, gi_sA, gi_sB, gi_si_s, gi_si_n, gl_si, gl_sA, gl_sB, gl_sl_s, gl_sl_n, gA_si, gA_sl, gA_sB, gA_sA_s, gA_sA_n, gB_si, gB_sl, gB_sA, gB_sB_s, gB_sB_n, Nat.reduceBEq]; done))) rfl rfl rfl rfl rfl, ⟨by rw [ht]; exact hP, va_K.moved hW.alike hK, hD⟩⟩, hS.F ht⟩) hS.2.2 dX1_join_40
set_option maxHeartbeats 4000000 in
set_option maxRecDepth 100000 in
theorem c_leave (l : Launch) (D : va_G) (cI cJ : ClassId) (ad : Nat → Nat) (co fl ra li re wa pi : Ob) (k1 : Int32) : CT l D (TY cI cJ) yX1_leave (.code yX1_leave cX1_leave 5 (none : Option FieldType)) 2 0 0 (XW ad cI cJ co fl ra li re wa pi) [.ref (ad 2), .ref (ad 1), .int k1] (QV D (TY cI cJ) (fun u => u = (XW ad cI cJ co (leave co fl k1) ra li re wa pi))) := by
  refine ent (by decide) (Nat.le_of_ble_eq_true rfl) ?_
  intro p e s m below meth c ls A hx hb hr hg hown hml hlocks hnm hP hK hD hS hA hN hl
  have hl : lv_has ls 5 [(0, .ref (ad 2)), (1, .ref (ad 1)), (2, .int k1)] := hl
  refine lv_aload_n hx hb dX1_leave_0 rfl (lv_at hl 0 rfl) ?_
  refine va_get (D := D) (ci := 1) (v := .ref (ad 14)) (C := RX1) (T := TX1) (N := 11) hx hb hg inGX1 hown hK hP 2 rfl rfl 2 (by decide) (hg _ mw_94) (fun _ h9 => h9) rfl dX1_leave_1 ?_
  refine lv_iload_n hx hb dX1_leave_4 rfl (lv_at hl 2 rfl) ?_
  refine kI (rSN hx hb hml hown hg hN hK hP hD (c_at l D cI cJ (XW ad cI cJ co fl ra li re wa pi) 14 (ad 14) 40 (gA fl 2) k1 rfl (by decide)) mw_84 nw_65 mw_85 mw_77 pd_X7_at ⟨Nat.le_of_ble_eq_true rfl, Nat.le_of_ble_eq_true rfl⟩ rfl hl.1 rfl (Nat.le_of_ble_eq_true rfl) dX1_leave_5 ⟨Nat.le_of_ble_eq_true rfl, Nat.le_of_ble_eq_true rfl⟩) hD hS hA (fun r_1 u_1 H locs hp hP hD hS => ?_)
  obtain ⟨er, eu⟩ := hp
  obtain rfl := er.symm
  obtain rfl := eu.symm
  refine lv_istore_n (lv' := [(3, .int (rd (gA fl 2) 40 k1)), (0, .ref (ad 2)), (1, .ref (ad 1)), (2, .int k1)]) hx hb dX1_leave_8 rfl hl (by decide) rfl (fun ls hl => ?_)
  refine lv_aload_n hx hb dX1_leave_9 rfl (lv_at hl 2 rfl) ?_
  refine va_getN (D := D) (ci := 0) (v := .ref (ad 8)) (C := RX0) (T := TX0) (N := 5) hx hb hg inGX0 hown hK hP 1 rfl rfl 0 (by decide) (hN.use nw_1) (fun _ h9 => h9) rfl dX1_leave_10 ?_
  refine lv_iload_n hx hb dX1_leave_13 rfl (lv_at hl 0 rfl) ?_
  refine kI (rSN hx hb hml hown hg hN hK hP hD (c_at l D cI cJ (XW ad cI cJ co fl ra li re wa pi) 8 (ad 8) 40 (gA co 0) (rd (gA fl 2) 40 k1) rfl (by decide)) mw_84 nw_65 mw_85 mw_77 pd_X7_at ⟨Nat.le_of_ble_eq_true rfl, Nat.le_of_ble_eq_true rfl⟩ rfl hl.1 rfl (Nat.le_of_ble_eq_true rfl) dX1_leave_14 ⟨Nat.le_of_ble_eq_true rfl, Nat.le_of_ble_eq_true rfl⟩) hD hS hA (fun r_2 u_2 H locs hp hP hD hS => ?_)
  obtain ⟨er, eu⟩ := hp
  obtain rfl := er.symm
  obtain rfl := eu.symm
  refine lv_istore (lv' := [(4, .int (rd (gA co 0) 40 (rd (gA fl 2) 40 k1))), (3, .int (rd (gA fl 2) 40 k1)), (0, .ref (ad 2)), (1, .ref (ad 1)), (2, .int k1)]) hx hb dX1_leave_17 hl (by decide) rfl (fun ls hl => ?_)
  refine lv_iload hx hb dX1_leave_19 (lv_at hl 0 rfl) ?_
  refine lv_if_eq (tgt := 30) hx hb dX1_leave_21 (by decide) (fun c_21 => ?_) (fun c_21 => ?_)
  · refine lv_aload_n hx hb dX1_leave_30 rfl (lv_at hl 2 rfl) ?_
    refine lv_iload_n hx hb dX1_leave_31 rfl (lv_at hl 4 rfl) ?_
    refine lv_iload_n hx hb dX1_leave_32 rfl (lv_at hl 1 rfl) ?_
    refine lv_iconst (v := 1) hx hb dX1_leave_33 (by decide) ?_
    refine lv_iadd hx hb dX1_leave_34 ?_
    refine lv_aload_n hx hb dX1_leave_35 rfl (lv_at hl 3 rfl) ?_
    refine va_getN (D := D) (ci := 0) (v := .int (gi co 0)) (C := RX0) (T := TX0) (N := 5) hx hb hg inGX0 hown hK hP 1 rfl rfl 4 (by decide) (hN.use nw_9) (fun _ h9 => h9) rfl dX1_leave_36 ?_
    refine kV (rV (q0 := 2) (ci := 1) hx hb hml hown hg hN hK hP hD (c_join l D cI cJ ad co fl ra li re wa pi k1 ((rd (gA fl 2) 40 k1) + 1) (gi co 0)) mw_102 mw_103 mw_104 mw_105 mw_106 pdv_X1_join ⟨Nat.le_of_ble_eq_true rfl, Nat.le_of_ble_eq_true rfl⟩ rfl rfl rfl hl.1 rfl (Nat.le_of_ble_eq_true rfl) dX1_leave_39 ⟨Nat.le_of_ble_eq_true rfl, Nat.le_of_ble_eq_true rfl⟩) hD hS hA (fun u_3 H locs hp hP hD hS => ?_)
    obtain rfl := hp.symm
    have hP : va_P D vwCl (XW ad cI cJ co (join fl k1 ((rd (gA fl 2) 40 k1) + 1) (gi co 0)) ra li re wa pi) H := hP
    have hD : va_D A (XW ad cI cJ co (join fl k1 ((rd (gA fl 2) 40 k1) + 1) (gi co 0)) ra li re wa pi) := hD
    refine lv_iload hx hb dX1_leave_42 (lv_at hl 0 rfl) ?_
    refine kI (rSN hx hb hml hown hg hN hK hP hD (c_jumps l D cI cJ (XW ad cI cJ co (join fl k1 ((rd (gA fl 2) 40 k1) + 1) (gi co 0)) ra li re wa pi) (rd (gA co 0) 40 (rd (gA fl 2) 40 k1))) mw_86 nw_67 mw_87 mw_77 pd_X7_jumps ⟨Nat.le_of_ble_eq_true rfl, Nat.le_of_ble_eq_true rfl⟩ rfl hl.1 rfl (Nat.le_of_ble_eq_true rfl) dX1_leave_44 ⟨Nat.le_of_ble_eq_true rfl, Nat.le_of_ble_eq_true rfl⟩) hD hS hA (fun r_4 u_4 H locs hp hP hD hS => ?_)
    obtain ⟨er, eu⟩ := hp
    obtain rfl := er.symm
    obtain rfl := eu.symm
    refine lv_if_eq (tgt := 67) hx hb dX1_leave_47 (by decide) (fun c_47 => ?_) (fun c_47 => ?_)
    · have c_47 : ¬ (jmp (rd (gA co 0) 40 (rd (gA fl 2) 40 k1))) = true := b2i_0 c_47
      refine lv_iload hx hb dX1_leave_67 (lv_at hl 0 rfl) ?_
      refine lv_iconst (v := 3) hx hb dX1_leave_69 (by decide) ?_
      refine lv_icmp_ne (tgt := 86) hx hb dX1_leave_70 (by decide) (fun c_70 => ?_) (fun c_70 => ?_)
      · exact W.vret hx hb hr (fun t ht hW => ⟨⟨(XW ad cI cJ co (join fl k1 ((rd (gA fl 2) 40 k1) + 1) (gi co 0)) ra li re wa pi), rfl, xw_eq rfl (show (join fl k1 ((rd (gA fl 2) 40 k1) + 1) (gi co 0)) = (leave co fl k1) from (by first | (simp only [leave, leaveA, leaveB, leaveC, leaveK, if_pos c_21, decide_eq_true c_21, decide_eq_false (not_not_intro c_21), if_neg c_47, bf_of c_47, if_neg c_70, decide_eq_false c_70, decide_eq_true c_70, if_pos c_70, gi_sl, gi_sA, gi_sB, gi_si_s, gi_si_n, gl_si, gl_sA, gl_sB, gl_sl_s, gl_sl_n, gA_si, gA_sl, gA_sB, gA_sA_s, gA_sA_n, gB_si, gB_sl, gB_sA, gB_sB_s, gB_sB_n, Nat.reduceBEq, if_true, if_false, eq_self, Bool.false_eq_true, reduceCtorEq, not_true_eq_false, not_false_eq_true, decide_true, decide_false, cond_true, cond_false, Bool.true_and, Bool.false_and, Bool.and_true, Bool.and_false, Bool.true_or, Bool.false_or, Bool.or_true, Bool.or_false, b2i_tt, b2i_ff]; done) | (simp only [leave, leaveA, leaveB, leaveC, leaveK, if_pos c_21, decide_eq_true c_21, decide_eq_false (not_not_intro c_21), if_neg c_47, bf_of c_47, if_neg c_70, decide_eq_false c_70, decide_eq_true c_70, if_pos c_70, gi_sl, gi_sA, gi_sB, gi_si_s, gi_si_n, gl_si, gl_sA, gl_sB, gl_sl_s, gl_sl_n, gA_si, gA_sl, gA_sB, gA_sA_s, gA_sA_n, gB_si, gB_sl, gB_sA, gB_sB_s, gB_sB_n, Nat.reduceBEq, if_true, if_false, eq_self, Bool.false_eq_true, reduceCtorEq, not_true_eq_false, not_false_eq_true, decide_true, decide_false, cond_true, cond_false, Bool.true_and, Bool.false_and, Bool.and_true, Bool.and_false, Bool.true_or, Bool.false_or, Bool.or_true, Bool.or_false, b2i_tt, b2i_ff]; rfl) | (simp [leave, leaveA, leaveB, leaveC, leaveK, c_21, c_47, c_70, gi_sl, gi_sA, gi_sB, gi_si_s, gi_si_n, gl_si, gl_sA, gl_sB, gl_sl_s, gl_sl_n, gA_si, gA_sl, gA_sB, gA_sA_s, gA_sA_n, gB_si, gB_sl, gB_sA, gB_sB_s, gB_sB_n, Nat.reduceBEq]; done))) rfl rfl rfl rfl rfl, ⟨by rw [ht]; exact hP, va_K.moved hW.alike hK, hD⟩⟩, hS.F ht⟩) hS.2.2 dX1_leave_86
      · refine lv_aload_n hx hb dX1_leave_73 rfl (lv_at hl 2 rfl) ?_
        refine lv_iload_n hx hb dX1_leave_74 rfl (lv_at hl 4 rfl) ?_
        refine lv_aload_n hx hb dX1_leave_75 rfl (lv_at hl 3 rfl) ?_
        refine va_getN (D := D) (ci := 0) (v := .int (gi co 0)) (C := RX0) (T := TX0) (N := 5) hx hb hg inGX0 hown hK hP 1 rfl rfl 4 (by decide) (hN.use nw_9) (fun _ h9 => h9) rfl dX1_leave_76 ?_
        refine lv_aload_n hx hb dX1_leave_79 rfl (lv_at hl 3 rfl) ?_
        refine va_getN (D := D) (ci := 0) (v := .int (gi co 0)) (C := RX0) (T := TX0) (N := 5) hx hb hg inGX0 hown hK hP 1 rfl rfl 4 (by decide) (hN.use nw_9) (fun _ h9 => h9) rfl dX1_leave_80 ?_
        refine kV (rV (q0 := 2) (ci := 1) hx hb hml hown hg hN hK hP hD (c_join l D cI cJ ad co (join fl k1 ((rd (gA fl 2) 40 k1) + 1) (gi co 0)) ra li re wa pi k1 (gi co 0) (gi co 0)) mw_102 mw_103 mw_104 mw_105 mw_106 pdv_X1_join ⟨Nat.le_of_ble_eq_true rfl, Nat.le_of_ble_eq_true rfl⟩ rfl rfl rfl hl.1 rfl (Nat.le_of_ble_eq_true rfl) dX1_leave_83 ⟨Nat.le_of_ble_eq_true rfl, Nat.le_of_ble_eq_true rfl⟩) hD hS hA (fun u_5 H locs hp hP hD hS => ?_)
        obtain rfl := hp.symm
        have hP : va_P D vwCl (XW ad cI cJ co (join (join fl k1 ((rd (gA fl 2) 40 k1) + 1) (gi co 0)) k1 (gi co 0) (gi co 0)) ra li re wa pi) H := hP
        have hD : va_D A (XW ad cI cJ co (join (join fl k1 ((rd (gA fl 2) 40 k1) + 1) (gi co 0)) k1 (gi co 0) (gi co 0)) ra li re wa pi) := hD
        exact W.vret hx hb hr (fun t ht hW => ⟨⟨(XW ad cI cJ co (join (join fl k1 ((rd (gA fl 2) 40 k1) + 1) (gi co 0)) k1 (gi co 0) (gi co 0)) ra li re wa pi), rfl, xw_eq rfl (show (join (join fl k1 ((rd (gA fl 2) 40 k1) + 1) (gi co 0)) k1 (gi co 0) (gi co 0)) = (leave co fl k1) from (by first | (simp only [leave, leaveA, leaveB, leaveC, leaveK, if_pos c_21, decide_eq_true c_21, decide_eq_false (not_not_intro c_21), if_neg c_47, bf_of c_47, if_pos c_70, decide_eq_true c_70, decide_eq_false (not_not_intro c_70), gi_sl, gi_sA, gi_sB, gi_si_s, gi_si_n, gl_si, gl_sA, gl_sB, gl_sl_s, gl_sl_n, gA_si, gA_sl, gA_sB, gA_sA_s, gA_sA_n, gB_si, gB_sl, gB_sA, gB_sB_s, gB_sB_n, Nat.reduceBEq, if_true, if_false, eq_self, Bool.false_eq_true, reduceCtorEq, not_true_eq_false, not_false_eq_true, decide_true, decide_false, cond_true, cond_false, Bool.true_and, Bool.false_and, Bool.and_true, Bool.and_false, Bool.true_or, Bool.false_or, Bool.or_true, Bool.or_false, b2i_tt, b2i_ff]; done) | (simp only [leave, leaveA, leaveB, leaveC, leaveK, if_pos c_21, decide_eq_true c_21, decide_eq_false (not_not_intro c_21), if_neg c_47, bf_of c_47, if_pos c_70, decide_eq_true c_70, decide_eq_false (not_not_intro c_70), gi_sl, gi_sA, gi_sB, gi_si_s, gi_si_n, gl_si, gl_sA, gl_sB, gl_sl_s, gl_sl_n, gA_si, gA_sl, gA_sB, gA_sA_s, gA_sA_n, gB_si, gB_sl, gB_sA, gB_sB_s, gB_sB_n, Nat.reduceBEq, if_true, if_false, eq_self, Bool.false_eq_true, reduceCtorEq, not_true_eq_false, not_false_eq_true, decide_true, decide_false, cond_true, cond_false, Bool.true_and, Bool.false_and, Bool.and_true, Bool.and_false, Bool.true_or, Bool.false_or, Bool.or_true, Bool.or_false, b2i_tt, b2i_ff]; rfl) | (simp [leave, leaveA, leaveB, leaveC, leaveK, c_21, c_47, c_70, gi_sl, gi_sA, gi_sB, gi_si_s, gi_si_n, gl_si, gl_sA, gl_sB, gl_sl_s, gl_sl_n, gA_si, gA_sl, gA_sB, gA_sA_s, gA_sA_n, gB_si, gB_sl, gB_sA, gB_sB_s, gB_sB_n, Nat.reduceBEq]; done))) rfl rfl rfl rfl rfl, ⟨by rw [ht]; exact hP, va_K.moved hW.alike hK, hD⟩⟩, hS.F ht⟩) hS.2.2 dX1_leave_86
    · have c_47 : (jmp (rd (gA co 0) 40 (rd (gA fl 2) 40 k1))) = true := b2i_1 c_47
      refine lv_aload_n hx hb dX1_leave_50 rfl (lv_at hl 2 rfl) ?_
      refine lv_iload_n hx hb dX1_leave_51 rfl (lv_at hl 4 rfl) ?_
      refine lv_aload_n hx hb dX1_leave_52 rfl (lv_at hl 3 rfl) ?_
      refine va_getN (D := D) (ci := 0) (v := .ref (ad 9)) (C := RX0) (T := TX0) (N := 5) hx hb hg inGX0 hown hK hP 1 rfl rfl 1 (by decide) (hN.use nw_3) (fun _ h9 => h9) rfl dX1_leave_53 ?_
      refine lv_iload_n hx hb dX1_leave_56 rfl (lv_at hl 1 rfl) ?_
      refine kI (rSN hx hb hml hown hg hN hK hP hD (c_at l D cI cJ (XW ad cI cJ co (join fl k1 ((rd (gA fl 2) 40 k1) + 1) (gi co 0)) ra li re wa pi) 9 (ad 9) 40 (gA co 1) (rd (gA fl 2) 40 k1) rfl (by decide)) mw_84 nw_65 mw_85 mw_77 pd_X7_at ⟨Nat.le_of_ble_eq_true rfl, Nat.le_of_ble_eq_true rfl⟩ rfl hl.1 rfl (Nat.le_of_ble_eq_true rfl) dX1_leave_57 ⟨Nat.le_of_ble_eq_true rfl, Nat.le_of_ble_eq_true rfl⟩) hD hS hA (fun r_6 u_6 H locs hp hP hD hS => ?_)
      obtain ⟨er, eu⟩ := hp
      obtain rfl := er.symm
      obtain rfl := eu.symm
      refine lv_aload_n hx hb dX1_leave_60 rfl (lv_at hl 3 rfl) ?_
      refine va_getN (D := D) (ci := 0) (v := .int (gi co 0)) (C := RX0) (T := TX0) (N := 5) hx hb hg inGX0 hown hK hP 1 rfl rfl 4 (by decide) (hN.use nw_9) (fun _ h9 => h9) rfl dX1_leave_61 ?_
      refine kV (rV (q0 := 2) (ci := 1) hx hb hml hown hg hN hK hP hD (c_join l D cI cJ ad co (join fl k1 ((rd (gA fl 2) 40 k1) + 1) (gi co 0)) ra li re wa pi k1 (rd (gA co 1) 40 (rd (gA fl 2) 40 k1)) (gi co 0)) mw_102 mw_103 mw_104 mw_105 mw_106 pdv_X1_join ⟨Nat.le_of_ble_eq_true rfl, Nat.le_of_ble_eq_true rfl⟩ rfl rfl rfl hl.1 rfl (Nat.le_of_ble_eq_true rfl) dX1_leave_64 ⟨Nat.le_of_ble_eq_true rfl, Nat.le_of_ble_eq_true rfl⟩) hD hS hA (fun u_7 H locs hp hP hD hS => ?_)
      obtain rfl := hp.symm
      have hP : va_P D vwCl (XW ad cI cJ co (join (join fl k1 ((rd (gA fl 2) 40 k1) + 1) (gi co 0)) k1 (rd (gA co 1) 40 (rd (gA fl 2) 40 k1)) (gi co 0)) ra li re wa pi) H := hP
      have hD : va_D A (XW ad cI cJ co (join (join fl k1 ((rd (gA fl 2) 40 k1) + 1) (gi co 0)) k1 (rd (gA co 1) 40 (rd (gA fl 2) 40 k1)) (gi co 0)) ra li re wa pi) := hD
      refine lv_iload hx hb dX1_leave_67 (lv_at hl 0 rfl) ?_
      refine lv_iconst (v := 3) hx hb dX1_leave_69 (by decide) ?_
      refine lv_icmp_ne (tgt := 86) hx hb dX1_leave_70 (by decide) (fun c_70 => ?_) (fun c_70 => ?_)
      · exact W.vret hx hb hr (fun t ht hW => ⟨⟨(XW ad cI cJ co (join (join fl k1 ((rd (gA fl 2) 40 k1) + 1) (gi co 0)) k1 (rd (gA co 1) 40 (rd (gA fl 2) 40 k1)) (gi co 0)) ra li re wa pi), rfl, xw_eq rfl (show (join (join fl k1 ((rd (gA fl 2) 40 k1) + 1) (gi co 0)) k1 (rd (gA co 1) 40 (rd (gA fl 2) 40 k1)) (gi co 0)) = (leave co fl k1) from (by first | (simp only [leave, leaveA, leaveB, leaveC, leaveK, if_pos c_21, decide_eq_true c_21, decide_eq_false (not_not_intro c_21), if_pos c_47, c_47, if_neg c_70, decide_eq_false c_70, decide_eq_true c_70, if_pos c_70, gi_sl, gi_sA, gi_sB, gi_si_s, gi_si_n, gl_si, gl_sA, gl_sB, gl_sl_s, gl_sl_n, gA_si, gA_sl, gA_sB, gA_sA_s, gA_sA_n, gB_si, gB_sl, gB_sA, gB_sB_s, gB_sB_n, Nat.reduceBEq, if_true, if_false, eq_self, Bool.false_eq_true, reduceCtorEq, not_true_eq_false, not_false_eq_true, decide_true, decide_false, cond_true, cond_false, Bool.true_and, Bool.false_and, Bool.and_true, Bool.and_false, Bool.true_or, Bool.false_or, Bool.or_true, Bool.or_false, b2i_tt, b2i_ff]; done) | (simp only [leave, leaveA, leaveB, leaveC, leaveK, if_pos c_21, decide_eq_true c_21, decide_eq_false (not_not_intro c_21), if_pos c_47, c_47, if_neg c_70, decide_eq_false c_70, decide_eq_true c_70, if_pos c_70, gi_sl, gi_sA, gi_sB, gi_si_s, gi_si_n, gl_si, gl_sA, gl_sB, gl_sl_s, gl_sl_n, gA_si, gA_sl, gA_sB, gA_sA_s, gA_sA_n, gB_si, gB_sl, gB_sA, gB_sB_s, gB_sB_n, Nat.reduceBEq, if_true, if_false, eq_self, Bool.false_eq_true, reduceCtorEq, not_true_eq_false, not_false_eq_true, decide_true, decide_false, cond_true, cond_false, Bool.true_and, Bool.false_and, Bool.and_true, Bool.and_false, Bool.true_or, Bool.false_or, Bool.or_true, Bool.or_false, b2i_tt, b2i_ff]; rfl) | (simp [leave, leaveA, leaveB, leaveC, leaveK, c_21, c_47, c_70, gi_sl, gi_sA, gi_sB, gi_si_s, gi_si_n, gl_si, gl_sA, gl_sB, gl_sl_s, gl_sl_n, gA_si, gA_sl, gA_sB, gA_sA_s, gA_sA_n, gB_si, gB_sl, gB_sA, gB_sB_s, gB_sB_n, Nat.reduceBEq]; done))) rfl rfl rfl rfl rfl, ⟨by rw [ht]; exact hP, va_K.moved hW.alike hK, hD⟩⟩, hS.F ht⟩) hS.2.2 dX1_leave_86
      · refine lv_aload_n hx hb dX1_leave_73 rfl (lv_at hl 2 rfl) ?_
        refine lv_iload_n hx hb dX1_leave_74 rfl (lv_at hl 4 rfl) ?_
        refine lv_aload_n hx hb dX1_leave_75 rfl (lv_at hl 3 rfl) ?_
        refine va_getN (D := D) (ci := 0) (v := .int (gi co 0)) (C := RX0) (T := TX0) (N := 5) hx hb hg inGX0 hown hK hP 1 rfl rfl 4 (by decide) (hN.use nw_9) (fun _ h9 => h9) rfl dX1_leave_76 ?_
        refine lv_aload_n hx hb dX1_leave_79 rfl (lv_at hl 3 rfl) ?_
        refine va_getN (D := D) (ci := 0) (v := .int (gi co 0)) (C := RX0) (T := TX0) (N := 5) hx hb hg inGX0 hown hK hP 1 rfl rfl 4 (by decide) (hN.use nw_9) (fun _ h9 => h9) rfl dX1_leave_80 ?_
        refine kV (rV (q0 := 2) (ci := 1) hx hb hml hown hg hN hK hP hD (c_join l D cI cJ ad co (join (join fl k1 ((rd (gA fl 2) 40 k1) + 1) (gi co 0)) k1 (rd (gA co 1) 40 (rd (gA fl 2) 40 k1)) (gi co 0)) ra li re wa pi k1 (gi co 0) (gi co 0)) mw_102 mw_103 mw_104 mw_105 mw_106 pdv_X1_join ⟨Nat.le_of_ble_eq_true rfl, Nat.le_of_ble_eq_true rfl⟩ rfl rfl rfl hl.1 rfl (Nat.le_of_ble_eq_true rfl) dX1_leave_83 ⟨Nat.le_of_ble_eq_true rfl, Nat.le_of_ble_eq_true rfl⟩) hD hS hA (fun u_8 H locs hp hP hD hS => ?_)
        obtain rfl := hp.symm
        have hP : va_P D vwCl (XW ad cI cJ co (join (join (join fl k1 ((rd (gA fl 2) 40 k1) + 1) (gi co 0)) k1 (rd (gA co 1) 40 (rd (gA fl 2) 40 k1)) (gi co 0)) k1 (gi co 0) (gi co 0)) ra li re wa pi) H := hP
        have hD : va_D A (XW ad cI cJ co (join (join (join fl k1 ((rd (gA fl 2) 40 k1) + 1) (gi co 0)) k1 (rd (gA co 1) 40 (rd (gA fl 2) 40 k1)) (gi co 0)) k1 (gi co 0) (gi co 0)) ra li re wa pi) := hD
        exact W.vret hx hb hr (fun t ht hW => ⟨⟨(XW ad cI cJ co (join (join (join fl k1 ((rd (gA fl 2) 40 k1) + 1) (gi co 0)) k1 (rd (gA co 1) 40 (rd (gA fl 2) 40 k1)) (gi co 0)) k1 (gi co 0) (gi co 0)) ra li re wa pi), rfl, xw_eq rfl (show (join (join (join fl k1 ((rd (gA fl 2) 40 k1) + 1) (gi co 0)) k1 (rd (gA co 1) 40 (rd (gA fl 2) 40 k1)) (gi co 0)) k1 (gi co 0) (gi co 0)) = (leave co fl k1) from (by first | (simp only [leave, leaveA, leaveB, leaveC, leaveK, if_pos c_21, decide_eq_true c_21, decide_eq_false (not_not_intro c_21), if_pos c_47, c_47, if_pos c_70, decide_eq_true c_70, decide_eq_false (not_not_intro c_70), gi_sl, gi_sA, gi_sB, gi_si_s, gi_si_n, gl_si, gl_sA, gl_sB, gl_sl_s, gl_sl_n, gA_si, gA_sl, gA_sB, gA_sA_s, gA_sA_n, gB_si, gB_sl, gB_sA, gB_sB_s, gB_sB_n, Nat.reduceBEq, if_true, if_false, eq_self, Bool.false_eq_true, reduceCtorEq, not_true_eq_false, not_false_eq_true, decide_true, decide_false, cond_true, cond_false, Bool.true_and, Bool.false_and, Bool.and_true, Bool.and_false, Bool.true_or, Bool.false_or, Bool.or_true, Bool.or_false, b2i_tt, b2i_ff]; done) | (simp only [leave, leaveA, leaveB, leaveC, leaveK, if_pos c_21, decide_eq_true c_21, decide_eq_false (not_not_intro c_21), if_pos c_47, c_47, if_pos c_70, decide_eq_true c_70, decide_eq_false (not_not_intro c_70), gi_sl, gi_sA, gi_sB, gi_si_s, gi_si_n, gl_si, gl_sA, gl_sB, gl_sl_s, gl_sl_n, gA_si, gA_sl, gA_sB, gA_sA_s, gA_sA_n, gB_si, gB_sl, gB_sA, gB_sB_s, gB_sB_n, Nat.reduceBEq, if_true, if_false, eq_self, Bool.false_eq_true, reduceCtorEq, not_true_eq_false, not_false_eq_true, decide_true, decide_false, cond_true, cond_false, Bool.true_and, Bool.false_and, Bool.and_true, Bool.and_false, Bool.true_or, Bool.false_or, Bool.or_true, Bool.or_false, b2i_tt, b2i_ff]; rfl) | (simp [leave, leaveA, leaveB, leaveC, leaveK, c_21, c_47, c_70, gi_sl, gi_sA, gi_sB, gi_si_s, gi_si_n, gl_si, gl_sA, gl_sB, gl_sl_s, gl_sl_n, gA_si, gA_sl, gA_sB, gA_sA_s, gA_sA_n, gB_si, gB_sl, gB_sA, gB_sB_s, gB_sB_n, Nat.reduceBEq]; done))) rfl rfl rfl rfl rfl, ⟨by rw [ht]; exact hP, va_K.moved hW.alike hK, hD⟩⟩, hS.F ht⟩) hS.2.2 dX1_leave_86
  · refine lv_iload hx hb dX1_leave_24 (lv_at hl 0 rfl) ?_
    refine lv_iconst (v := 1) hx hb dX1_leave_26 (by decide) ?_
    refine lv_icmp_ne (tgt := 42) hx hb dX1_leave_27 (by decide) (fun c_27 => ?_) (fun c_27 => ?_)
    · refine lv_iload hx hb dX1_leave_42 (lv_at hl 0 rfl) ?_
      refine kI (rSN hx hb hml hown hg hN hK hP hD (c_jumps l D cI cJ (XW ad cI cJ co fl ra li re wa pi) (rd (gA co 0) 40 (rd (gA fl 2) 40 k1))) mw_86 nw_67 mw_87 mw_77 pd_X7_jumps ⟨Nat.le_of_ble_eq_true rfl, Nat.le_of_ble_eq_true rfl⟩ rfl hl.1 rfl (Nat.le_of_ble_eq_true rfl) dX1_leave_44 ⟨Nat.le_of_ble_eq_true rfl, Nat.le_of_ble_eq_true rfl⟩) hD hS hA (fun r_9 u_9 H locs hp hP hD hS => ?_)
      obtain ⟨er, eu⟩ := hp
      obtain rfl := er.symm
      obtain rfl := eu.symm
      refine lv_if_eq (tgt := 67) hx hb dX1_leave_47 (by decide) (fun c_47 => ?_) (fun c_47 => ?_)
      · have c_47 : ¬ (jmp (rd (gA co 0) 40 (rd (gA fl 2) 40 k1))) = true := b2i_0 c_47
        refine lv_iload hx hb dX1_leave_67 (lv_at hl 0 rfl) ?_
        refine lv_iconst (v := 3) hx hb dX1_leave_69 (by decide) ?_
        refine lv_icmp_ne (tgt := 86) hx hb dX1_leave_70 (by decide) (fun c_70 => ?_) (fun c_70 => ?_)
        · exact W.vret hx hb hr (fun t ht hW => ⟨⟨(XW ad cI cJ co fl ra li re wa pi), rfl, xw_eq rfl (show fl = (leave co fl k1) from (by first | (simp only [leave, leaveA, leaveB, leaveC, leaveK, if_neg c_21, decide_eq_false c_21, decide_eq_true c_21, if_pos c_21, if_neg c_27, decide_eq_false c_27, decide_eq_true c_27, if_pos c_27, if_neg c_47, bf_of c_47, if_neg c_70, decide_eq_false c_70, decide_eq_true c_70, if_pos c_70, gi_sl, gi_sA, gi_sB, gi_si_s, gi_si_n, gl_si, gl_sA, gl_sB, gl_sl_s, gl_sl_n, gA_si, gA_sl, gA_sB, gA_sA_s, gA_sA_n, gB_si, gB_sl, gB_sA, gB_sB_s, gB_sB_n, Nat.reduceBEq, if_true, if_false, eq_self, Bool.false_eq_true, reduceCtorEq, not_true_eq_false, not_false_eq_true, decide_true, decide_false, cond_true, cond_false, Bool.true_and, Bool.false_and, Bool.and_true, Bool.and_false, Bool.true_or, Bool.false_or, Bool.or_true, Bool.or_false, b2i_tt, b2i_ff]; done) | (simp only [leave, leaveA, leaveB, leaveC, leaveK, if_neg c_21, decide_eq_false c_21, decide_eq_true c_21, if_pos c_21, if_neg c_27, decide_eq_false c_27, decide_eq_true c_27, if_pos c_27, if_neg c_47, bf_of c_47, if_neg c_70, decide_eq_false c_70, decide_eq_true c_70, if_pos c_70, gi_sl, gi_sA, gi_sB, gi_si_s, gi_si_n, gl_si, gl_sA, gl_sB, gl_sl_s, gl_sl_n, gA_si, gA_sl, gA_sB, gA_sA_s, gA_sA_n, gB_si, gB_sl, gB_sA, gB_sB_s, gB_sB_n, Nat.reduceBEq, if_true, if_false, eq_self, Bool.false_eq_true, reduceCtorEq, not_true_eq_false, not_false_eq_true, decide_true, decide_false, cond_true, cond_false, Bool.true_and, Bool.false_and, Bool.and_true, Bool.and_false, Bool.true_or, Bool.false_or, Bool.or_true, Bool.or_false, b2i_tt, b2i_ff]; rfl) | (simp [leave, leaveA, leaveB, leaveC, leaveK, c_21, c_27, c_47, c_70, gi_sl, gi_sA, gi_sB, gi_si_s, gi_si_n, gl_si, gl_sA, gl_sB, gl_sl_s, gl_sl_n, gA_si, gA_sl, gA_sB, gA_sA_s, gA_sA_n, gB_si, gB_sl, gB_sA, gB_sB_s, gB_sB_n, Nat.reduceBEq]; done))) rfl rfl rfl rfl rfl, ⟨by rw [ht]; exact hP, va_K.moved hW.alike hK, hD⟩⟩, hS.F ht⟩) hS.2.2 dX1_leave_86
        · refine lv_aload_n hx hb dX1_leave_73 rfl (lv_at hl 2 rfl) ?_
          refine lv_iload_n hx hb dX1_leave_74 rfl (lv_at hl 4 rfl) ?_
          refine lv_aload_n hx hb dX1_leave_75 rfl (lv_at hl 3 rfl) ?_
          refine va_getN (D := D) (ci := 0) (v := .int (gi co 0)) (C := RX0) (T := TX0) (N := 5) hx hb hg inGX0 hown hK hP 1 rfl rfl 4 (by decide) (hN.use nw_9) (fun _ h9 => h9) rfl dX1_leave_76 ?_
          refine lv_aload_n hx hb dX1_leave_79 rfl (lv_at hl 3 rfl) ?_
          refine va_getN (D := D) (ci := 0) (v := .int (gi co 0)) (C := RX0) (T := TX0) (N := 5) hx hb hg inGX0 hown hK hP 1 rfl rfl 4 (by decide) (hN.use nw_9) (fun _ h9 => h9) rfl dX1_leave_80 ?_
          refine kV (rV (q0 := 2) (ci := 1) hx hb hml hown hg hN hK hP hD (c_join l D cI cJ ad co fl ra li re wa pi k1 (gi co 0) (gi co 0)) mw_102 mw_103 mw_104 mw_105 mw_106 pdv_X1_join ⟨Nat.le_of_ble_eq_true rfl, Nat.le_of_ble_eq_true rfl⟩ rfl rfl rfl hl.1 rfl (Nat.le_of_ble_eq_true rfl) dX1_leave_83 ⟨Nat.le_of_ble_eq_true rfl, Nat.le_of_ble_eq_true rfl⟩) hD hS hA (fun u_10 H locs hp hP hD hS => ?_)
          obtain rfl := hp.symm
          have hP : va_P D vwCl (XW ad cI cJ co (join fl k1 (gi co 0) (gi co 0)) ra li re wa pi) H := hP
          have hD : va_D A (XW ad cI cJ co (join fl k1 (gi co 0) (gi co 0)) ra li re wa pi) := hD
          exact W.vret hx hb hr (fun t ht hW => ⟨⟨(XW ad cI cJ co (join fl k1 (gi co 0) (gi co 0)) ra li re wa pi), rfl, xw_eq rfl (show (join fl k1 (gi co 0) (gi co 0)) = (leave co fl k1) from (by first | (simp only [leave, leaveA, leaveB, leaveC, leaveK, if_neg c_21, decide_eq_false c_21, decide_eq_true c_21, if_pos c_21, if_neg c_27, decide_eq_false c_27, decide_eq_true c_27, if_pos c_27, if_neg c_47, bf_of c_47, if_pos c_70, decide_eq_true c_70, decide_eq_false (not_not_intro c_70), gi_sl, gi_sA, gi_sB, gi_si_s, gi_si_n, gl_si, gl_sA, gl_sB, gl_sl_s, gl_sl_n, gA_si, gA_sl, gA_sB, gA_sA_s, gA_sA_n, gB_si, gB_sl, gB_sA, gB_sB_s, gB_sB_n, Nat.reduceBEq, if_true, if_false, eq_self, Bool.false_eq_true, reduceCtorEq, not_true_eq_false, not_false_eq_true, decide_true, decide_false, cond_true, cond_false, Bool.true_and, Bool.false_and, Bool.and_true, Bool.and_false, Bool.true_or, Bool.false_or, Bool.or_true, Bool.or_false, b2i_tt, b2i_ff]; done) | (simp only [leave, leaveA, leaveB, leaveC, leaveK, if_neg c_21, decide_eq_false c_21, decide_eq_true c_21, if_pos c_21, if_neg c_27, decide_eq_false c_27, decide_eq_true c_27, if_pos c_27, if_neg c_47, bf_of c_47, if_pos c_70, decide_eq_true c_70, decide_eq_false (not_not_intro c_70), gi_sl, gi_sA, gi_sB, gi_si_s, gi_si_n, gl_si, gl_sA, gl_sB, gl_sl_s, gl_sl_n, gA_si, gA_sl, gA_sB, gA_sA_s, gA_sA_n, gB_si, gB_sl, gB_sA, gB_sB_s, gB_sB_n, Nat.reduceBEq, if_true, if_false, eq_self, Bool.false_eq_true, reduceCtorEq, not_true_eq_false, not_false_eq_true, decide_true, decide_false, cond_true, cond_false, Bool.true_and, Bool.false_and, Bool.and_true, Bool.and_false, Bool.true_or, Bool.false_or, Bool.or_true, Bool.or_false, b2i_tt, b2i_ff]; rfl) | (simp [leave, leaveA, leaveB, leaveC, leaveK, c_21, c_27, c_47, c_70, gi_sl, gi_sA, gi_sB, gi_si_s, gi_si_n, gl_si, gl_sA, gl_sB, gl_sl_s, gl_sl_n, gA_si, gA_sl, gA_sB, gA_sA_s, gA_sA_n, gB_si, gB_sl, gB_sA, gB_sB_s, gB_sB_n, Nat.reduceBEq]; done))) rfl rfl rfl rfl rfl, ⟨by rw [ht]; exact hP, va_K.moved hW.alike hK, hD⟩⟩, hS.F ht⟩) hS.2.2 dX1_leave_86
      · have c_47 : (jmp (rd (gA co 0) 40 (rd (gA fl 2) 40 k1))) = true := b2i_1 c_47
        refine lv_aload_n hx hb dX1_leave_50 rfl (lv_at hl 2 rfl) ?_
        refine lv_iload_n hx hb dX1_leave_51 rfl (lv_at hl 4 rfl) ?_
        refine lv_aload_n hx hb dX1_leave_52 rfl (lv_at hl 3 rfl) ?_
        refine va_getN (D := D) (ci := 0) (v := .ref (ad 9)) (C := RX0) (T := TX0) (N := 5) hx hb hg inGX0 hown hK hP 1 rfl rfl 1 (by decide) (hN.use nw_3) (fun _ h9 => h9) rfl dX1_leave_53 ?_
        refine lv_iload_n hx hb dX1_leave_56 rfl (lv_at hl 1 rfl) ?_
        refine kI (rSN hx hb hml hown hg hN hK hP hD (c_at l D cI cJ (XW ad cI cJ co fl ra li re wa pi) 9 (ad 9) 40 (gA co 1) (rd (gA fl 2) 40 k1) rfl (by decide)) mw_84 nw_65 mw_85 mw_77 pd_X7_at ⟨Nat.le_of_ble_eq_true rfl, Nat.le_of_ble_eq_true rfl⟩ rfl hl.1 rfl (Nat.le_of_ble_eq_true rfl) dX1_leave_57 ⟨Nat.le_of_ble_eq_true rfl, Nat.le_of_ble_eq_true rfl⟩) hD hS hA (fun r_11 u_11 H locs hp hP hD hS => ?_)
        obtain ⟨er, eu⟩ := hp
        obtain rfl := er.symm
        obtain rfl := eu.symm
        refine lv_aload_n hx hb dX1_leave_60 rfl (lv_at hl 3 rfl) ?_
        refine va_getN (D := D) (ci := 0) (v := .int (gi co 0)) (C := RX0) (T := TX0) (N := 5) hx hb hg inGX0 hown hK hP 1 rfl rfl 4 (by decide) (hN.use nw_9) (fun _ h9 => h9) rfl dX1_leave_61 ?_
        refine kV (rV (q0 := 2) (ci := 1) hx hb hml hown hg hN hK hP hD (c_join l D cI cJ ad co fl ra li re wa pi k1 (rd (gA co 1) 40 (rd (gA fl 2) 40 k1)) (gi co 0)) mw_102 mw_103 mw_104 mw_105 mw_106 pdv_X1_join ⟨Nat.le_of_ble_eq_true rfl, Nat.le_of_ble_eq_true rfl⟩ rfl rfl rfl hl.1 rfl (Nat.le_of_ble_eq_true rfl) dX1_leave_64 ⟨Nat.le_of_ble_eq_true rfl, Nat.le_of_ble_eq_true rfl⟩) hD hS hA (fun u_12 H locs hp hP hD hS => ?_)
        obtain rfl := hp.symm
        have hP : va_P D vwCl (XW ad cI cJ co (join fl k1 (rd (gA co 1) 40 (rd (gA fl 2) 40 k1)) (gi co 0)) ra li re wa pi) H := hP
        have hD : va_D A (XW ad cI cJ co (join fl k1 (rd (gA co 1) 40 (rd (gA fl 2) 40 k1)) (gi co 0)) ra li re wa pi) := hD
        refine lv_iload hx hb dX1_leave_67 (lv_at hl 0 rfl) ?_
        refine lv_iconst (v := 3) hx hb dX1_leave_69 (by decide) ?_
        refine lv_icmp_ne (tgt := 86) hx hb dX1_leave_70 (by decide) (fun c_70 => ?_) (fun c_70 => ?_)
        · exact W.vret hx hb hr (fun t ht hW => ⟨⟨(XW ad cI cJ co (join fl k1 (rd (gA co 1) 40 (rd (gA fl 2) 40 k1)) (gi co 0)) ra li re wa pi), rfl, xw_eq rfl (show (join fl k1 (rd (gA co 1) 40 (rd (gA fl 2) 40 k1)) (gi co 0)) = (leave co fl k1) from (by first | (simp only [leave, leaveA, leaveB, leaveC, leaveK, if_neg c_21, decide_eq_false c_21, decide_eq_true c_21, if_pos c_21, if_neg c_27, decide_eq_false c_27, decide_eq_true c_27, if_pos c_27, if_pos c_47, c_47, if_neg c_70, decide_eq_false c_70, decide_eq_true c_70, if_pos c_70, gi_sl, gi_sA, gi_sB, gi_si_s, gi_si_n, gl_si, gl_sA, gl_sB, gl_sl_s, gl_sl_n, gA_si, gA_sl, gA_sB, gA_sA_s, gA_sA_n, gB_si, gB_sl, gB_sA, gB_sB_s, gB_sB_n, Nat.reduceBEq, if_true, if_false, eq_self, Bool.false_eq_true, reduceCtorEq, not_true_eq_false, not_false_eq_true, decide_true, decide_false, cond_true, cond_false, Bool.true_and, Bool.false_and, Bool.and_true, Bool.and_false, Bool.true_or, Bool.false_or, Bool.or_true, Bool.or_false, b2i_tt, b2i_ff]; done) | (simp only [leave, leaveA, leaveB, leaveC, leaveK, if_neg c_21, decide_eq_false c_21, decide_eq_true c_21, if_pos c_21, if_neg c_27, decide_eq_false c_27, decide_eq_true c_27, if_pos c_27, if_pos c_47, c_47, if_neg c_70, decide_eq_false c_70, decide_eq_true c_70, if_pos c_70, gi_sl, gi_sA, gi_sB, gi_si_s, gi_si_n, gl_si, gl_sA, gl_sB, gl_sl_s, gl_sl_n, gA_si, gA_sl, gA_sB, gA_sA_s, gA_sA_n, gB_si, gB_sl, gB_sA, gB_sB_s, gB_sB_n, Nat.reduceBEq, if_true, if_false, eq_self, Bool.false_eq_true, reduceCtorEq, not_true_eq_false, not_false_eq_true, decide_true, decide_false, cond_true, cond_false, Bool.true_and, Bool.false_and, Bool.and_true, Bool.and_false, Bool.true_or, Bool.false_or, Bool.or_true, Bool.or_false, b2i_tt, b2i_ff]; rfl) | (simp [leave, leaveA, leaveB, leaveC, leaveK, c_21, c_27, c_47, c_70, gi_sl, gi_sA, gi_sB, gi_si_s, gi_si_n, gl_si, gl_sA, gl_sB, gl_sl_s, gl_sl_n, gA_si, gA_sl, gA_sB, gA_sA_s, gA_sA_n, gB_si, gB_sl, gB_sA, gB_sB_s, gB_sB_n, Nat.reduceBEq]; done))) rfl rfl rfl rfl rfl, ⟨by rw [ht]; exact hP, va_K.moved hW.alike hK, hD⟩⟩, hS.F ht⟩) hS.2.2 dX1_leave_86
        · refine lv_aload_n hx hb dX1_leave_73 rfl (lv_at hl 2 rfl) ?_
          refine lv_iload_n hx hb dX1_leave_74 rfl (lv_at hl 4 rfl) ?_
          refine lv_aload_n hx hb dX1_leave_75 rfl (lv_at hl 3 rfl) ?_
          refine va_getN (D := D) (ci := 0) (v := .int (gi co 0)) (C := RX0) (T := TX0) (N := 5) hx hb hg inGX0 hown hK hP 1 rfl rfl 4 (by decide) (hN.use nw_9) (fun _ h9 => h9) rfl dX1_leave_76 ?_
          refine lv_aload_n hx hb dX1_leave_79 rfl (lv_at hl 3 rfl) ?_
          refine va_getN (D := D) (ci := 0) (v := .int (gi co 0)) (C := RX0) (T := TX0) (N := 5) hx hb hg inGX0 hown hK hP 1 rfl rfl 4 (by decide) (hN.use nw_9) (fun _ h9 => h9) rfl dX1_leave_80 ?_
          refine kV (rV (q0 := 2) (ci := 1) hx hb hml hown hg hN hK hP hD (c_join l D cI cJ ad co (join fl k1 (rd (gA co 1) 40 (rd (gA fl 2) 40 k1)) (gi co 0)) ra li re wa pi k1 (gi co 0) (gi co 0)) mw_102 mw_103 mw_104 mw_105 mw_106 pdv_X1_join ⟨Nat.le_of_ble_eq_true rfl, Nat.le_of_ble_eq_true rfl⟩ rfl rfl rfl hl.1 rfl (Nat.le_of_ble_eq_true rfl) dX1_leave_83 ⟨Nat.le_of_ble_eq_true rfl, Nat.le_of_ble_eq_true rfl⟩) hD hS hA (fun u_13 H locs hp hP hD hS => ?_)
          obtain rfl := hp.symm
          have hP : va_P D vwCl (XW ad cI cJ co (join (join fl k1 (rd (gA co 1) 40 (rd (gA fl 2) 40 k1)) (gi co 0)) k1 (gi co 0) (gi co 0)) ra li re wa pi) H := hP
          have hD : va_D A (XW ad cI cJ co (join (join fl k1 (rd (gA co 1) 40 (rd (gA fl 2) 40 k1)) (gi co 0)) k1 (gi co 0) (gi co 0)) ra li re wa pi) := hD
          exact W.vret hx hb hr (fun t ht hW => ⟨⟨(XW ad cI cJ co (join (join fl k1 (rd (gA co 1) 40 (rd (gA fl 2) 40 k1)) (gi co 0)) k1 (gi co 0) (gi co 0)) ra li re wa pi), rfl, xw_eq rfl (show (join (join fl k1 (rd (gA co 1) 40 (rd (gA fl 2) 40 k1)) (gi co 0)) k1 (gi co 0) (gi co 0)) = (leave co fl k1) from (by first | (simp only [leave, leaveA, leaveB, leaveC, leaveK, if_neg c_21, decide_eq_false c_21, decide_eq_true c_21, if_pos c_21, if_neg c_27, decide_eq_false c_27, decide_eq_true c_27, if_pos c_27, if_pos c_47, c_47, if_pos c_70, decide_eq_true c_70, decide_eq_false (not_not_intro c_70), gi_sl, gi_sA, gi_sB, gi_si_s, gi_si_n, gl_si, gl_sA, gl_sB, gl_sl_s, gl_sl_n, gA_si, gA_sl, gA_sB, gA_sA_s, gA_sA_n, gB_si, gB_sl, gB_sA, gB_sB_s, gB_sB_n, Nat.reduceBEq, if_true, if_false, eq_self, Bool.false_eq_true, reduceCtorEq, not_true_eq_false, not_false_eq_true, decide_true, decide_false, cond_true, cond_false, Bool.true_and, Bool.false_and, Bool.and_true, Bool.and_false, Bool.true_or, Bool.false_or, Bool.or_true, Bool.or_false, b2i_tt, b2i_ff]; done) | (simp only [leave, leaveA, leaveB, leaveC, leaveK, if_neg c_21, decide_eq_false c_21, decide_eq_true c_21, if_pos c_21, if_neg c_27, decide_eq_false c_27, decide_eq_true c_27, if_pos c_27, if_pos c_47, c_47, if_pos c_70, decide_eq_true c_70, decide_eq_false (not_not_intro c_70), gi_sl, gi_sA, gi_sB, gi_si_s, gi_si_n, gl_si, gl_sA, gl_sB, gl_sl_s, gl_sl_n, gA_si, gA_sl, gA_sB, gA_sA_s, gA_sA_n, gB_si, gB_sl, gB_sA, gB_sB_s, gB_sB_n, Nat.reduceBEq, if_true, if_false, eq_self, Bool.false_eq_true, reduceCtorEq, not_true_eq_false, not_false_eq_true, decide_true, decide_false, cond_true, cond_false, Bool.true_and, Bool.false_and, Bool.and_true, Bool.and_false, Bool.true_or, Bool.false_or, Bool.or_true, Bool.or_false, b2i_tt, b2i_ff]; rfl) | (simp [leave, leaveA, leaveB, leaveC, leaveK, c_21, c_27, c_47, c_70, gi_sl, gi_sA, gi_sB, gi_si_s, gi_si_n, gl_si, gl_sA, gl_sB, gl_sl_s, gl_sl_n, gA_si, gA_sl, gA_sB, gA_sA_s, gA_sA_n, gB_si, gB_sl, gB_sA, gB_sB_s, gB_sB_n, Nat.reduceBEq]; done))) rfl rfl rfl rfl rfl, ⟨by rw [ht]; exact hP, va_K.moved hW.alike hK, hD⟩⟩, hS.F ht⟩) hS.2.2 dX1_leave_86
    · refine lv_aload_n hx hb dX1_leave_30 rfl (lv_at hl 2 rfl) ?_
      refine lv_iload_n hx hb dX1_leave_31 rfl (lv_at hl 4 rfl) ?_
      refine lv_iload_n hx hb dX1_leave_32 rfl (lv_at hl 1 rfl) ?_
      refine lv_iconst (v := 1) hx hb dX1_leave_33 (by decide) ?_
      refine lv_iadd hx hb dX1_leave_34 ?_
      refine lv_aload_n hx hb dX1_leave_35 rfl (lv_at hl 3 rfl) ?_
      refine va_getN (D := D) (ci := 0) (v := .int (gi co 0)) (C := RX0) (T := TX0) (N := 5) hx hb hg inGX0 hown hK hP 1 rfl rfl 4 (by decide) (hN.use nw_9) (fun _ h9 => h9) rfl dX1_leave_36 ?_
      refine kV (rV (q0 := 2) (ci := 1) hx hb hml hown hg hN hK hP hD (c_join l D cI cJ ad co fl ra li re wa pi k1 ((rd (gA fl 2) 40 k1) + 1) (gi co 0)) mw_102 mw_103 mw_104 mw_105 mw_106 pdv_X1_join ⟨Nat.le_of_ble_eq_true rfl, Nat.le_of_ble_eq_true rfl⟩ rfl rfl rfl hl.1 rfl (Nat.le_of_ble_eq_true rfl) dX1_leave_39 ⟨Nat.le_of_ble_eq_true rfl, Nat.le_of_ble_eq_true rfl⟩) hD hS hA (fun u_14 H locs hp hP hD hS => ?_)
      obtain rfl := hp.symm
      have hP : va_P D vwCl (XW ad cI cJ co (join fl k1 ((rd (gA fl 2) 40 k1) + 1) (gi co 0)) ra li re wa pi) H := hP
      have hD : va_D A (XW ad cI cJ co (join fl k1 ((rd (gA fl 2) 40 k1) + 1) (gi co 0)) ra li re wa pi) := hD
      refine lv_iload hx hb dX1_leave_42 (lv_at hl 0 rfl) ?_
      refine kI (rSN hx hb hml hown hg hN hK hP hD (c_jumps l D cI cJ (XW ad cI cJ co (join fl k1 ((rd (gA fl 2) 40 k1) + 1) (gi co 0)) ra li re wa pi) (rd (gA co 0) 40 (rd (gA fl 2) 40 k1))) mw_86 nw_67 mw_87 mw_77 pd_X7_jumps ⟨Nat.le_of_ble_eq_true rfl, Nat.le_of_ble_eq_true rfl⟩ rfl hl.1 rfl (Nat.le_of_ble_eq_true rfl) dX1_leave_44 ⟨Nat.le_of_ble_eq_true rfl, Nat.le_of_ble_eq_true rfl⟩) hD hS hA (fun r_15 u_15 H locs hp hP hD hS => ?_)
      obtain ⟨er, eu⟩ := hp
      obtain rfl := er.symm
      obtain rfl := eu.symm
      refine lv_if_eq (tgt := 67) hx hb dX1_leave_47 (by decide) (fun c_47 => ?_) (fun c_47 => ?_)
      · have c_47 : ¬ (jmp (rd (gA co 0) 40 (rd (gA fl 2) 40 k1))) = true := b2i_0 c_47
        refine lv_iload hx hb dX1_leave_67 (lv_at hl 0 rfl) ?_
        refine lv_iconst (v := 3) hx hb dX1_leave_69 (by decide) ?_
        refine lv_icmp_ne (tgt := 86) hx hb dX1_leave_70 (by decide) (fun c_70 => ?_) (fun c_70 => ?_)
        · exact W.vret hx hb hr (fun t ht hW => ⟨⟨(XW ad cI cJ co (join fl k1 ((rd (gA fl 2) 40 k1) + 1) (gi co 0)) ra li re wa pi), rfl, xw_eq rfl (show (join fl k1 ((rd (gA fl 2) 40 k1) + 1) (gi co 0)) = (leave co fl k1) from (by first | (simp only [leave, leaveA, leaveB, leaveC, leaveK, if_neg c_21, decide_eq_false c_21, decide_eq_true c_21, if_pos c_21, if_pos c_27, decide_eq_true c_27, decide_eq_false (not_not_intro c_27), if_neg c_47, bf_of c_47, if_neg c_70, decide_eq_false c_70, decide_eq_true c_70, if_pos c_70, gi_sl, gi_sA, gi_sB, gi_si_s, gi_si_n, gl_si, gl_sA, gl_sB, gl_sl_s, gl_sl_n, gA_si, gA_sl, gA_sB, gA_sA_s, gA_sA_n, gB_si, gB_sl, gB_sA, gB_sB_s, gB_sB_n, Nat.reduceBEq, if_true, if_false, eq_self, Bool.false_eq_true, reduceCtorEq, not_true_eq_false, not_false_eq_true, decide_true, decide_false, cond_true, cond_false, Bool.true_and, Bool.false_and, Bool.and_true, Bool.and_false, Bool.true_or, Bool.false_or, Bool.or_true, Bool.or_false, b2i_tt, b2i_ff]; done) | (simp only [leave, leaveA, leaveB, leaveC, leaveK, if_neg c_21, decide_eq_false c_21, decide_eq_true c_21, if_pos c_21, if_pos c_27, decide_eq_true c_27, decide_eq_false (not_not_intro c_27), if_neg c_47, bf_of c_47, if_neg c_70, decide_eq_false c_70, decide_eq_true c_70, if_pos c_70, gi_sl, gi_sA, gi_sB, gi_si_s, gi_si_n, gl_si, gl_sA, gl_sB, gl_sl_s, gl_sl_n, gA_si, gA_sl, gA_sB, gA_sA_s, gA_sA_n, gB_si, gB_sl, gB_sA, gB_sB_s, gB_sB_n, Nat.reduceBEq, if_true, if_false, eq_self, Bool.false_eq_true, reduceCtorEq, not_true_eq_false, not_false_eq_true, decide_true, decide_false, cond_true, cond_false, Bool.true_and, Bool.false_and, Bool.and_true, Bool.and_false, Bool.true_or, Bool.false_or, Bool.or_true, Bool.or_false, b2i_tt, b2i_ff]; rfl) | (simp [leave, leaveA, leaveB, leaveC, leaveK, c_21, c_27, c_47, c_70, gi_sl, gi_sA, gi_sB, gi_si_s, gi_si_n, gl_si, gl_sA, gl_sB, gl_sl_s, gl_sl_n, gA_si, gA_sl, gA_sB, gA_sA_s, gA_sA_n, gB_si, gB_sl, gB_sA, gB_sB_s, gB_sB_n, Nat.reduceBEq]; done))) rfl rfl rfl rfl rfl, ⟨by rw [ht]; exact hP, va_K.moved hW.alike hK, hD⟩⟩, hS.F ht⟩) hS.2.2 dX1_leave_86
        · refine lv_aload_n hx hb dX1_leave_73 rfl (lv_at hl 2 rfl) ?_
          refine lv_iload_n hx hb dX1_leave_74 rfl (lv_at hl 4 rfl) ?_
          refine lv_aload_n hx hb dX1_leave_75 rfl (lv_at hl 3 rfl) ?_
          refine va_getN (D := D) (ci := 0) (v := .int (gi co 0)) (C := RX0) (T := TX0) (N := 5) hx hb hg inGX0 hown hK hP 1 rfl rfl 4 (by decide) (hN.use nw_9) (fun _ h9 => h9) rfl dX1_leave_76 ?_
          refine lv_aload_n hx hb dX1_leave_79 rfl (lv_at hl 3 rfl) ?_
          refine va_getN (D := D) (ci := 0) (v := .int (gi co 0)) (C := RX0) (T := TX0) (N := 5) hx hb hg inGX0 hown hK hP 1 rfl rfl 4 (by decide) (hN.use nw_9) (fun _ h9 => h9) rfl dX1_leave_80 ?_
          refine kV (rV (q0 := 2) (ci := 1) hx hb hml hown hg hN hK hP hD (c_join l D cI cJ ad co (join fl k1 ((rd (gA fl 2) 40 k1) + 1) (gi co 0)) ra li re wa pi k1 (gi co 0) (gi co 0)) mw_102 mw_103 mw_104 mw_105 mw_106 pdv_X1_join ⟨Nat.le_of_ble_eq_true rfl, Nat.le_of_ble_eq_true rfl⟩ rfl rfl rfl hl.1 rfl (Nat.le_of_ble_eq_true rfl) dX1_leave_83 ⟨Nat.le_of_ble_eq_true rfl, Nat.le_of_ble_eq_true rfl⟩) hD hS hA (fun u_16 H locs hp hP hD hS => ?_)
          obtain rfl := hp.symm
          have hP : va_P D vwCl (XW ad cI cJ co (join (join fl k1 ((rd (gA fl 2) 40 k1) + 1) (gi co 0)) k1 (gi co 0) (gi co 0)) ra li re wa pi) H := hP
          have hD : va_D A (XW ad cI cJ co (join (join fl k1 ((rd (gA fl 2) 40 k1) + 1) (gi co 0)) k1 (gi co 0) (gi co 0)) ra li re wa pi) := hD
          exact W.vret hx hb hr (fun t ht hW => ⟨⟨(XW ad cI cJ co (join (join fl k1 ((rd (gA fl 2) 40 k1) + 1) (gi co 0)) k1 (gi co 0) (gi co 0)) ra li re wa pi), rfl, xw_eq rfl (show (join (join fl k1 ((rd (gA fl 2) 40 k1) + 1) (gi co 0)) k1 (gi co 0) (gi co 0)) = (leave co fl k1) from (by first | (simp only [leave, leaveA, leaveB, leaveC, leaveK, if_neg c_21, decide_eq_false c_21, decide_eq_true c_21, if_pos c_21, if_pos c_27, decide_eq_true c_27, decide_eq_false (not_not_intro c_27), if_neg c_47, bf_of c_47, if_pos c_70, decide_eq_true c_70, decide_eq_false (not_not_intro c_70), gi_sl, gi_sA, gi_sB, gi_si_s, gi_si_n, gl_si, gl_sA, gl_sB, gl_sl_s, gl_sl_n, gA_si, gA_sl, gA_sB, gA_sA_s, gA_sA_n, gB_si, gB_sl, gB_sA, gB_sB_s, gB_sB_n, Nat.reduceBEq, if_true, if_false, eq_self, Bool.false_eq_true, reduceCtorEq, not_true_eq_false, not_false_eq_true, decide_true, decide_false, cond_true, cond_false, Bool.true_and, Bool.false_and, Bool.and_true, Bool.and_false, Bool.true_or, Bool.false_or, Bool.or_true, Bool.or_false, b2i_tt, b2i_ff]; done) | (simp only [leave, leaveA, leaveB, leaveC, leaveK, if_neg c_21, decide_eq_false c_21, decide_eq_true c_21, if_pos c_21, if_pos c_27, decide_eq_true c_27, decide_eq_false (not_not_intro c_27), if_neg c_47, bf_of c_47, if_pos c_70, decide_eq_true c_70, decide_eq_false (not_not_intro c_70), gi_sl, gi_sA, gi_sB, gi_si_s, gi_si_n, gl_si, gl_sA, gl_sB, gl_sl_s, gl_sl_n, gA_si, gA_sl, gA_sB, gA_sA_s, gA_sA_n, gB_si, gB_sl, gB_sA, gB_sB_s, gB_sB_n, Nat.reduceBEq, if_true, if_false, eq_self, Bool.false_eq_true, reduceCtorEq, not_true_eq_false, not_false_eq_true, decide_true, decide_false, cond_true, cond_false, Bool.true_and, Bool.false_and, Bool.and_true, Bool.and_false, Bool.true_or, Bool.false_or, Bool.or_true, Bool.or_false, b2i_tt, b2i_ff]; rfl) | (simp [leave, leaveA, leaveB, leaveC, leaveK, c_21, c_27, c_47, c_70, gi_sl, gi_sA, gi_sB, gi_si_s, gi_si_n, gl_si, gl_sA, gl_sB, gl_sl_s, gl_sl_n, gA_si, gA_sl, gA_sB, gA_sA_s, gA_sA_n, gB_si, gB_sl, gB_sA, gB_sB_s, gB_sB_n, Nat.reduceBEq]; done))) rfl rfl rfl rfl rfl, ⟨by rw [ht]; exact hP, va_K.moved hW.alike hK, hD⟩⟩, hS.F ht⟩) hS.2.2 dX1_leave_86
      · have c_47 : (jmp (rd (gA co 0) 40 (rd (gA fl 2) 40 k1))) = true := b2i_1 c_47
        refine lv_aload_n hx hb dX1_leave_50 rfl (lv_at hl 2 rfl) ?_
        refine lv_iload_n hx hb dX1_leave_51 rfl (lv_at hl 4 rfl) ?_
        refine lv_aload_n hx hb dX1_leave_52 rfl (lv_at hl 3 rfl) ?_
        refine va_getN (D := D) (ci := 0) (v := .ref (ad 9)) (C := RX0) (T := TX0) (N := 5) hx hb hg inGX0 hown hK hP 1 rfl rfl 1 (by decide) (hN.use nw_3) (fun _ h9 => h9) rfl dX1_leave_53 ?_
        refine lv_iload_n hx hb dX1_leave_56 rfl (lv_at hl 1 rfl) ?_
        refine kI (rSN hx hb hml hown hg hN hK hP hD (c_at l D cI cJ (XW ad cI cJ co (join fl k1 ((rd (gA fl 2) 40 k1) + 1) (gi co 0)) ra li re wa pi) 9 (ad 9) 40 (gA co 1) (rd (gA fl 2) 40 k1) rfl (by decide)) mw_84 nw_65 mw_85 mw_77 pd_X7_at ⟨Nat.le_of_ble_eq_true rfl, Nat.le_of_ble_eq_true rfl⟩ rfl hl.1 rfl (Nat.le_of_ble_eq_true rfl) dX1_leave_57 ⟨Nat.le_of_ble_eq_true rfl, Nat.le_of_ble_eq_true rfl⟩) hD hS hA (fun r_17 u_17 H locs hp hP hD hS => ?_)
        obtain ⟨er, eu⟩ := hp
        obtain rfl := er.symm
        obtain rfl := eu.symm
        refine lv_aload_n hx hb dX1_leave_60 rfl (lv_at hl 3 rfl) ?_
        refine va_getN (D := D) (ci := 0) (v := .int (gi co 0)) (C := RX0) (T := TX0) (N := 5) hx hb hg inGX0 hown hK hP 1 rfl rfl 4 (by decide) (hN.use nw_9) (fun _ h9 => h9) rfl dX1_leave_61 ?_
        refine kV (rV (q0 := 2) (ci := 1) hx hb hml hown hg hN hK hP hD (c_join l D cI cJ ad co (join fl k1 ((rd (gA fl 2) 40 k1) + 1) (gi co 0)) ra li re wa pi k1 (rd (gA co 1) 40 (rd (gA fl 2) 40 k1)) (gi co 0)) mw_102 mw_103 mw_104 mw_105 mw_106 pdv_X1_join ⟨Nat.le_of_ble_eq_true rfl, Nat.le_of_ble_eq_true rfl⟩ rfl rfl rfl hl.1 rfl (Nat.le_of_ble_eq_true rfl) dX1_leave_64 ⟨Nat.le_of_ble_eq_true rfl, Nat.le_of_ble_eq_true rfl⟩) hD hS hA (fun u_18 H locs hp hP hD hS => ?_)
        obtain rfl := hp.symm
        have hP : va_P D vwCl (XW ad cI cJ co (join (join fl k1 ((rd (gA fl 2) 40 k1) + 1) (gi co 0)) k1 (rd (gA co 1) 40 (rd (gA fl 2) 40 k1)) (gi co 0)) ra li re wa pi) H := hP
        have hD : va_D A (XW ad cI cJ co (join (join fl k1 ((rd (gA fl 2) 40 k1) + 1) (gi co 0)) k1 (rd (gA co 1) 40 (rd (gA fl 2) 40 k1)) (gi co 0)) ra li re wa pi) := hD
        refine lv_iload hx hb dX1_leave_67 (lv_at hl 0 rfl) ?_
        refine lv_iconst (v := 3) hx hb dX1_leave_69 (by decide) ?_
        refine lv_icmp_ne (tgt := 86) hx hb dX1_leave_70 (by decide) (fun c_70 => ?_) (fun c_70 => ?_)
        · exact W.vret hx hb hr (fun t ht hW => ⟨⟨(XW ad cI cJ co (join (join fl k1 ((rd (gA fl 2) 40 k1) + 1) (gi co 0)) k1 (rd (gA co 1) 40 (rd (gA fl 2) 40 k1)) (gi co 0)) ra li re wa pi), rfl, xw_eq rfl (show (join (join fl k1 ((rd (gA fl 2) 40 k1) + 1) (gi co 0)) k1 (rd (gA co 1) 40 (rd (gA fl 2) 40 k1)) (gi co 0)) = (leave co fl k1) from (by first | (simp only [leave, leaveA, leaveB, leaveC, leaveK, if_neg c_21, decide_eq_false c_21, decide_eq_true c_21, if_pos c_21, if_pos c_27, decide_eq_true c_27, decide_eq_false (not_not_intro c_27), if_pos c_47, c_47, if_neg c_70, decide_eq_false c_70, decide_eq_true c_70, if_pos c_70, gi_sl, gi_sA, gi_sB, gi_si_s, gi_si_n, gl_si, gl_sA, gl_sB, gl_sl_s, gl_sl_n, gA_si, gA_sl, gA_sB, gA_sA_s, gA_sA_n, gB_si, gB_sl, gB_sA, gB_sB_s, gB_sB_n, Nat.reduceBEq, if_true, if_false, eq_self, Bool.false_eq_true, reduceCtorEq, not_true_eq_false, not_false_eq_true, decide_true, decide_false, cond_true, cond_false, Bool.true_and, Bool.false_and, Bool.and_true, Bool.and_false, Bool.true_or, Bool.false_or, Bool.or_true, Bool.or_false, b2i_tt, b2i_ff]; done) | (simp only [leave, leaveA, leaveB, leaveC, leaveK, if_neg c_21, decide_eq_false c_21, decide_eq_true c_21, if_pos c_21, if_pos c_27, decide_eq_true c_27, decide_eq_false (not_not_intro c_27), if_pos c_47, c_47, if_neg c_70, decide_eq_false c_70, decide_eq_true c_70, if_pos c_70, gi_sl, gi_sA, gi_sB, gi_si_s, gi_si_n, gl_si, gl_sA, gl_sB, gl_sl_s, gl_sl_n, gA_si, gA_sl, gA_sB, gA_sA_s, gA_sA_n, gB_si, gB_sl, gB_sA, gB_sB_s, gB_sB_n, Nat.reduceBEq, if_true, if_false, eq_self, Bool.false_eq_true, reduceCtorEq, not_true_eq_false, not_false_eq_true, decide_true, decide_false, cond_true, cond_false, Bool.true_and, Bool.false_and, Bool.and_true, Bool.and_false, Bool.true_or, Bool.false_or, Bool.or_true, Bool.or_false, b2i_tt, b2i_ff]; rfl) | (simp [leave, leaveA, leaveB, leaveC, leaveK, c_21, c_27, c_47, c_70, gi_sl, gi_sA, gi_sB, gi_si_s, gi_si_n, gl_si, gl_sA, gl_sB, gl_sl_s, gl_sl_n, gA_si, gA_sl, gA_sB, gA_sA_s, gA_sA_n, gB_si, gB_sl, gB_sA, gB_sB_s, gB_sB_n, Nat.reduceBEq]; done))) rfl rfl rfl rfl rfl, ⟨by rw [ht]; exact hP, va_K.moved hW.alike hK, hD⟩⟩, hS.F ht⟩) hS.2.2 dX1_leave_86
        · refine lv_aload_n hx hb dX1_leave_73 rfl (lv_at hl 2 rfl) ?_
          refine lv_iload_n hx hb dX1_leave_74 rfl (lv_at hl 4 rfl) ?_
          refine lv_aload_n hx hb dX1_leave_75 rfl (lv_at hl 3 rfl) ?_
          refine va_getN (D := D) (ci := 0) (v := .int (gi co 0)) (C := RX0) (T := TX0) (N := 5) hx hb hg inGX0 hown hK hP 1 rfl rfl 4 (by decide) (hN.use nw_9) (fun _ h9 => h9) rfl dX1_leave_76 ?_
          refine lv_aload_n hx hb dX1_leave_79 rfl (lv_at hl 3 rfl) ?_
          refine va_getN (D := D) (ci := 0) (v := .int (gi co 0)) (C := RX0) (T := TX0) (N := 5) hx hb hg inGX0 hown hK hP 1 rfl rfl 4 (by decide) (hN.use nw_9) (fun _ h9 => h9) rfl dX1_leave_80 ?_
          refine kV (rV (q0 := 2) (ci := 1) hx hb hml hown hg hN hK hP hD (c_join l D cI cJ ad co (join (join fl k1 ((rd (gA fl 2) 40 k1) + 1) (gi co 0)) k1 (rd (gA co 1) 40 (rd (gA fl 2) 40 k1)) (gi co 0)) ra li re wa pi k1 (gi co 0) (gi co 0)) mw_102 mw_103 mw_104 mw_105 mw_106 pdv_X1_join ⟨Nat.le_of_ble_eq_true rfl, Nat.le_of_ble_eq_true rfl⟩ rfl rfl rfl hl.1 rfl (Nat.le_of_ble_eq_true rfl) dX1_leave_83 ⟨Nat.le_of_ble_eq_true rfl, Nat.le_of_ble_eq_true rfl⟩) hD hS hA (fun u_19 H locs hp hP hD hS => ?_)
          obtain rfl := hp.symm
          have hP : va_P D vwCl (XW ad cI cJ co (join (join (join fl k1 ((rd (gA fl 2) 40 k1) + 1) (gi co 0)) k1 (rd (gA co 1) 40 (rd (gA fl 2) 40 k1)) (gi co 0)) k1 (gi co 0) (gi co 0)) ra li re wa pi) H := hP
          have hD : va_D A (XW ad cI cJ co (join (join (join fl k1 ((rd (gA fl 2) 40 k1) + 1) (gi co 0)) k1 (rd (gA co 1) 40 (rd (gA fl 2) 40 k1)) (gi co 0)) k1 (gi co 0) (gi co 0)) ra li re wa pi) := hD
          exact W.vret hx hb hr (fun t ht hW => ⟨⟨(XW ad cI cJ co (join (join (join fl k1 ((rd (gA fl 2) 40 k1) + 1) (gi co 0)) k1 (rd (gA co 1) 40 (rd (gA fl 2) 40 k1)) (gi co 0)) k1 (gi co 0) (gi co 0)) ra li re wa pi), rfl, xw_eq rfl (show (join (join (join fl k1 ((rd (gA fl 2) 40 k1) + 1) (gi co 0)) k1 (rd (gA co 1) 40 (rd (gA fl 2) 40 k1)) (gi co 0)) k1 (gi co 0) (gi co 0)) = (leave co fl k1) from (by first | (simp only [leave, leaveA, leaveB, leaveC, leaveK, if_neg c_21, decide_eq_false c_21, decide_eq_true c_21, if_pos c_21, if_pos c_27, decide_eq_true c_27, decide_eq_false (not_not_intro c_27), if_pos c_47, c_47, if_pos c_70, decide_eq_true c_70, decide_eq_false (not_not_intro c_70), gi_sl, gi_sA, gi_sB, gi_si_s, gi_si_n, gl_si, gl_sA, gl_sB, gl_sl_s, gl_sl_n, gA_si, gA_sl, gA_sB, gA_sA_s, gA_sA_n, gB_si, gB_sl, gB_sA, gB_sB_s, gB_sB_n, Nat.reduceBEq, if_true, if_false, eq_self, Bool.false_eq_true, reduceCtorEq, not_true_eq_false, not_false_eq_true, decide_true, decide_false, cond_true, cond_false, Bool.true_and, Bool.false_and, Bool.and_true, Bool.and_false, Bool.true_or, Bool.false_or, Bool.or_true, Bool.or_false, b2i_tt, b2i_ff]; done) | (simp only [leave, leaveA, leaveB, leaveC, leaveK, if_neg c_21, decide_eq_false c_21, decide_eq_true c_21, if_pos c_21, if_pos c_27, decide_eq_true c_27, decide_eq_false (not_not_intro c_27), if_pos c_47, c_47, if_pos c_70, decide_eq_true c_70, decide_eq_false (not_not_intro c_70), gi_sl, gi_sA, gi_sB, gi_si_s, gi_si_n, gl_si, gl_sA, gl_sB, gl_sl_s, gl_sl_n, gA_si, gA_sl, gA_sB, gA_sA_s, gA_sA_n, gB_si, gB_sl, gB_sA, gB_sB_s, gB_sB_n, Nat.reduceBEq, if_true, if_false, eq_self, Bool.false_eq_true, reduceCtorEq, not_true_eq_false, not_false_eq_true, decide_true, decide_false, cond_true, cond_false, Bool.true_and, Bool.false_and, Bool.and_true, Bool.and_false, Bool.true_or, Bool.false_or, Bool.or_true, Bool.or_false, b2i_tt, b2i_ff]; rfl) | (simp [leave, leaveA, leaveB, leaveC, leaveK, c_21, c_27, c_47, c_70, gi_sl, gi_sA, gi_sB, gi_si_s, gi_si_n, gl_si, gl_sA, gl_sB, gl_sl_s, gl_sl_n, gA_si, gA_sl, gA_sB, gA_sA_s, gA_sA_n, gB_si, gB_sl, gB_sA, gB_sB_s, gB_sB_n, Nat.reduceBEq]; done))) rfl rfl rfl rfl rfl, ⟨by rw [ht]; exact hP, va_K.moved hW.alike hK, hD⟩⟩, hS.F ht⟩) hS.2.2 dX1_leave_86
theorem join_bc (fl : Ob) (b i n : Int32) : gi (join fl b i n) 0 = gi fl 0 := by
  unfold join joinP
  split <;> rfl
theorem leave_bc (co fl : Ob) (b : Int32) : gi (leave co fl b) 0 = gi fl 0 := by
  unfold leave leaveC
  split
  · rw [join_bc]
    unfold leaveB
    split
    · rw [join_bc]; unfold leaveA; split
      · rw [join_bc]
      · split
        · rw [join_bc]
        · rfl
    · unfold leaveA; split
      · rw [join_bc]
      · split
        · rw [join_bc]
        · rfl
  · unfold leaveB
    split
    · rw [join_bc]; unfold leaveA; split
      · rw [join_bc]
      · split
        · rw [join_bc]
        · rfl
    · unfold leaveA; split
      · rw [join_bc]
      · split
        · rw [join_bc]
        · rfl
theorem part_bc (co : Ob) (i : Nat) (s : Ob) : gi (lp (partStep co) i s) 0 = gi s 0 := by
  induction i with
  | zero => rfl
  | succ i ih =>
    show gi (partStep co i (lp (partStep co) i s)) 0 = _
    unfold partStep
    rw [leave_bc]
    exact ih
set_option maxHeartbeats 4000000 in
set_option maxRecDepth 100000 in
theorem c_part (l : Launch) (D : va_G) (cI cJ : ClassId) (ad : Nat → Nat) (co fl ra li re wa pi : Ob) : CT l D (TY cI cJ) yX1_part (.code yX1_part cX1_part 3 (none : Option FieldType)) 3 0 0 (XW ad cI cJ co fl ra li re wa pi) [.ref (ad 2), .ref (ad 1)] (QV D (TY cI cJ) (fun u => u = (XW ad cI cJ co (part co fl) ra li re wa pi))) := by
  refine ent (by decide) (Nat.le_of_ble_eq_true rfl) ?_
  intro p e s m below meth c ls A hx hb hr hg hown hml hlocks hnm hP hK hD hS hA hN hl
  have hl : lv_has ls 3 [(0, .ref (ad 2)), (1, .ref (ad 1))] := hl
  refine lv_aload_n hx hb dX1_part_0 rfl (lv_at hl 0 rfl) ?_
  refine lv_aload_n hx hb dX1_part_1 rfl (lv_at hl 1 rfl) ?_
  refine va_getN (D := D) (ci := 0) (v := .int (gi co 0)) (C := RX0) (T := TX0) (N := 5) hx hb hg inGX0 hown hK hP 1 rfl rfl 4 (by decide) (hN.use nw_9) (fun _ h9 => h9) rfl dX1_part_2 ?_
  refine lv_aload_n hx hb dX1_part_5 rfl (lv_at hl 1 rfl) ?_
  refine kL (rS hx hb hml hown hg hN hK hP hD (c_leadersOf l D cI cJ ad co fl ra li re wa pi) mw_107 mw_108 mw_109 mw_106 pd_X1_leadersOf ⟨Nat.le_of_ble_eq_true rfl, Nat.le_of_ble_eq_true rfl⟩ rfl hl.1 rfl (Nat.le_of_ble_eq_true rfl) dX1_part_6 ⟨Nat.le_of_ble_eq_true rfl, Nat.le_of_ble_eq_true rfl⟩) hD hS hA (fun r_1 u_1 H locs hp hP hD hS => ?_)
  obtain ⟨er, eu⟩ := hp
  obtain rfl := er.symm
  obtain rfl := eu.symm
  refine kV (rV (q0 := 2) (ci := 1) hx hb hml hown hg hN hK hP hD (c_cut l D cI cJ ad co fl ra li re wa pi (gi co 0) (leaders co)) mw_110 mw_111 mw_112 mw_113 mw_106 pdv_X1_cut ⟨Nat.le_of_ble_eq_true rfl, Nat.le_of_ble_eq_true rfl⟩ rfl rfl rfl hl.1 rfl (Nat.le_of_ble_eq_true rfl) dX1_part_9 ⟨Nat.le_of_ble_eq_true rfl, Nat.le_of_ble_eq_true rfl⟩) hD hS hA (fun u_2 H locs hp hP hD hS => ?_)
  obtain rfl := hp.symm
  have hP : va_P D vwCl (XW ad cI cJ co (cut fl (gi co 0) (leaders co)) ra li re wa pi) H := hP
  have hD : va_D A (XW ad cI cJ co (cut fl (gi co 0) (leaders co)) ra li re wa pi) := hD
  refine lv_aload_n hx hb dX1_part_12 rfl (lv_at hl 0 rfl) ?_
  refine lv_iconst (v := 0) hx hb dX1_part_13 (by decide) ?_
  refine va_put (D := D) (ci := 1) (v := .int 0) (C := RX1) (T := TX1) (N := 11) hx hb hg inGX1 tyX1 tyX1_ok nmX1 hown hK hP hD hS 2 rfl rfl 8 (by decide) (hg _ mw_100) (fun _ h9 => h9) rfl (tyX1_ok 8 (by decide)) rfl rfl (Nat.le_of_ble_eq_true rfl) dX1_part_14 (fun H locs hP hD hS => ?_)
  have hP : va_P D vwCl (XW ad cI cJ co (si (cut fl (gi co 0) (leaders co)) 1 0) ra li re wa pi) H := hP
  have hD : va_D A (XW ad cI cJ co (si (cut fl (gi co 0) (leaders co)) 1 0) ra li re wa pi) := hD
  refine lv_iconst (v := 0) hx hb dX1_part_17 (by decide) ?_
  refine lv_istore_n (lv' := [(2, .int 0), (0, .ref (ad 2)), (1, .ref (ad 1))]) hx hb dX1_part_18 rfl hl (by decide) rfl (fun ls hl => ?_)
  refine w_loop (σ := Ob) (fun (i_3 : Nat) (p_3 : Ob) (H : Heap) (locs : List Loc) (ls : Array Slot) => p_3 = (lp (partStep co) i_3 (si (cut fl (gi co 0) (leaders co)) 1 0)) ∧ va_P D vwCl (XW ad cI cJ co p_3 ra li re wa pi) H ∧ va_D A (XW ad cI cJ co p_3 ra li re wa pi) ∧ va_S A s.heap H locs ∧ lv_has ls 3 [(0, .ref (ad 2)), (1, .ref (ad 1)), (2, .int (nI i_3))]) (nN (gi (cut fl (gi co 0) (leaders co)) 0)) (fun p_3 H locs ls hI => ?_) (fun i_3 p_3 H locs ls hi_3 hI ih_3 => ?_) 0 (si (cut fl (gi co 0) (leaders co)) 1 0) (Nat.zero_le _) ⟨rfl, hP, hD, hS, (by rw [nI_0]; exact lv_sub hl [1, 2, 0] rfl)⟩
  · obtain ⟨h_3, hP, hD, hS, hl⟩ := hI
    have h_3 := h_3.symm
    subst h_3
    have hP : va_P D vwCl (XW ad cI cJ co ((lp (partStep co) (nN (gi (cut fl (gi co 0) (leaders co)) 0)) (si (cut fl (gi co 0) (leaders co)) 1 0))) ra li re wa pi) H := hP
    have hD : va_D A (XW ad cI cJ co ((lp (partStep co) (nN (gi (cut fl (gi co 0) (leaders co)) 0)) (si (cut fl (gi co 0) (leaders co)) 1 0))) ra li re wa pi) := hD
    have hl : lv_has ls 3 [(0, .ref (ad 2)), (1, .ref (ad 1)), (2, .int (nI ((nN (gi (cut fl (gi co 0) (leaders co)) 0)))))] := hl
    refine lv_iload_n hx hb dX1_part_19 rfl (lv_at hl 2 rfl) ?_
    refine lv_aload_n hx hb dX1_part_20 rfl (lv_at hl 0 rfl) ?_
    refine va_get (D := D) (ci := 1) (v := .int (gi ((lp (partStep co) (nN (gi (cut fl (gi co 0) (leaders co)) 0)) (si (cut fl (gi co 0) (leaders co)) 1 0))) 0)) (C := RX1) (T := TX1) (N := 11) hx hb hg inGX1 hown hK hP 2 rfl rfl 7 (by decide) (hg _ mw_88) (fun _ h9 => h9) rfl dX1_part_21 ?_
    refine lv_icmp_ge (tgt := 60) hx hb dX1_part_24 (by decide) (fun _ => ?_) (fun c_24 => absurd (by rw [part_bc]; exact lp_out _) c_24)
    refine lv_aload_n hx hb dX1_part_60 rfl (lv_at hl 0 rfl) ?_
    refine va_get (D := D) (ci := 1) (v := .ref (ad 17)) (C := RX1) (T := TX1) (N := 11) hx hb hg inGX1 hown hK hP 2 rfl rfl 5 (by decide) (hg _ mw_114) (fun _ h9 => h9) rfl dX1_part_61 ?_
    refine lv_aload_n hx hb dX1_part_64 rfl (lv_at hl 0 rfl) ?_
    refine va_get (D := D) (ci := 1) (v := .int (gi ((lp (partStep co) (nN (gi (cut fl (gi co 0) (leaders co)) 0)) (si (cut fl (gi co 0) (leaders co)) 1 0))) 0)) (C := RX1) (T := TX1) (N := 11) hx hb hg inGX1 hown hK hP 2 rfl rfl 7 (by decide) (hg _ mw_88) (fun _ h9 => h9) rfl dX1_part_65 ?_
    refine lv_aload_n hx hb dX1_part_68 rfl (lv_at hl 0 rfl) ?_
    refine va_get (D := D) (ci := 1) (v := .int (gi ((lp (partStep co) (nN (gi (cut fl (gi co 0) (leaders co)) 0)) (si (cut fl (gi co 0) (leaders co)) 1 0))) 1)) (C := RX1) (T := TX1) (N := 11) hx hb hg inGX1 hown hK hP 2 rfl rfl 8 (by decide) (hg _ mw_100) (fun _ h9 => h9) rfl dX1_part_69 ?_
    refine kV (rSN hx hb hml hown hg hN hK hP hD (c_put l D cI cJ (XW ad cI cJ co ((lp (partStep co) (nN (gi (cut fl (gi co 0) (leaders co)) 0)) (si (cut fl (gi co 0) (leaders co)) 1 0))) ra li re wa pi) 17 (ad 17) 41 (gA ((lp (partStep co) (nN (gi (cut fl (gi co 0) (leaders co)) 0)) (si (cut fl (gi co 0) (leaders co)) 1 0))) 5) (gi ((lp (partStep co) (nN (gi (cut fl (gi co 0) (leaders co)) 0)) (si (cut fl (gi co 0) (leaders co)) 1 0))) 0) (gi ((lp (partStep co) (nN (gi (cut fl (gi co 0) (leaders co)) 0)) (si (cut fl (gi co 0) (leaders co)) 1 0))) 1) rfl (by decide)) mw_92 nw_69 mw_93 mw_77 pd_X7_put ⟨Nat.le_of_ble_eq_true rfl, Nat.le_of_ble_eq_true rfl⟩ rfl hl.1 rfl (Nat.le_of_ble_eq_true rfl) dX1_part_72 ⟨Nat.le_of_ble_eq_true rfl, Nat.le_of_ble_eq_true rfl⟩) hD hS hA (fun u_4 H locs hp hP hD hS => ?_)
    obtain rfl := hp.symm
    have hP : va_P D vwCl (XW ad cI cJ co (sA ((lp (partStep co) (nN (gi (cut fl (gi co 0) (leaders co)) 0)) (si (cut fl (gi co 0) (leaders co)) 1 0))) 5 (wr (gA ((lp (partStep co) (nN (gi (cut fl (gi co 0) (leaders co)) 0)) (si (cut fl (gi co 0) (leaders co)) 1 0))) 5) 41 (gi ((lp (partStep co) (nN (gi (cut fl (gi co 0) (leaders co)) 0)) (si (cut fl (gi co 0) (leaders co)) 1 0))) 0) (gi ((lp (partStep co) (nN (gi (cut fl (gi co 0) (leaders co)) 0)) (si (cut fl (gi co 0) (leaders co)) 1 0))) 1))) ra li re wa pi) H := hP
    have hD : va_D A (XW ad cI cJ co (sA ((lp (partStep co) (nN (gi (cut fl (gi co 0) (leaders co)) 0)) (si (cut fl (gi co 0) (leaders co)) 1 0))) 5 (wr (gA ((lp (partStep co) (nN (gi (cut fl (gi co 0) (leaders co)) 0)) (si (cut fl (gi co 0) (leaders co)) 1 0))) 5) 41 (gi ((lp (partStep co) (nN (gi (cut fl (gi co 0) (leaders co)) 0)) (si (cut fl (gi co 0) (leaders co)) 1 0))) 0) (gi ((lp (partStep co) (nN (gi (cut fl (gi co 0) (leaders co)) 0)) (si (cut fl (gi co 0) (leaders co)) 1 0))) 1))) ra li re wa pi) := hD
    refine lv_aload_n hx hb dX1_part_75 rfl (lv_at hl 0 rfl) ?_
    refine lv_aload_n hx hb dX1_part_76 rfl (lv_at hl 0 rfl) ?_
    refine va_get (D := D) (ci := 1) (v := .int (gi ((lp (partStep co) (nN (gi (cut fl (gi co 0) (leaders co)) 0)) (si (cut fl (gi co 0) (leaders co)) 1 0))) 0)) (C := RX1) (T := TX1) (N := 11) hx hb hg inGX1 hown hK hP 2 rfl rfl 7 (by decide) (hg _ mw_88) (fun _ h9 => h9) rfl dX1_part_77 ?_
    refine lv_if_le (tgt := 99) hx hb dX1_part_80 (by decide) (fun c_80 => ?_) (fun c_80 => ?_)
    · have c_80 : ¬ 0 < (gi ((lp (partStep co) (nN (gi (cut fl (gi co 0) (leaders co)) 0)) (si (cut fl (gi co 0) (leaders co)) 1 0))) 0) := i_ge c_80
      refine lv_lconst (v := 0) hx hb dX1_part_99 (by decide) ?_
      refine va_put (D := D) (ci := 1) (v := .long 0) (C := RX1) (T := TX1) (N := 11) hx hb hg inGX1 tyX1 tyX1_ok nmX1 hown hK hP hD hS 2 rfl rfl 9 (by decide) (hg _ mw_115) (fun _ h9 => h9) rfl (tyX1_ok 9 (by decide)) rfl rfl (Nat.le_of_ble_eq_true rfl) dX1_part_100 (fun H locs hP hD hS => ?_)
      have hP : va_P D vwCl (XW ad cI cJ co (sl (sA ((lp (partStep co) (nN (gi (cut fl (gi co 0) (leaders co)) 0)) (si (cut fl (gi co 0) (leaders co)) 1 0))) 5 (wr (gA ((lp (partStep co) (nN (gi (cut fl (gi co 0) (leaders co)) 0)) (si (cut fl (gi co 0) (leaders co)) 1 0))) 5) 41 (gi ((lp (partStep co) (nN (gi (cut fl (gi co 0) (leaders co)) 0)) (si (cut fl (gi co 0) (leaders co)) 1 0))) 0) (gi ((lp (partStep co) (nN (gi (cut fl (gi co 0) (leaders co)) 0)) (si (cut fl (gi co 0) (leaders co)) 1 0))) 1))) 0 0) ra li re wa pi) H := hP
      have hD : va_D A (XW ad cI cJ co (sl (sA ((lp (partStep co) (nN (gi (cut fl (gi co 0) (leaders co)) 0)) (si (cut fl (gi co 0) (leaders co)) 1 0))) 5 (wr (gA ((lp (partStep co) (nN (gi (cut fl (gi co 0) (leaders co)) 0)) (si (cut fl (gi co 0) (leaders co)) 1 0))) 5) 41 (gi ((lp (partStep co) (nN (gi (cut fl (gi co 0) (leaders co)) 0)) (si (cut fl (gi co 0) (leaders co)) 1 0))) 0) (gi ((lp (partStep co) (nN (gi (cut fl (gi co 0) (leaders co)) 0)) (si (cut fl (gi co 0) (leaders co)) 1 0))) 1))) 0 0) ra li re wa pi) := hD
      exact W.vret hx hb hr (fun t ht hW => ⟨⟨(XW ad cI cJ co (sl (sA ((lp (partStep co) (nN (gi (cut fl (gi co 0) (leaders co)) 0)) (si (cut fl (gi co 0) (leaders co)) 1 0))) 5 (wr (gA ((lp (partStep co) (nN (gi (cut fl (gi co 0) (leaders co)) 0)) (si (cut fl (gi co 0) (leaders co)) 1 0))) 5) 41 (gi ((lp (partStep co) (nN (gi (cut fl (gi co 0) (leaders co)) 0)) (si (cut fl (gi co 0) (leaders co)) 1 0))) 0) (gi ((lp (partStep co) (nN (gi (cut fl (gi co 0) (leaders co)) 0)) (si (cut fl (gi co 0) (leaders co)) 1 0))) 1))) 0 0) ra li re wa pi), rfl, xw_eq rfl (show (sl (sA ((lp (partStep co) (nN (gi (cut fl (gi co 0) (leaders co)) 0)) (si (cut fl (gi co 0) (leaders co)) 1 0))) 5 (wr (gA ((lp (partStep co) (nN (gi (cut fl (gi co 0) (leaders co)) 0)) (si (cut fl (gi co 0) (leaders co)) 1 0))) 5) 41 (gi ((lp (partStep co) (nN (gi (cut fl (gi co 0) (leaders co)) 0)) (si (cut fl (gi co 0) (leaders co)) 1 0))) 0) (gi ((lp (partStep co) (nN (gi (cut fl (gi co 0) (leaders co)) 0)) (si (cut fl (gi co 0) (leaders co)) 1 0))) 1))) 0 0) = (part co fl) from (by first | (simp only [part, partE, partL, if_neg c_80, decide_eq_false c_80, decide_eq_true c_80, if_pos c_80, gi_sl, gi_sA, gi_sB, gi_si_s, gi_si_n, gl_si, gl_sA, gl_sB, gl_sl_s, gl_sl_n, gA_si, gA_sl, gA_sB, gA_sA_s, gA_sA_n, gB_si, gB_sl, gB_sA, gB_sB_s, gB_sB_n, Nat.reduceBEq, if_true, if_false, eq_self, Bool.false_eq_true, reduceCtorEq, not_true_eq_false, not_false_eq_true, decide_true, decide_false, cond_true, cond_false, Bool.true_and, Bool.false_and, Bool.and_true, Bool.and_false, Bool.true_or, Bool.false_or, Bool.or_true, Bool.or_false, b2i_tt, b2i_ff]; done) | (simp only [part, partE, partL, if_neg c_80, decide_eq_false c_80, decide_eq_true c_80, if_pos c_80, gi_sl, gi_sA, gi_sB, gi_si_s, gi_si_n, gl_si, gl_sA, gl_sB, gl_sl_s, gl_sl_n, gA_si, gA_sl, gA_sB, gA_sA_s, gA_sA_n, gB_si, gB_sl, gB_sA, gB_sB_s, gB_sB_n, Nat.reduceBEq, if_true, if_false, eq_self, Bool.false_eq_true, reduceCtorEq, not_true_eq_false, not_false_eq_true, decide_true, decide_false, cond_true, cond_false, Bool.true_and, Bool.false_and, Bool.and_true, Bool.and_false, Bool.true_or, Bool.false_or, Bool.or_true, Bool.or_false, b2i_tt, b2i_ff]; rfl) | (simp [part, partE, partL, c_80, gi_sl, gi_sA, gi_sB, gi_si_s, gi_si_n, gl_si, gl_sA, gl_sB, gl_sl_s, gl_sl_n, gA_si, gA_sl, gA_sB, gA_sA_s, gA_sA_n, gB_si, gB_sl, gB_sA, gB_sB_s, gB_sB_n, Nat.reduceBEq]; done))) rfl rfl rfl rfl rfl, ⟨by rw [ht]; exact hP, va_K.moved hW.alike hK, hD⟩⟩, hS.F ht⟩) hS.2.2 dX1_part_103
    · have c_80 : 0 < (gi ((lp (partStep co) (nN (gi (cut fl (gi co 0) (leaders co)) 0)) (si (cut fl (gi co 0) (leaders co)) 1 0))) 0) := i_nge c_80
      refine lv_aload_n hx hb dX1_part_83 rfl (lv_at hl 0 rfl) ?_
      refine va_get (D := D) (ci := 1) (v := .ref (ad 18)) (C := RX1) (T := TX1) (N := 11) hx hb hg inGX1 hown hK hP 2 rfl rfl 6 (by decide) (hg _ mw_96) (fun _ h9 => h9) rfl dX1_part_84 ?_
      refine lv_lconst (v := 1) hx hb dX1_part_87 (by decide) ?_
      refine lv_bipush (v := 40) hx hb dX1_part_88 (by decide) ?_
      refine kL (rSN hx hb hml hown hg hN hK hP hD (c_bit l D cI cJ (XW ad cI cJ co (sA ((lp (partStep co) (nN (gi (cut fl (gi co 0) (leaders co)) 0)) (si (cut fl (gi co 0) (leaders co)) 1 0))) 5 (wr (gA ((lp (partStep co) (nN (gi (cut fl (gi co 0) (leaders co)) 0)) (si (cut fl (gi co 0) (leaders co)) 1 0))) 5) 41 (gi ((lp (partStep co) (nN (gi (cut fl (gi co 0) (leaders co)) 0)) (si (cut fl (gi co 0) (leaders co)) 1 0))) 0) (gi ((lp (partStep co) (nN (gi (cut fl (gi co 0) (leaders co)) 0)) (si (cut fl (gi co 0) (leaders co)) 1 0))) 1))) ra li re wa pi) 40) mw_78 nw_66 mw_80 mw_77 pd_X7_bit ⟨Nat.le_of_ble_eq_true rfl, Nat.le_of_ble_eq_true rfl⟩ rfl hl.1 rfl (Nat.le_of_ble_eq_true rfl) dX1_part_90 ⟨Nat.le_of_ble_eq_true rfl, Nat.le_of_ble_eq_true rfl⟩) hD hS hA (fun r_5 u_5 H locs hp hP hD hS => ?_)
      obtain ⟨er, eu⟩ := hp
      obtain rfl := er.symm
      obtain rfl := eu.symm
      refine kL (rSN hx hb hml hown hg hN hK hP hD (c_spread l D cI cJ (XW ad cI cJ co (sA ((lp (partStep co) (nN (gi (cut fl (gi co 0) (leaders co)) 0)) (si (cut fl (gi co 0) (leaders co)) 1 0))) 5 (wr (gA ((lp (partStep co) (nN (gi (cut fl (gi co 0) (leaders co)) 0)) (si (cut fl (gi co 0) (leaders co)) 1 0))) 5) 41 (gi ((lp (partStep co) (nN (gi (cut fl (gi co 0) (leaders co)) 0)) (si (cut fl (gi co 0) (leaders co)) 1 0))) 0) (gi ((lp (partStep co) (nN (gi (cut fl (gi co 0) (leaders co)) 0)) (si (cut fl (gi co 0) (leaders co)) 1 0))) 1))) ra li re wa pi) 18 (ad 18) (gB ((lp (partStep co) (nN (gi (cut fl (gi co 0) (leaders co)) 0)) (si (cut fl (gi co 0) (leaders co)) 1 0))) 0) 1 (bitL 40) rfl) mw_116 nw_72 mw_117 mw_77 pd_X7_spread ⟨Nat.le_of_ble_eq_true rfl, Nat.le_of_ble_eq_true rfl⟩ rfl hl.1 rfl (Nat.le_of_ble_eq_true rfl) dX1_part_93 ⟨Nat.le_of_ble_eq_true rfl, Nat.le_of_ble_eq_true rfl⟩) hD hS hA (fun r_6 u_6 H locs hp hP hD hS => ?_)
      obtain ⟨er, eu⟩ := hp
      obtain rfl := er.symm
      obtain rfl := eu.symm
      refine lv_goto (tgt := 100) hx hb dX1_part_96 (by decide) ?_
      refine va_put (D := D) (ci := 1) (v := .long (spread (gB ((lp (partStep co) (nN (gi (cut fl (gi co 0) (leaders co)) 0)) (si (cut fl (gi co 0) (leaders co)) 1 0))) 0) 1 (bitL 40))) (C := RX1) (T := TX1) (N := 11) hx hb hg inGX1 tyX1 tyX1_ok nmX1 hown hK hP hD hS 2 rfl rfl 9 (by decide) (hg _ mw_115) (fun _ h9 => h9) rfl (tyX1_ok 9 (by decide)) rfl rfl (Nat.le_of_ble_eq_true rfl) dX1_part_100 (fun H locs hP hD hS => ?_)
      have hP : va_P D vwCl (XW ad cI cJ co (sl (sA ((lp (partStep co) (nN (gi (cut fl (gi co 0) (leaders co)) 0)) (si (cut fl (gi co 0) (leaders co)) 1 0))) 5 (wr (gA ((lp (partStep co) (nN (gi (cut fl (gi co 0) (leaders co)) 0)) (si (cut fl (gi co 0) (leaders co)) 1 0))) 5) 41 (gi ((lp (partStep co) (nN (gi (cut fl (gi co 0) (leaders co)) 0)) (si (cut fl (gi co 0) (leaders co)) 1 0))) 0) (gi ((lp (partStep co) (nN (gi (cut fl (gi co 0) (leaders co)) 0)) (si (cut fl (gi co 0) (leaders co)) 1 0))) 1))) 0 (spread (gB ((lp (partStep co) (nN (gi (cut fl (gi co 0) (leaders co)) 0)) (si (cut fl (gi co 0) (leaders co)) 1 0))) 0) 1 (bitL 40))) ra li re wa pi) H := hP
      have hD : va_D A (XW ad cI cJ co (sl (sA ((lp (partStep co) (nN (gi (cut fl (gi co 0) (leaders co)) 0)) (si (cut fl (gi co 0) (leaders co)) 1 0))) 5 (wr (gA ((lp (partStep co) (nN (gi (cut fl (gi co 0) (leaders co)) 0)) (si (cut fl (gi co 0) (leaders co)) 1 0))) 5) 41 (gi ((lp (partStep co) (nN (gi (cut fl (gi co 0) (leaders co)) 0)) (si (cut fl (gi co 0) (leaders co)) 1 0))) 0) (gi ((lp (partStep co) (nN (gi (cut fl (gi co 0) (leaders co)) 0)) (si (cut fl (gi co 0) (leaders co)) 1 0))) 1))) 0 (spread (gB ((lp (partStep co) (nN (gi (cut fl (gi co 0) (leaders co)) 0)) (si (cut fl (gi co 0) (leaders co)) 1 0))) 0) 1 (bitL 40))) ra li re wa pi) := hD
      exact W.vret hx hb hr (fun t ht hW => ⟨⟨(XW ad cI cJ co (sl (sA ((lp (partStep co) (nN (gi (cut fl (gi co 0) (leaders co)) 0)) (si (cut fl (gi co 0) (leaders co)) 1 0))) 5 (wr (gA ((lp (partStep co) (nN (gi (cut fl (gi co 0) (leaders co)) 0)) (si (cut fl (gi co 0) (leaders co)) 1 0))) 5) 41 (gi ((lp (partStep co) (nN (gi (cut fl (gi co 0) (leaders co)) 0)) (si (cut fl (gi co 0) (leaders co)) 1 0))) 0) (gi ((lp (partStep co) (nN (gi (cut fl (gi co 0) (leaders co)) 0)) (si (cut fl (gi co 0) (leaders co)) 1 0))) 1))) 0 (spread (gB ((lp (partStep co) (nN (gi (cut fl (gi co 0) (leaders co)) 0)) (si (cut fl (gi co 0) (leaders co)) 1 0))) 0) 1 (bitL 40))) ra li re wa pi), rfl, xw_eq rfl (show (sl (sA ((lp (partStep co) (nN (gi (cut fl (gi co 0) (leaders co)) 0)) (si (cut fl (gi co 0) (leaders co)) 1 0))) 5 (wr (gA ((lp (partStep co) (nN (gi (cut fl (gi co 0) (leaders co)) 0)) (si (cut fl (gi co 0) (leaders co)) 1 0))) 5) 41 (gi ((lp (partStep co) (nN (gi (cut fl (gi co 0) (leaders co)) 0)) (si (cut fl (gi co 0) (leaders co)) 1 0))) 0) (gi ((lp (partStep co) (nN (gi (cut fl (gi co 0) (leaders co)) 0)) (si (cut fl (gi co 0) (leaders co)) 1 0))) 1))) 0 (spread (gB ((lp (partStep co) (nN (gi (cut fl (gi co 0) (leaders co)) 0)) (si (cut fl (gi co 0) (leaders co)) 1 0))) 0) 1 (bitL 40))) = (part co fl) from (by first | (simp only [part, partE, partL, if_pos c_80, decide_eq_true c_80, decide_eq_false (not_not_intro c_80), gi_sl, gi_sA, gi_sB, gi_si_s, gi_si_n, gl_si, gl_sA, gl_sB, gl_sl_s, gl_sl_n, gA_si, gA_sl, gA_sB, gA_sA_s, gA_sA_n, gB_si, gB_sl, gB_sA, gB_sB_s, gB_sB_n, Nat.reduceBEq, if_true, if_false, eq_self, Bool.false_eq_true, reduceCtorEq, not_true_eq_false, not_false_eq_true, decide_true, decide_false, cond_true, cond_false, Bool.true_and, Bool.false_and, Bool.and_true, Bool.and_false, Bool.true_or, Bool.false_or, Bool.or_true, Bool.or_false, b2i_tt, b2i_ff]; done) | (simp only [part, partE, partL, if_pos c_80, decide_eq_true c_80, decide_eq_false (not_not_intro c_80), gi_sl, gi_sA, gi_sB, gi_si_s, gi_si_n, gl_si, gl_sA, gl_sB, gl_sl_s, gl_sl_n, gA_si, gA_sl, gA_sB, gA_sA_s, gA_sA_n, gB_si, gB_sl, gB_sA, gB_sB_s, gB_sB_n, Nat.reduceBEq, if_true, if_false, eq_self, Bool.false_eq_true, reduceCtorEq, not_true_eq_false, not_false_eq_true, decide_true, decide_false, cond_true, cond_false, Bool.true_and, Bool.false_and, Bool.and_true, Bool.and_false, Bool.true_or, Bool.false_or, Bool.or_true, Bool.or_false, b2i_tt, b2i_ff]; rfl) | (simp [part, partE, partL, c_80, gi_sl, gi_sA, gi_sB, gi_si_s, gi_si_n, gl_si, gl_sA, gl_sB, gl_sl_s, gl_sl_n, gA_si, gA_sl, gA_sB, gA_sA_s, gA_sA_n, gB_si, gB_sl, gB_sA, gB_sB_s, gB_sB_n, Nat.reduceBEq]; done))) rfl rfl rfl rfl rfl, ⟨by rw [ht]; exact hP, va_K.moved hW.alike hK, hD⟩⟩, hS.F ht⟩) hS.2.2 dX1_part_103
  · obtain ⟨h_3, hP, hD, hS, hl⟩ := hI
    have hP : va_P D vwCl (XW ad cI cJ co p_3 ra li re wa pi) H := hP
    have hD : va_D A (XW ad cI cJ co p_3 ra li re wa pi) := hD
    have hl : lv_has ls 3 [(0, .ref (ad 2)), (1, .ref (ad 1)), (2, .int (nI i_3))] := hl
    refine lv_iload_n hx hb dX1_part_19 rfl (lv_at hl 2 rfl) ?_
    refine lv_aload_n hx hb dX1_part_20 rfl (lv_at hl 0 rfl) ?_
    refine va_get (D := D) (ci := 1) (v := .int (gi p_3 0)) (C := RX1) (T := TX1) (N := 11) hx hb hg inGX1 hown hK hP 2 rfl rfl 7 (by decide) (hg _ mw_88) (fun _ h9 => h9) rfl dX1_part_21 ?_
    refine lv_icmp_ge (tgt := 60) hx hb dX1_part_24 (by decide) (fun c_24 => absurd c_24 (by rw [h_3, part_bc]; exact lp_in hi_3)) (fun _ => ?_)
    refine lv_aload_n hx hb dX1_part_27 rfl (lv_at hl 0 rfl) ?_
    refine va_get (D := D) (ci := 1) (v := .ref (ad 17)) (C := RX1) (T := TX1) (N := 11) hx hb hg inGX1 hown hK hP 2 rfl rfl 5 (by decide) (hg _ mw_114) (fun _ h9 => h9) rfl dX1_part_28 ?_
    refine lv_iload_n hx hb dX1_part_31 rfl (lv_at hl 2 rfl) ?_
    refine lv_aload_n hx hb dX1_part_32 rfl (lv_at hl 0 rfl) ?_
    refine va_get (D := D) (ci := 1) (v := .int (gi p_3 1)) (C := RX1) (T := TX1) (N := 11) hx hb hg inGX1 hown hK hP 2 rfl rfl 8 (by decide) (hg _ mw_100) (fun _ h9 => h9) rfl dX1_part_33 ?_
    refine kV (rSN hx hb hml hown hg hN hK hP hD (c_put l D cI cJ (XW ad cI cJ co p_3 ra li re wa pi) 17 (ad 17) 41 (gA p_3 5) (nI i_3) (gi p_3 1) rfl (by decide)) mw_92 nw_69 mw_93 mw_77 pd_X7_put ⟨Nat.le_of_ble_eq_true rfl, Nat.le_of_ble_eq_true rfl⟩ rfl hl.1 rfl (Nat.le_of_ble_eq_true rfl) dX1_part_36 ⟨Nat.le_of_ble_eq_true rfl, Nat.le_of_ble_eq_true rfl⟩) hD hS hA (fun u_7 H locs hp hP hD hS => ?_)
    obtain rfl := hp.symm
    have hP : va_P D vwCl (XW ad cI cJ co (sA p_3 5 (wr (gA p_3 5) 41 (nI i_3) (gi p_3 1))) ra li re wa pi) H := hP
    have hD : va_D A (XW ad cI cJ co (sA p_3 5 (wr (gA p_3 5) 41 (nI i_3) (gi p_3 1))) ra li re wa pi) := hD
    refine lv_aload_n hx hb dX1_part_39 rfl (lv_at hl 0 rfl) ?_
    refine va_get (D := D) (ci := 1) (v := .ref (ad 18)) (C := RX1) (T := TX1) (N := 11) hx hb hg inGX1 hown hK hP 2 rfl rfl 6 (by decide) (hg _ mw_96) (fun _ h9 => h9) rfl dX1_part_40 ?_
    refine lv_iload_n hx hb dX1_part_43 rfl (lv_at hl 2 rfl) ?_
    refine lv_lconst (v := 0) hx hb dX1_part_44 (by decide) ?_
    refine kV (rSN hx hb hml hown hg hN hK hP hD (c_putL l D cI cJ (XW ad cI cJ co (sA p_3 5 (wr (gA p_3 5) 41 (nI i_3) (gi p_3 1))) ra li re wa pi) 18 (ad 18) 40 (gB p_3 0) (nI i_3) 0 rfl (by decide)) mw_97 nw_70 mw_98 mw_77 pd_X7_put_ ⟨Nat.le_of_ble_eq_true rfl, Nat.le_of_ble_eq_true rfl⟩ rfl hl.1 rfl (Nat.le_of_ble_eq_true rfl) dX1_part_45 ⟨Nat.le_of_ble_eq_true rfl, Nat.le_of_ble_eq_true rfl⟩) hD hS hA (fun u_8 H locs hp hP hD hS => ?_)
    obtain rfl := hp.symm
    have hP : va_P D vwCl (XW ad cI cJ co (sB (sA p_3 5 (wr (gA p_3 5) 41 (nI i_3) (gi p_3 1))) 0 (wrL (gB p_3 0) 40 (nI i_3) 0)) ra li re wa pi) H := hP
    have hD : va_D A (XW ad cI cJ co (sB (sA p_3 5 (wr (gA p_3 5) 41 (nI i_3) (gi p_3 1))) 0 (wrL (gB p_3 0) 40 (nI i_3) 0)) ra li re wa pi) := hD
    refine lv_aload_n hx hb dX1_part_48 rfl (lv_at hl 0 rfl) ?_
    refine lv_aload_n hx hb dX1_part_49 rfl (lv_at hl 1 rfl) ?_
    refine lv_iload_n hx hb dX1_part_50 rfl (lv_at hl 2 rfl) ?_
    refine kV (rV (q0 := 2) (ci := 1) hx hb hml hown hg hN hK hP hD (c_leave l D cI cJ ad co (sB (sA p_3 5 (wr (gA p_3 5) 41 (nI i_3) (gi p_3 1))) 0 (wrL (gB p_3 0) 40 (nI i_3) 0)) ra li re wa pi (nI i_3)) mw_118 mw_119 mw_120 mw_121 mw_106 pdv_X1_leave ⟨Nat.le_of_ble_eq_true rfl, Nat.le_of_ble_eq_true rfl⟩ rfl rfl rfl hl.1 rfl (Nat.le_of_ble_eq_true rfl) dX1_part_51 ⟨Nat.le_of_ble_eq_true rfl, Nat.le_of_ble_eq_true rfl⟩) hD hS hA (fun u_9 H locs hp hP hD hS => ?_)
    obtain rfl := hp.symm
    have hP : va_P D vwCl (XW ad cI cJ co (leave co (sB (sA p_3 5 (wr (gA p_3 5) 41 (nI i_3) (gi p_3 1))) 0 (wrL (gB p_3 0) 40 (nI i_3) 0)) (nI i_3)) ra li re wa pi) H := hP
    have hD : va_D A (XW ad cI cJ co (leave co (sB (sA p_3 5 (wr (gA p_3 5) 41 (nI i_3) (gi p_3 1))) 0 (wrL (gB p_3 0) 40 (nI i_3) 0)) (nI i_3)) ra li re wa pi) := hD
    refine lv_iinc (v := (nI (i_3 + 1))) (lv' := [(2, .int (nI (i_3 + 1))), (0, .ref (ad 2)), (1, .ref (ad 1))]) hx hb dX1_part_54 hl (k := 2) rfl (nI_1 i_3) (by decide) rfl (fun ls hl => ?_)
    refine lv_goto (tgt := 19) hx hb dX1_part_57 (by decide) ?_
    exact ih_3 (leave co (sB (sA p_3 5 (wr (gA p_3 5) 41 (nI i_3) (gi p_3 1))) 0 (wrL (gB p_3 0) 40 (nI i_3) 0)) (nI i_3)) H locs ls ⟨((show (leave co (sB (sA p_3 5 (wr (gA p_3 5) 41 (nI i_3) (gi p_3 1))) 0 (wrL (gB p_3 0) 40 (nI i_3) 0)) (nI i_3)) = (partStep co) i_3 p_3 from (by first | with_reducible rfl | (simp only [partStep, gi_sl, gi_sA, gi_sB, gi_si_s, gi_si_n, gl_si, gl_sA, gl_sB, gl_sl_s, gl_sl_n, gA_si, gA_sl, gA_sB, gA_sA_s, gA_sA_n, gB_si, gB_sl, gB_sA, gB_sB_s, gB_sB_n, Nat.reduceBEq, if_true, if_false, eq_self, Bool.false_eq_true, reduceCtorEq, not_true_eq_false, not_false_eq_true, decide_true, decide_false, cond_true, cond_false, Bool.true_and, Bool.false_and, Bool.and_true, Bool.and_false, Bool.true_or, Bool.false_or, Bool.or_true, Bool.or_false, b2i_tt, b2i_ff]; done) | rfl)).trans (lp_go h_3)), hP, hD, hS, lv_sub hl [1, 2, 0] rfl⟩
set_option maxHeartbeats 4000000 in
set_option maxRecDepth 100000 in
theorem c_countWindings (l : Launch) (D : va_G) (cI cJ : ClassId) (ad : Nat → Nat) (co fl ra li re wa pi : Ob) : CT l D (TY cI cJ) yX1_countWindings (.code yX1_countWindings cX1_countWindings 3 (some Jvm.ClassFile.FieldType.int)) 1 0 0 (XW ad cI cJ co fl ra li re wa pi) [.ref (ad 2)] (QI D (TY cI cJ) (fun r u => r = (windings fl) ∧ u = (XW ad cI cJ co fl ra li re wa pi))) := by
  refine ent (by decide) (Nat.le_of_ble_eq_true rfl) ?_
  intro p e s m below meth c ls A hx hb hr hg hown hml hlocks hnm hP hK hD hS hA hN hl
  have hl : lv_has ls 3 [(0, .ref (ad 2))] := hl
  refine lv_aload_n hx hb dX1_countWindings_0 rfl (lv_at hl 0 rfl) ?_
  refine va_get (D := D) (ci := 1) (v := .int (gi fl 0)) (C := RX1) (T := TX1) (N := 11) hx hb hg inGX1 hown hK hP 2 rfl rfl 7 (by decide) (hg _ mw_88) (fun _ h9 => h9) rfl dX1_countWindings_1 ?_
  refine lv_if_ne (tgt := 9) hx hb dX1_countWindings_4 (by decide) (fun c_4 => ?_) (fun c_4 => ?_)
  · refine lv_iconst (v := 0) hx hb dX1_countWindings_9 (by decide) ?_
    refine lv_istore_n (lv' := [(1, .int 0), (0, .ref (ad 2))]) hx hb dX1_countWindings_10 rfl hl (by decide) rfl (fun ls hl => ?_)
    refine lv_iconst (v := 0) hx hb dX1_countWindings_11 (by decide) ?_
    refine lv_istore_n (lv' := [(2, .int 0), (1, .int 0), (0, .ref (ad 2))]) hx hb dX1_countWindings_12 rfl hl (by decide) rfl (fun ls hl => ?_)
    refine w_loop (σ := Int32) (fun (i_1 : Nat) (p_1 : Int32) (H : Heap) (locs : List Loc) (ls : Array Slot) => p_1 = (lp (windStep fl) i_1 0) ∧ va_P D vwCl (XW ad cI cJ co fl ra li re wa pi) H ∧ va_D A (XW ad cI cJ co fl ra li re wa pi) ∧ va_S A s.heap H locs ∧ lv_has ls 3 [(0, .ref (ad 2)), (1, .int p_1), (2, .int (nI i_1))]) (nN (gi fl 1)) (fun p_1 H locs ls hI => ?_) (fun i_1 p_1 H locs ls hi_1 hI ih_1 => ?_) 0 0 (Nat.zero_le _) ⟨rfl, hP, hD, hS, (by rw [nI_0]; exact lv_sub hl [2, 1, 0] rfl)⟩
    · obtain ⟨h_1, hP, hD, hS, hl⟩ := hI
      have h_1 := h_1.symm
      subst h_1
      have hP : va_P D vwCl (XW ad cI cJ co fl ra li re wa pi) H := hP
      have hD : va_D A (XW ad cI cJ co fl ra li re wa pi) := hD
      have hl : lv_has ls 3 [(0, .ref (ad 2)), (1, .int ((lp (windStep fl) (nN (gi fl 1)) 0))), (2, .int (nI ((nN (gi fl 1)))))] := hl
      refine lv_iload_n hx hb dX1_countWindings_13 rfl (lv_at hl 2 rfl) ?_
      refine lv_aload_n hx hb dX1_countWindings_14 rfl (lv_at hl 0 rfl) ?_
      refine va_get (D := D) (ci := 1) (v := .int (gi fl 1)) (C := RX1) (T := TX1) (N := 11) hx hb hg inGX1 hown hK hP 2 rfl rfl 8 (by decide) (hg _ mw_100) (fun _ h9 => h9) rfl dX1_countWindings_15 ?_
      refine lv_icmp_ge (tgt := 48) hx hb dX1_countWindings_18 (by decide) (fun _ => ?_) (fun c_18 => absurd (lp_out _) c_18)
      refine lv_iload_n hx hb dX1_countWindings_48 rfl (lv_at hl 1 rfl) ?_
      refine lv_aload_n hx hb dX1_countWindings_49 rfl (lv_at hl 0 rfl) ?_
      refine va_get (D := D) (ci := 1) (v := .long (gl fl 0)) (C := RX1) (T := TX1) (N := 11) hx hb hg inGX1 hown hK hP 2 rfl rfl 9 (by decide) (hg _ mw_115) (fun _ h9 => h9) rfl dX1_countWindings_50 ?_
      refine kI (rS hx hb hml hown hg hN hK hP hD (c_bitCount l D cI cJ (XW ad cI cJ co fl ra li re wa pi) (gl fl 0)) mw_68 mw_122 mw_70 mw_71 pd_J13_bitCount_95d88 ⟨Nat.le_of_ble_eq_true rfl, Nat.le_of_ble_eq_true rfl⟩ rfl hl.1 rfl (Nat.le_of_ble_eq_true rfl) dX1_countWindings_53 ⟨Nat.le_of_ble_eq_true rfl, Nat.le_of_ble_eq_true rfl⟩) hD hS hA (fun r_2 u_2 H locs hp hP hD hS => ?_)
      obtain ⟨er, eu⟩ := hp
      obtain rfl := er.symm
      obtain rfl := eu.symm
      refine lv_isub hx hb dX1_countWindings_56 ?_
      refine lv_iconst (v := 1) hx hb dX1_countWindings_57 (by decide) ?_
      refine lv_isub hx hb dX1_countWindings_58 ?_
      refine lv_iconst (v := 2) hx hb dX1_countWindings_59 (by decide) ?_
      refine lv_iadd hx hb dX1_countWindings_60 ?_
      exact W.iret (v := (((((lp (windStep fl) (nN (gi fl 1)) 0)) - (bc (gl fl 0))) - 1) + 2)) hx hb hr (fun t ht hW => ⟨⟨(((((lp (windStep fl) (nN (gi fl 1)) 0)) - (bc (gl fl 0))) - 1) + 2), (XW ad cI cJ co fl ra li re wa pi), rfl, ⟨(show ((((((lp (windStep fl) (nN (gi fl 1)) 0)) - (bc (gl fl 0))) - 1) + 2) : Int32) = (windings fl) from (by first | (simp only [windings, if_neg c_4, decide_eq_false c_4, decide_eq_true c_4, if_pos c_4, gi_sl, gi_sA, gi_sB, gi_si_s, gi_si_n, gl_si, gl_sA, gl_sB, gl_sl_s, gl_sl_n, gA_si, gA_sl, gA_sB, gA_sA_s, gA_sA_n, gB_si, gB_sl, gB_sA, gB_sB_s, gB_sB_n, Nat.reduceBEq, if_true, if_false, eq_self, Bool.false_eq_true, reduceCtorEq, not_true_eq_false, not_false_eq_true, decide_true, decide_false, cond_true, cond_false, Bool.true_and, Bool.false_and, Bool.and_true, Bool.and_false, Bool.true_or, Bool.false_or, Bool.or_true, Bool.or_false, b2i_tt, b2i_ff]; done) | (simp only [windings, if_neg c_4, decide_eq_false c_4, decide_eq_true c_4, if_pos c_4, gi_sl, gi_sA, gi_sB, gi_si_s, gi_si_n, gl_si, gl_sA, gl_sB, gl_sl_s, gl_sl_n, gA_si, gA_sl, gA_sB, gA_sA_s, gA_sA_n, gB_si, gB_sl, gB_sA, gB_sB_s, gB_sB_n, Nat.reduceBEq, if_true, if_false, eq_self, Bool.false_eq_true, reduceCtorEq, not_true_eq_false, not_false_eq_true, decide_true, decide_false, cond_true, cond_false, Bool.true_and, Bool.false_and, Bool.and_true, Bool.and_false, Bool.true_or, Bool.false_or, Bool.or_true, Bool.or_false, b2i_tt, b2i_ff]; rfl) | (simp [windings, c_4, gi_sl, gi_sA, gi_sB, gi_si_s, gi_si_n, gl_si, gl_sA, gl_sB, gl_sl_s, gl_sl_n, gA_si, gA_sl, gA_sB, gA_sA_s, gA_sA_n, gB_si, gB_sl, gB_sA, gB_sB_s, gB_sB_n, Nat.reduceBEq]; done))), xw_eq rfl rfl rfl rfl rfl rfl rfl⟩, ⟨by rw [ht]; exact hP, va_K.moved hW.alike hK, hD⟩⟩, hS.F ht⟩) hS.2.2 dX1_countWindings_61
    · obtain ⟨h_1, hP, hD, hS, hl⟩ := hI
      have hP : va_P D vwCl (XW ad cI cJ co fl ra li re wa pi) H := hP
      have hD : va_D A (XW ad cI cJ co fl ra li re wa pi) := hD
      have hl : lv_has ls 3 [(0, .ref (ad 2)), (1, .int p_1), (2, .int (nI i_1))] := hl
      refine lv_iload_n hx hb dX1_countWindings_13 rfl (lv_at hl 2 rfl) ?_
      refine lv_aload_n hx hb dX1_countWindings_14 rfl (lv_at hl 0 rfl) ?_
      refine va_get (D := D) (ci := 1) (v := .int (gi fl 1)) (C := RX1) (T := TX1) (N := 11) hx hb hg inGX1 hown hK hP 2 rfl rfl 8 (by decide) (hg _ mw_100) (fun _ h9 => h9) rfl dX1_countWindings_15 ?_
      refine lv_icmp_ge (tgt := 48) hx hb dX1_countWindings_18 (by decide) (fun c_18 => absurd c_18 (lp_in hi_1)) (fun _ => ?_)
      refine lv_aload_n hx hb dX1_countWindings_21 rfl (lv_at hl 0 rfl) ?_
      refine va_get (D := D) (ci := 1) (v := .long (gl fl 0)) (C := RX1) (T := TX1) (N := 11) hx hb hg inGX1 hown hK hP 2 rfl rfl 9 (by decide) (hg _ mw_115) (fun _ h9 => h9) rfl dX1_countWindings_22 ?_
      refine lv_aload_n hx hb dX1_countWindings_25 rfl (lv_at hl 0 rfl) ?_
      refine va_get (D := D) (ci := 1) (v := .ref (ad 15)) (C := RX1) (T := TX1) (N := 11) hx hb hg inGX1 hown hK hP 2 rfl rfl 3 (by decide) (hg _ mw_99) (fun _ h9 => h9) rfl dX1_countWindings_26 ?_
      refine lv_iload_n hx hb dX1_countWindings_29 rfl (lv_at hl 2 rfl) ?_
      refine kI (rSN hx hb hml hown hg hN hK hP hD (c_at l D cI cJ (XW ad cI cJ co fl ra li re wa pi) 15 (ad 15) 80 (gA fl 3) (nI i_1) rfl (by decide)) mw_84 nw_65 mw_85 mw_77 pd_X7_at ⟨Nat.le_of_ble_eq_true rfl, Nat.le_of_ble_eq_true rfl⟩ rfl hl.1 rfl (Nat.le_of_ble_eq_true rfl) dX1_countWindings_30 ⟨Nat.le_of_ble_eq_true rfl, Nat.le_of_ble_eq_true rfl⟩) hD hS hA (fun r_3 u_3 H locs hp hP hD hS => ?_)
      obtain ⟨er, eu⟩ := hp
      obtain rfl := er.symm
      obtain rfl := eu.symm
      refine kI (rSN hx hb hml hown hg hN hK hP hD (c_has l D cI cJ (XW ad cI cJ co fl ra li re wa pi) (gl fl 0) (rd (gA fl 3) 80 (nI i_1))) mw_89 nw_68 mw_90 mw_77 pd_X7_has ⟨Nat.le_of_ble_eq_true rfl, Nat.le_of_ble_eq_true rfl⟩ rfl hl.1 rfl (Nat.le_of_ble_eq_true rfl) dX1_countWindings_33 ⟨Nat.le_of_ble_eq_true rfl, Nat.le_of_ble_eq_true rfl⟩) hD hS hA (fun r_4 u_4 H locs hp hP hD hS => ?_)
      obtain ⟨er, eu⟩ := hp
      obtain rfl := er.symm
      obtain rfl := eu.symm
      refine lv_if_eq (tgt := 42) hx hb dX1_countWindings_36 (by decide) (fun c_36 => ?_) (fun c_36 => ?_)
      · have c_36 : ¬ (hs (gl fl 0) (rd (gA fl 3) 80 (nI i_1))) = true := b2i_0 c_36
        refine lv_iinc (v := (nI (i_1 + 1))) (lv' := [(2, .int (nI (i_1 + 1))), (0, .ref (ad 2)), (1, .int p_1)]) hx hb dX1_countWindings_42 hl (k := 2) rfl (nI_1 i_1) (by decide) rfl (fun ls hl => ?_)
        refine lv_goto (tgt := 13) hx hb dX1_countWindings_45 (by decide) ?_
        exact ih_1 p_1 H locs ls ⟨((show p_1 = (windStep fl) i_1 p_1 from (by first | (simp only [windStep, if_neg c_4, decide_eq_false c_4, decide_eq_true c_4, if_pos c_4, if_neg c_36, bf_of c_36, gi_sl, gi_sA, gi_sB, gi_si_s, gi_si_n, gl_si, gl_sA, gl_sB, gl_sl_s, gl_sl_n, gA_si, gA_sl, gA_sB, gA_sA_s, gA_sA_n, gB_si, gB_sl, gB_sA, gB_sB_s, gB_sB_n, Nat.reduceBEq, if_true, if_false, eq_self, Bool.false_eq_true, reduceCtorEq, not_true_eq_false, not_false_eq_true, decide_true, decide_false, cond_true, cond_false, Bool.true_and, Bool.false_and, Bool.and_true, Bool.and_false, Bool.true_or, Bool.false_or, Bool.or_true, Bool.or_false, b2i_tt, b2i_ff]; done) | (simp only [windStep, if_neg c_4, decide_eq_false c_4, decide_eq_true c_4, if_pos c_4, if_neg c_36, bf_of c_36, gi_sl, gi_sA, gi_sB, gi_si_s, gi_si_n, gl_si, gl_sA, gl_sB, gl_sl_s, gl_sl_n, gA_si, gA_sl, gA_sB, gA_sA_s, gA_sA_n, gB_si, gB_sl, gB_sA, gB_sB_s, gB_sB_n, Nat.reduceBEq, if_true, if_false, eq_self, Bool.false_eq_true, reduceCtorEq, not_true_eq_false, not_false_eq_true, decide_true, decide_false, cond_true, cond_false, Bool.true_and, Bool.false_and, Bool.and_true, Bool.and_false, Bool.true_or, Bool.false_or, Bool.or_true, Bool.or_false, b2i_tt, b2i_ff]; rfl) | (simp [windStep, c_4, c_36, gi_sl, gi_sA, gi_sB, gi_si_s, gi_si_n, gl_si, gl_sA, gl_sB, gl_sl_s, gl_sl_n, gA_si, gA_sl, gA_sB, gA_sA_s, gA_sA_n, gB_si, gB_sl, gB_sA, gB_sB_s, gB_sB_n, Nat.reduceBEq]; done))).trans (lp_go h_1)), hP, hD, hS, lv_sub hl [1, 2, 0] rfl⟩
      · have c_36 : (hs (gl fl 0) (rd (gA fl 3) 80 (nI i_1))) = true := b2i_1 c_36
        refine lv_iinc (v := (p_1 + 1)) (lv' := [(1, .int (p_1 + 1)), (0, .ref (ad 2)), (2, .int (nI i_1))]) hx hb dX1_countWindings_39 hl (k := 1) rfl rfl (by decide) rfl (fun ls hl => ?_)
        refine lv_iinc (v := (nI (i_1 + 1))) (lv' := [(2, .int (nI (i_1 + 1))), (1, .int (p_1 + 1)), (0, .ref (ad 2))]) hx hb dX1_countWindings_42 hl (k := 2) rfl (nI_1 i_1) (by decide) rfl (fun ls hl => ?_)
        refine lv_goto (tgt := 13) hx hb dX1_countWindings_45 (by decide) ?_
        exact ih_1 (p_1 + 1) H locs ls ⟨((show (p_1 + 1) = (windStep fl) i_1 p_1 from (by first | (simp only [windStep, if_neg c_4, decide_eq_false c_4, decide_eq_true c_4, if_pos c_4, if_pos c_36, c_36, gi_sl, gi_sA, gi_sB, gi_si_s, gi_si_n, gl_si, gl_sA, gl_sB, gl_sl_s, gl_sl_n, gA_si, gA_sl, gA_sB, gA_sA_s, gA_sA_n, gB_si, gB_sl, gB_sA, gB_sB_s, gB_sB_n, Nat.reduceBEq, if_true, if_false, eq_self, Bool.false_eq_true, reduceCtorEq, not_true_eq_false, not_false_eq_true, decide_true, decide_false, cond_true, cond_false, Bool.true_and, Bool.false_and, Bool.and_true, Bool.and_false, Bool.true_or, Bool.false_or, Bool.or_true, Bool.or_false, b2i_tt, b2i_ff]; done) | (simp only [windStep, if_neg c_4, decide_eq_false c_4, decide_eq_true c_4, if_pos c_4, if_pos c_36, c_36, gi_sl, gi_sA, gi_sB, gi_si_s, gi_si_n, gl_si, gl_sA, gl_sB, gl_sl_s, gl_sl_n, gA_si, gA_sl, gA_sB, gA_sA_s, gA_sA_n, gB_si, gB_sl, gB_sA, gB_sB_s, gB_sB_n, Nat.reduceBEq, if_true, if_false, eq_self, Bool.false_eq_true, reduceCtorEq, not_true_eq_false, not_false_eq_true, decide_true, decide_false, cond_true, cond_false, Bool.true_and, Bool.false_and, Bool.and_true, Bool.and_false, Bool.true_or, Bool.false_or, Bool.or_true, Bool.or_false, b2i_tt, b2i_ff]; rfl) | (simp [windStep, c_4, c_36, gi_sl, gi_sA, gi_sB, gi_si_s, gi_si_n, gl_si, gl_sA, gl_sB, gl_sl_s, gl_sl_n, gA_si, gA_sl, gA_sB, gA_sA_s, gA_sA_n, gB_si, gB_sl, gB_sA, gB_sB_s, gB_sB_n, Nat.reduceBEq]; done))).trans (lp_go h_1)), hP, hD, hS, lv_sub hl [2, 1, 0] rfl⟩
  · refine lv_iconst (v := 0) hx hb dX1_countWindings_7 (by decide) ?_
    exact W.iret (v := 0) hx hb hr (fun t ht hW => ⟨⟨0, (XW ad cI cJ co fl ra li re wa pi), rfl, ⟨(show (0 : Int32) = (windings fl) from (by first | (simp only [windings, if_pos c_4, decide_eq_true c_4, decide_eq_false (not_not_intro c_4), gi_sl, gi_sA, gi_sB, gi_si_s, gi_si_n, gl_si, gl_sA, gl_sB, gl_sl_s, gl_sl_n, gA_si, gA_sl, gA_sB, gA_sA_s, gA_sA_n, gB_si, gB_sl, gB_sA, gB_sB_s, gB_sB_n, Nat.reduceBEq, if_true, if_false, eq_self, Bool.false_eq_true, reduceCtorEq, not_true_eq_false, not_false_eq_true, decide_true, decide_false, cond_true, cond_false, Bool.true_and, Bool.false_and, Bool.and_true, Bool.and_false, Bool.true_or, Bool.false_or, Bool.or_true, Bool.or_false, b2i_tt, b2i_ff]; done) | (simp only [windings, if_pos c_4, decide_eq_true c_4, decide_eq_false (not_not_intro c_4), gi_sl, gi_sA, gi_sB, gi_si_s, gi_si_n, gl_si, gl_sA, gl_sB, gl_sl_s, gl_sl_n, gA_si, gA_sl, gA_sB, gA_sA_s, gA_sA_n, gB_si, gB_sl, gB_sA, gB_sB_s, gB_sB_n, Nat.reduceBEq, if_true, if_false, eq_self, Bool.false_eq_true, reduceCtorEq, not_true_eq_false, not_false_eq_true, decide_true, decide_false, cond_true, cond_false, Bool.true_and, Bool.false_and, Bool.and_true, Bool.and_false, Bool.true_or, Bool.false_or, Bool.or_true, Bool.or_false, b2i_tt, b2i_ff]; rfl) | (simp [windings, c_4, gi_sl, gi_sA, gi_sB, gi_si_s, gi_si_n, gl_si, gl_sA, gl_sB, gl_sl_s, gl_sl_n, gA_si, gA_sl, gA_sB, gA_sA_s, gA_sA_n, gB_si, gB_sl, gB_sA, gB_sB_s, gB_sB_n, Nat.reduceBEq]; done))), xw_eq rfl rfl rfl rfl rfl rfl rfl⟩, ⟨by rw [ht]; exact hP, va_K.moved hW.alike hK, hD⟩⟩, hS.F ht⟩) hS.2.2 dX1_countWindings_8
