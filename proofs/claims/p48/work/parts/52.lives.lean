theorem dX2_ahead_0 : decode cX2_ahead 0 = .ok (.aload_n 0, 1) := by decide +kernel
theorem dX2_ahead_1 : decode cX2_ahead 1 = .ok (.getfield 62, 3) := by decide +kernel
theorem dX2_ahead_4 : decode cX2_ahead 4 = .ok (.iload_n 1, 1) := by decide +kernel
theorem dX2_ahead_5 : decode cX2_ahead 5 = .ok (.invokestatic 51, 3) := by decide +kernel
theorem dX2_ahead_8 : decode cX2_ahead 8 = .ok (.istore_n 3, 1) := by decide +kernel
theorem dX2_ahead_9 : decode cX2_ahead 9 = .ok (.iload_n 3, 1) := by decide +kernel
theorem dX2_ahead_10 : decode cX2_ahead 10 = .ok (.ifCond .lt 13, 3) := by decide +kernel
theorem dX2_ahead_13 : decode cX2_ahead 13 = .ok (.iload_n 2, 1) := by decide +kernel
theorem dX2_ahead_14 : decode cX2_ahead 14 = .ok (.iconst 1, 1) := by decide +kernel
theorem dX2_ahead_15 : decode cX2_ahead 15 = .ok (.iload_n 3, 1) := by decide +kernel
theorem dX2_ahead_16 : decode cX2_ahead 16 = .ok (.ishl, 1) := by decide +kernel
theorem dX2_ahead_17 : decode cX2_ahead 17 = .ok (.iconst (-1), 1) := by decide +kernel
theorem dX2_ahead_18 : decode cX2_ahead 18 = .ok (.ixor, 1) := by decide +kernel
theorem dX2_ahead_19 : decode cX2_ahead 19 = .ok (.iand, 1) := by decide +kernel
theorem dX2_ahead_20 : decode cX2_ahead 20 = .ok (.goto 4, 3) := by decide +kernel
theorem dX2_ahead_23 : decode cX2_ahead 23 = .ok (.iload_n 2, 1) := by decide +kernel
theorem dX2_ahead_24 : decode cX2_ahead 24 = .ok (.istore 4, 2) := by decide +kernel
theorem dX2_ahead_26 : decode cX2_ahead 26 = .ok (.iload 4, 2) := by decide +kernel
theorem dX2_ahead_28 : decode cX2_ahead 28 = .ok (.aload_n 0, 1) := by decide +kernel
theorem dX2_ahead_29 : decode cX2_ahead 29 = .ok (.getfield 74, 3) := by decide +kernel
theorem dX2_ahead_32 : decode cX2_ahead 32 = .ok (.iload_n 1, 1) := by decide +kernel
theorem dX2_ahead_33 : decode cX2_ahead 33 = .ok (.invokestatic 51, 3) := by decide +kernel
theorem dX2_ahead_36 : decode cX2_ahead 36 = .ok (.ior, 1) := by decide +kernel
theorem dX2_ahead_37 : decode cX2_ahead 37 = .ok (.ireturn, 1) := by decide +kernel
theorem dX2_behind_0 : decode cX2_behind 0 = .ok (.aload_n 1, 1) := by decide +kernel
theorem dX2_behind_1 : decode cX2_behind 1 = .ok (.getfield 67, 3) := by decide +kernel
theorem dX2_behind_4 : decode cX2_behind 4 = .ok (.iload_n 2, 1) := by decide +kernel
theorem dX2_behind_5 : decode cX2_behind 5 = .ok (.invokestatic 71, 3) := by decide +kernel
theorem dX2_behind_8 : decode cX2_behind 8 = .ok (.lstore_n 3, 1) := by decide +kernel
theorem dX2_behind_9 : decode cX2_behind 9 = .ok (.iconst 0, 1) := by decide +kernel
theorem dX2_behind_10 : decode cX2_behind 10 = .ok (.istore 5, 2) := by decide +kernel
theorem dX2_behind_12 : decode cX2_behind 12 = .ok (.iconst 0, 1) := by decide +kernel
theorem dX2_behind_13 : decode cX2_behind 13 = .ok (.istore 6, 2) := by decide +kernel
theorem dX2_behind_15 : decode cX2_behind 15 = .ok (.iload 6, 2) := by decide +kernel
theorem dX2_behind_17 : decode cX2_behind 17 = .ok (.aload_n 1, 1) := by decide +kernel
theorem dX2_behind_18 : decode cX2_behind 18 = .ok (.getfield 27, 3) := by decide +kernel
theorem dX2_behind_21 : decode cX2_behind 21 = .ok (.if_icmp .ge 32, 3) := by decide +kernel
theorem dX2_behind_24 : decode cX2_behind 24 = .ok (.lload_n 3, 1) := by decide +kernel
theorem dX2_behind_25 : decode cX2_behind 25 = .ok (.iload 6, 2) := by decide +kernel
theorem dX2_behind_27 : decode cX2_behind 27 = .ok (.invokestatic 36, 3) := by decide +kernel
theorem dX2_behind_30 : decode cX2_behind 30 = .ok (.ifCond .eq 17, 3) := by decide +kernel
theorem dX2_behind_33 : decode cX2_behind 33 = .ok (.iload 5, 2) := by decide +kernel
theorem dX2_behind_35 : decode cX2_behind 35 = .ok (.aload_n 0, 1) := by decide +kernel
theorem dX2_behind_36 : decode cX2_behind 36 = .ok (.getfield 9, 3) := by decide +kernel
theorem dX2_behind_39 : decode cX2_behind 39 = .ok (.iload 6, 2) := by decide +kernel
theorem dX2_behind_41 : decode cX2_behind 41 = .ok (.invokestatic 51, 3) := by decide +kernel
theorem dX2_behind_44 : decode cX2_behind 44 = .ok (.ior, 1) := by decide +kernel
theorem dX2_behind_45 : decode cX2_behind 45 = .ok (.istore 5, 2) := by decide +kernel
theorem dX2_behind_47 : decode cX2_behind 47 = .ok (.iinc 6 1, 3) := by decide +kernel
theorem dX2_behind_50 : decode cX2_behind 50 = .ok (.goto (-35), 3) := by decide +kernel
theorem dX2_behind_53 : decode cX2_behind 53 = .ok (.iload 5, 2) := by decide +kernel
theorem dX2_behind_55 : decode cX2_behind 55 = .ok (.ireturn, 1) := by decide +kernel
theorem dX2_passUp_0 : decode cX2_passUp 0 = .ok (.iconst 0, 1) := by decide +kernel
theorem dX2_passUp_1 : decode cX2_passUp 1 = .ok (.istore_n 3, 1) := by decide +kernel
theorem dX2_passUp_2 : decode cX2_passUp 2 = .ok (.aload_n 2, 1) := by decide +kernel
theorem dX2_passUp_3 : decode cX2_passUp 3 = .ok (.getfield 27, 3) := by decide +kernel
theorem dX2_passUp_6 : decode cX2_passUp 6 = .ok (.iconst 1, 1) := by decide +kernel
theorem dX2_passUp_7 : decode cX2_passUp 7 = .ok (.isub, 1) := by decide +kernel
theorem dX2_passUp_8 : decode cX2_passUp 8 = .ok (.istore 4, 2) := by decide +kernel
theorem dX2_passUp_10 : decode cX2_passUp 10 = .ok (.iload 4, 2) := by decide +kernel
theorem dX2_passUp_12 : decode cX2_passUp 12 = .ok (.ifCond .lt 106, 3) := by decide +kernel
theorem dX2_passUp_15 : decode cX2_passUp 15 = .ok (.aload_n 2, 1) := by decide +kernel
theorem dX2_passUp_16 : decode cX2_passUp 16 = .ok (.getfield 32, 3) := by decide +kernel
theorem dX2_passUp_19 : decode cX2_passUp 19 = .ok (.iload 4, 2) := by decide +kernel
theorem dX2_passUp_21 : decode cX2_passUp 21 = .ok (.invokestatic 36, 3) := by decide +kernel
theorem dX2_passUp_24 : decode cX2_passUp 24 = .ok (.ifCond .eq 88, 3) := by decide +kernel
theorem dX2_passUp_27 : decode cX2_passUp 27 = .ok (.aload_n 0, 1) := by decide +kernel
theorem dX2_passUp_28 : decode cX2_passUp 28 = .ok (.aload_n 2, 1) := by decide +kernel
theorem dX2_passUp_29 : decode cX2_passUp 29 = .ok (.iload 4, 2) := by decide +kernel
theorem dX2_passUp_31 : decode cX2_passUp 31 = .ok (.invokevirtual 44, 3) := by decide +kernel
theorem dX2_passUp_34 : decode cX2_passUp 34 = .ok (.istore 5, 2) := by decide +kernel
theorem dX2_passUp_36 : decode cX2_passUp 36 = .ok (.aload_n 2, 1) := by decide +kernel
theorem dX2_passUp_37 : decode cX2_passUp 37 = .ok (.getfield 48, 3) := by decide +kernel
theorem dX2_passUp_40 : decode cX2_passUp 40 = .ok (.iload 4, 2) := by decide +kernel
theorem dX2_passUp_42 : decode cX2_passUp 42 = .ok (.invokestatic 51, 3) := by decide +kernel
theorem dX2_passUp_45 : decode cX2_passUp 45 = .ok (.istore 6, 2) := by decide +kernel
theorem dX2_passUp_47 : decode cX2_passUp 47 = .ok (.iload 6, 2) := by decide +kernel
theorem dX2_passUp_49 : decode cX2_passUp 49 = .ok (.aload_n 2, 1) := by decide +kernel
theorem dX2_passUp_50 : decode cX2_passUp 50 = .ok (.getfield 55, 3) := by decide +kernel
theorem dX2_passUp_53 : decode cX2_passUp 53 = .ok (.iload 4, 2) := by decide +kernel
theorem dX2_passUp_55 : decode cX2_passUp 55 = .ok (.invokestatic 51, 3) := by decide +kernel
theorem dX2_passUp_58 : decode cX2_passUp 58 = .ok (.if_icmp .lt 19, 3) := by decide +kernel
theorem dX2_passUp_61 : decode cX2_passUp 61 = .ok (.aload_n 1, 1) := by decide +kernel
theorem dX2_passUp_62 : decode cX2_passUp 62 = .ok (.iload 6, 2) := by decide +kernel
theorem dX2_passUp_64 : decode cX2_passUp 64 = .ok (.iload 5, 2) := by decide +kernel
theorem dX2_passUp_66 : decode cX2_passUp 66 = .ok (.invokestatic 58, 3) := by decide +kernel
theorem dX2_passUp_69 : decode cX2_passUp 69 = .ok (.istore 5, 2) := by decide +kernel
theorem dX2_passUp_71 : decode cX2_passUp 71 = .ok (.iinc 6 (-1), 3) := by decide +kernel
theorem dX2_passUp_74 : decode cX2_passUp 74 = .ok (.goto (-27), 3) := by decide +kernel
theorem dX2_passUp_77 : decode cX2_passUp 77 = .ok (.iload_n 3, 1) := by decide +kernel
theorem dX2_passUp_78 : decode cX2_passUp 78 = .ok (.ifCond .ne 17, 3) := by decide +kernel
theorem dX2_passUp_81 : decode cX2_passUp 81 = .ok (.iload 5, 2) := by decide +kernel
theorem dX2_passUp_83 : decode cX2_passUp 83 = .ok (.aload_n 0, 1) := by decide +kernel
theorem dX2_passUp_84 : decode cX2_passUp 84 = .ok (.getfield 9, 3) := by decide +kernel
theorem dX2_passUp_87 : decode cX2_passUp 87 = .ok (.iload 4, 2) := by decide +kernel
theorem dX2_passUp_89 : decode cX2_passUp 89 = .ok (.invokestatic 51, 3) := by decide +kernel
theorem dX2_passUp_92 : decode cX2_passUp 92 = .ok (.if_icmp .eq 7, 3) := by decide +kernel
theorem dX2_passUp_95 : decode cX2_passUp 95 = .ok (.iconst 1, 1) := by decide +kernel
theorem dX2_passUp_96 : decode cX2_passUp 96 = .ok (.goto 4, 3) := by decide +kernel
theorem dX2_passUp_99 : decode cX2_passUp 99 = .ok (.iconst 0, 1) := by decide +kernel
theorem dX2_passUp_100 : decode cX2_passUp 100 = .ok (.istore_n 3, 1) := by decide +kernel
theorem dX2_passUp_101 : decode cX2_passUp 101 = .ok (.aload_n 0, 1) := by decide +kernel
theorem dX2_passUp_102 : decode cX2_passUp 102 = .ok (.getfield 9, 3) := by decide +kernel
theorem dX2_passUp_105 : decode cX2_passUp 105 = .ok (.iload 4, 2) := by decide +kernel
theorem dX2_passUp_107 : decode cX2_passUp 107 = .ok (.iload 5, 2) := by decide +kernel
theorem dX2_passUp_109 : decode cX2_passUp 109 = .ok (.invokestatic 15, 3) := by decide +kernel
theorem dX2_passUp_112 : decode cX2_passUp 112 = .ok (.iinc 4 (-1), 3) := by decide +kernel
theorem dX2_passUp_115 : decode cX2_passUp 115 = .ok (.goto (-105), 3) := by decide +kernel
theorem dX2_passUp_118 : decode cX2_passUp 118 = .ok (.iload_n 3, 1) := by decide +kernel
theorem dX2_passUp_119 : decode cX2_passUp 119 = .ok (.ireturn, 1) := by decide +kernel
theorem dX2_vainIn_0 : decode cX2_vainIn 0 = .ok (.iconst 0, 1) := by decide +kernel
theorem dX2_vainIn_1 : decode cX2_vainIn 1 = .ok (.istore 4, 2) := by decide +kernel
theorem dX2_vainIn_3 : decode cX2_vainIn 3 = .ok (.aload_n 0, 1) := by decide +kernel
theorem dX2_vainIn_4 : decode cX2_vainIn 4 = .ok (.aload_n 2, 1) := by decide +kernel
theorem dX2_vainIn_5 : decode cX2_vainIn 5 = .ok (.iload_n 3, 1) := by decide +kernel
theorem dX2_vainIn_6 : decode cX2_vainIn 6 = .ok (.invokevirtual 44, 3) := by decide +kernel
theorem dX2_vainIn_9 : decode cX2_vainIn 9 = .ok (.istore 5, 2) := by decide +kernel
theorem dX2_vainIn_11 : decode cX2_vainIn 11 = .ok (.aload_n 2, 1) := by decide +kernel
theorem dX2_vainIn_12 : decode cX2_vainIn 12 = .ok (.getfield 48, 3) := by decide +kernel
theorem dX2_vainIn_15 : decode cX2_vainIn 15 = .ok (.iload_n 3, 1) := by decide +kernel
theorem dX2_vainIn_16 : decode cX2_vainIn 16 = .ok (.invokestatic 51, 3) := by decide +kernel
theorem dX2_vainIn_19 : decode cX2_vainIn 19 = .ok (.istore 6, 2) := by decide +kernel
theorem dX2_vainIn_21 : decode cX2_vainIn 21 = .ok (.iload 6, 2) := by decide +kernel
theorem dX2_vainIn_23 : decode cX2_vainIn 23 = .ok (.aload_n 2, 1) := by decide +kernel
theorem dX2_vainIn_24 : decode cX2_vainIn 24 = .ok (.getfield 55, 3) := by decide +kernel
theorem dX2_vainIn_27 : decode cX2_vainIn 27 = .ok (.iload_n 3, 1) := by decide +kernel
theorem dX2_vainIn_28 : decode cX2_vainIn 28 = .ok (.invokestatic 51, 3) := by decide +kernel
theorem dX2_vainIn_31 : decode cX2_vainIn 31 = .ok (.if_icmp .lt 49, 3) := by decide +kernel
theorem dX2_vainIn_34 : decode cX2_vainIn 34 = .ok (.aload_n 1, 1) := by decide +kernel
theorem dX2_vainIn_35 : decode cX2_vainIn 35 = .ok (.getfield 62, 3) := by decide +kernel
theorem dX2_vainIn_38 : decode cX2_vainIn 38 = .ok (.iload 6, 2) := by decide +kernel
theorem dX2_vainIn_40 : decode cX2_vainIn 40 = .ok (.invokestatic 51, 3) := by decide +kernel
theorem dX2_vainIn_43 : decode cX2_vainIn 43 = .ok (.istore 7, 2) := by decide +kernel
theorem dX2_vainIn_45 : decode cX2_vainIn 45 = .ok (.iload 7, 2) := by decide +kernel
theorem dX2_vainIn_47 : decode cX2_vainIn 47 = .ok (.ifCond .lt 17, 3) := by decide +kernel
theorem dX2_vainIn_50 : decode cX2_vainIn 50 = .ok (.iload 5, 2) := by decide +kernel
theorem dX2_vainIn_52 : decode cX2_vainIn 52 = .ok (.i2l, 1) := by decide +kernel
theorem dX2_vainIn_53 : decode cX2_vainIn 53 = .ok (.iload 7, 2) := by decide +kernel
theorem dX2_vainIn_55 : decode cX2_vainIn 55 = .ok (.invokestatic 36, 3) := by decide +kernel
theorem dX2_vainIn_58 : decode cX2_vainIn 58 = .ok (.ifCond .ne 6, 3) := by decide +kernel
theorem dX2_vainIn_61 : decode cX2_vainIn 61 = .ok (.iinc 4 1, 3) := by decide +kernel
theorem dX2_vainIn_64 : decode cX2_vainIn 64 = .ok (.aload_n 1, 1) := by decide +kernel
theorem dX2_vainIn_65 : decode cX2_vainIn 65 = .ok (.iload 6, 2) := by decide +kernel
theorem dX2_vainIn_67 : decode cX2_vainIn 67 = .ok (.iload 5, 2) := by decide +kernel
theorem dX2_vainIn_69 : decode cX2_vainIn 69 = .ok (.invokestatic 58, 3) := by decide +kernel
theorem dX2_vainIn_72 : decode cX2_vainIn 72 = .ok (.istore 5, 2) := by decide +kernel
theorem dX2_vainIn_74 : decode cX2_vainIn 74 = .ok (.iinc 6 (-1), 3) := by decide +kernel
theorem dX2_vainIn_77 : decode cX2_vainIn 77 = .ok (.goto (-56), 3) := by decide +kernel
theorem dX2_vainIn_80 : decode cX2_vainIn 80 = .ok (.iload 4, 2) := by decide +kernel
theorem dX2_vainIn_82 : decode cX2_vainIn 82 = .ok (.ireturn, 1) := by decide +kernel
theorem dX2_follow_0 : decode cX2_follow 0 = .ok (.iconst 0, 1) := by decide +kernel
theorem dX2_follow_1 : decode cX2_follow 1 = .ok (.istore_n 3, 1) := by decide +kernel
theorem dX2_follow_2 : decode cX2_follow 2 = .ok (.iload_n 3, 1) := by decide +kernel
theorem dX2_follow_3 : decode cX2_follow 3 = .ok (.bipush 40, 2) := by decide +kernel
theorem dX2_follow_5 : decode cX2_follow 5 = .ok (.if_icmp .ge 18, 3) := by decide +kernel
theorem dX2_follow_8 : decode cX2_follow 8 = .ok (.aload_n 0, 1) := by decide +kernel
theorem dX2_follow_9 : decode cX2_follow 9 = .ok (.getfield 9, 3) := by decide +kernel
theorem dX2_follow_12 : decode cX2_follow 12 = .ok (.iload_n 3, 1) := by decide +kernel
theorem dX2_follow_13 : decode cX2_follow 13 = .ok (.iconst 0, 1) := by decide +kernel
theorem dX2_follow_14 : decode cX2_follow 14 = .ok (.invokestatic 15, 3) := by decide +kernel
theorem dX2_follow_17 : decode cX2_follow 17 = .ok (.iinc 3 1, 3) := by decide +kernel
theorem dX2_follow_20 : decode cX2_follow 20 = .ok (.goto (-18), 3) := by decide +kernel
theorem dX2_follow_23 : decode cX2_follow 23 = .ok (.iconst 1, 1) := by decide +kernel
theorem dX2_follow_24 : decode cX2_follow 24 = .ok (.istore_n 3, 1) := by decide +kernel
theorem dX2_follow_25 : decode cX2_follow 25 = .ok (.iconst 0, 1) := by decide +kernel
theorem dX2_follow_26 : decode cX2_follow 26 = .ok (.istore 4, 2) := by decide +kernel
theorem dX2_follow_28 : decode cX2_follow 28 = .ok (.iload 4, 2) := by decide +kernel
theorem dX2_follow_30 : decode cX2_follow 30 = .ok (.bipush 40, 2) := by decide +kernel
theorem dX2_follow_32 : decode cX2_follow 32 = .ok (.if_icmp .gt 20, 3) := by decide +kernel
theorem dX2_follow_35 : decode cX2_follow 35 = .ok (.iload_n 3, 1) := by decide +kernel
theorem dX2_follow_36 : decode cX2_follow 36 = .ok (.ifCond .eq 16, 3) := by decide +kernel
theorem dX2_follow_39 : decode cX2_follow 39 = .ok (.aload_n 0, 1) := by decide +kernel
theorem dX2_follow_40 : decode cX2_follow 40 = .ok (.aload_n 1, 1) := by decide +kernel
theorem dX2_follow_41 : decode cX2_follow 41 = .ok (.aload_n 2, 1) := by decide +kernel
theorem dX2_follow_42 : decode cX2_follow 42 = .ok (.invokevirtual 19, 3) := by decide +kernel
theorem dX2_follow_45 : decode cX2_follow 45 = .ok (.istore_n 3, 1) := by decide +kernel
theorem dX2_follow_46 : decode cX2_follow 46 = .ok (.iinc 4 1, 3) := by decide +kernel
theorem dX2_follow_49 : decode cX2_follow 49 = .ok (.goto (-21), 3) := by decide +kernel
theorem dX2_follow_52 : decode cX2_follow 52 = .ok (.aload_n 0, 1) := by decide +kernel
theorem dX2_follow_53 : decode cX2_follow 53 = .ok (.iconst 0, 1) := by decide +kernel
theorem dX2_follow_54 : decode cX2_follow 54 = .ok (.putfield 23, 3) := by decide +kernel
theorem dX2_follow_57 : decode cX2_follow 57 = .ok (.iconst 0, 1) := by decide +kernel
theorem dX2_follow_58 : decode cX2_follow 58 = .ok (.istore 4, 2) := by decide +kernel
theorem dX2_follow_60 : decode cX2_follow 60 = .ok (.iload 4, 2) := by decide +kernel
theorem dX2_follow_62 : decode cX2_follow 62 = .ok (.aload_n 2, 1) := by decide +kernel
theorem dX2_follow_63 : decode cX2_follow 63 = .ok (.getfield 27, 3) := by decide +kernel
theorem dX2_follow_66 : decode cX2_follow 66 = .ok (.if_icmp .ge 38, 3) := by decide +kernel
theorem dX2_follow_69 : decode cX2_follow 69 = .ok (.aload_n 2, 1) := by decide +kernel
theorem dX2_follow_70 : decode cX2_follow 70 = .ok (.getfield 32, 3) := by decide +kernel
theorem dX2_follow_73 : decode cX2_follow 73 = .ok (.iload 4, 2) := by decide +kernel
theorem dX2_follow_75 : decode cX2_follow 75 = .ok (.invokestatic 36, 3) := by decide +kernel
theorem dX2_follow_78 : decode cX2_follow 78 = .ok (.ifCond .eq 20, 3) := by decide +kernel
theorem dX2_follow_81 : decode cX2_follow 81 = .ok (.aload_n 0, 1) := by decide +kernel
theorem dX2_follow_82 : decode cX2_follow 82 = .ok (.dup, 1) := by decide +kernel
theorem dX2_follow_83 : decode cX2_follow 83 = .ok (.getfield 23, 3) := by decide +kernel
theorem dX2_follow_86 : decode cX2_follow 86 = .ok (.aload_n 0, 1) := by decide +kernel
theorem dX2_follow_87 : decode cX2_follow 87 = .ok (.aload_n 1, 1) := by decide +kernel
theorem dX2_follow_88 : decode cX2_follow 88 = .ok (.aload_n 2, 1) := by decide +kernel
theorem dX2_follow_89 : decode cX2_follow 89 = .ok (.iload 4, 2) := by decide +kernel
theorem dX2_follow_91 : decode cX2_follow 91 = .ok (.invokevirtual 40, 3) := by decide +kernel
theorem dX2_follow_94 : decode cX2_follow 94 = .ok (.iadd, 1) := by decide +kernel
theorem dX2_follow_95 : decode cX2_follow 95 = .ok (.putfield 23, 3) := by decide +kernel
theorem dX2_follow_98 : decode cX2_follow 98 = .ok (.iinc 4 1, 3) := by decide +kernel
theorem dX2_follow_101 : decode cX2_follow 101 = .ok (.goto (-41), 3) := by decide +kernel
theorem dX2_follow_104 : decode cX2_follow 104 = .ok (.return_, 1) := by decide +kernel
theorem mw_147 : Cond.fieldLink RX2 9 "OrielChart$Lives" "live" "[I" ∈ GW := gw_mem (inT1 _ (List.mem_of_getElem? (i := 160) rfl)) rfl
theorem mw_148 : Cond.code yX2_behind cX2_behind 7 (some Jvm.ClassFile.FieldType.int) ∈ GW := gw_mem (inT2 _ (List.mem_of_getElem? (i := 195) rfl)) rfl
theorem mw_149 : Cond.methodLink RX2 44 yX2_behind ∈ GW := gw_mem (inT2 _ (List.mem_of_getElem? (i := 192) rfl)) rfl
theorem mw_150 : Cond.instanceMethod yX2_behind ∈ GW := gw_mem (inT2 _ (List.mem_of_getElem? (i := 194) rfl)) rfl
theorem mw_151 : Cond.selects RX2 yX2_behind yX2_behind ∈ GW := gw_mem (inTp (q := (yX2_behind, 3)) (List.mem_of_getElem? (i := 9) rfl)) rfl
theorem mw_152 : Cond.initialized RX2 ∈ GW := gw_mem (inT1 _ (List.mem_of_getElem? (i := 5) rfl)) rfl
theorem mw_153 : Cond.code yX2_ahead cX2_ahead 5 (some Jvm.ClassFile.FieldType.int) ∈ GW := gw_mem (inT2 _ (List.mem_of_getElem? (i := 200) rfl)) rfl
theorem mw_154 : Cond.methodLink RX2 58 yX2_ahead ∈ GW := gw_mem (inT2 _ (List.mem_of_getElem? (i := 198) rfl)) rfl
theorem mw_155 : Cond.static yX2_ahead ∈ GW := gw_mem (inT2 _ (List.mem_of_getElem? (i := 199) rfl)) rfl
theorem mw_156 : Cond.fieldLink RX2 23 "OrielChart$Lives" "vainCount" "I" ∈ GW := gw_mem (inT1 _ (List.mem_of_getElem? (i := 162) rfl)) rfl
theorem mw_157 : Cond.code yX2_vainIn cX2_vainIn 8 (some Jvm.ClassFile.FieldType.int) ∈ GW := gw_mem (inT2 _ (List.mem_of_getElem? (i := 204) rfl)) rfl
theorem mw_158 : Cond.methodLink RX2 40 yX2_vainIn ∈ GW := gw_mem (inT2 _ (List.mem_of_getElem? (i := 201) rfl)) rfl
theorem mw_159 : Cond.instanceMethod yX2_vainIn ∈ GW := gw_mem (inT2 _ (List.mem_of_getElem? (i := 203) rfl)) rfl
theorem mw_160 : Cond.selects RX2 yX2_vainIn yX2_vainIn ∈ GW := gw_mem (inTp (q := (yX2_vainIn, 3)) (List.mem_of_getElem? (i := 10) rfl)) rfl
theorem mw_161 : Cond.code yX2_passUp cX2_passUp 7 (some Jvm.ClassFile.FieldType.boolean) ∈ GW := gw_mem (inT2 _ (List.mem_of_getElem? (i := 190) rfl)) rfl
theorem mw_162 : Cond.methodLink RX2 19 yX2_passUp ∈ GW := gw_mem (inT2 _ (List.mem_of_getElem? (i := 187) rfl)) rfl
theorem mw_163 : Cond.instanceMethod yX2_passUp ∈ GW := gw_mem (inT2 _ (List.mem_of_getElem? (i := 189) rfl)) rfl
theorem mw_164 : Cond.selects RX2 yX2_passUp yX2_passUp ∈ GW := gw_mem (inTp (q := (yX2_passUp, 3)) (List.mem_of_getElem? (i := 8) rfl)) rfl
theorem pdv_X2_behind : yX2_behind.cls = RX2 ∧ yX2_behind.cls ≠ "java/lang/invoke/MethodHandle" ∧ yX2_behind.cls ≠ "java/lang/invoke/VarHandle" ∧ (parseMethodDescriptor yX2_behind.desc).map (fun d => d.parameters.length) = some 2 := by decide +kernel
theorem pd_X2_ahead : yX2_ahead.cls ≠ "java/lang/invoke/MethodHandle" ∧ yX2_ahead.cls ≠ "java/lang/invoke/VarHandle" ∧ (parseMethodDescriptor yX2_ahead.desc).map (fun d => d.parameters.length) = some 3 := by decide +kernel
theorem pdv_X2_vainIn : yX2_vainIn.cls = RX2 ∧ yX2_vainIn.cls ≠ "java/lang/invoke/MethodHandle" ∧ yX2_vainIn.cls ≠ "java/lang/invoke/VarHandle" ∧ (parseMethodDescriptor yX2_vainIn.desc).map (fun d => d.parameters.length) = some 3 := by decide +kernel
theorem pdv_X2_passUp : yX2_passUp.cls = RX2 ∧ yX2_passUp.cls ≠ "java/lang/invoke/MethodHandle" ∧ yX2_passUp.cls ≠ "java/lang/invoke/VarHandle" ∧ (parseMethodDescriptor yX2_passUp.desc).map (fun d => d.parameters.length) = some 2 := by decide +kernel
set_option maxHeartbeats 4000000 in
set_option maxRecDepth 100000 in
theorem c_ahead (l : Launch) (D : va_G) (cI cJ : ClassId) (ad : Nat → Nat) (co fl ra li re wa pi : Ob) (k1 : Int32) (k2 : Int32) : CT l D (TY cI cJ) yX2_ahead (.code yX2_ahead cX2_ahead 5 (some Jvm.ClassFile.FieldType.int)) 1 0 0 (XW ad cI cJ co fl ra li re wa pi) [.ref (ad 1), .int k1, .int k2] (QI D (TY cI cJ) (fun r u => r = (ahead co k1 k2) ∧ u = (XW ad cI cJ co fl ra li re wa pi))) := by
  refine ent (by decide) (Nat.le_of_ble_eq_true rfl) ?_
  intro p e s m below meth c ls A hx hb hr hg hown hml hlocks hnm hP hK hD hS hA hN hl
  have hl : lv_has ls 5 [(0, .ref (ad 1)), (1, .int k1), (2, .int k2)] := hl
  refine lv_aload_n hx hb dX2_ahead_0 rfl (lv_at hl 0 rfl) ?_
  refine va_getN (D := D) (ci := 0) (v := .ref (ad 10)) (C := RX0) (T := TX0) (N := 5) hx hb hg inGX0 hown hK hP 1 rfl rfl 2 (by decide) (hN.use nw_5) (fun _ h9 => h9) rfl dX2_ahead_1 ?_
  refine lv_iload_n hx hb dX2_ahead_4 rfl (lv_at hl 1 rfl) ?_
  refine kI (rSN hx hb hml hown hg hN hK hP hD (c_at l D cI cJ (XW ad cI cJ co fl ra li re wa pi) 10 (ad 10) 40 (gA co 2) k1 rfl (by decide)) mw_84 nw_82 mw_85 mw_77 pd_X7_at ⟨Nat.le_of_ble_eq_true rfl, Nat.le_of_ble_eq_true rfl⟩ rfl hl.1 rfl (Nat.le_of_ble_eq_true rfl) dX2_ahead_5 ⟨Nat.le_of_ble_eq_true rfl, Nat.le_of_ble_eq_true rfl⟩) hD hS hA (fun r_1 u_1 H locs hp hP hD hS => ?_)
  obtain ⟨er, eu⟩ := hp
  obtain rfl := er.symm
  obtain rfl := eu.symm
  refine lv_istore_n (lv' := [(3, .int (rd (gA co 2) 40 k1)), (0, .ref (ad 1)), (1, .int k1), (2, .int k2)]) hx hb dX2_ahead_8 rfl hl (by decide) rfl (fun ls hl => ?_)
  refine lv_iload_n hx hb dX2_ahead_9 rfl (lv_at hl 0 rfl) ?_
  refine lv_if_lt (tgt := 23) hx hb dX2_ahead_10 (by decide) (fun c_10 => ?_) (fun c_10 => ?_)
  · refine lv_iload_n hx hb dX2_ahead_23 rfl (lv_at hl 3 rfl) ?_
    refine lv_istore (lv' := [(4, .int k2), (3, .int (rd (gA co 2) 40 k1)), (0, .ref (ad 1)), (1, .int k1), (2, .int k2)]) hx hb dX2_ahead_24 hl (by decide) rfl (fun ls hl => ?_)
    refine lv_iload hx hb dX2_ahead_26 (lv_at hl 0 rfl) ?_
    refine lv_aload_n hx hb dX2_ahead_28 rfl (lv_at hl 2 rfl) ?_
    refine va_getN (D := D) (ci := 0) (v := .ref (ad 11)) (C := RX0) (T := TX0) (N := 5) hx hb hg inGX0 hown hK hP 1 rfl rfl 3 (by decide) (hN.use nw_8) (fun _ h9 => h9) rfl dX2_ahead_29 ?_
    refine lv_iload_n hx hb dX2_ahead_32 rfl (lv_at hl 3 rfl) ?_
    refine kI (rSN hx hb hml hown hg hN hK hP hD (c_at l D cI cJ (XW ad cI cJ co fl ra li re wa pi) 11 (ad 11) 40 (gA co 3) k1 rfl (by decide)) mw_84 nw_82 mw_85 mw_77 pd_X7_at ⟨Nat.le_of_ble_eq_true rfl, Nat.le_of_ble_eq_true rfl⟩ rfl hl.1 rfl (Nat.le_of_ble_eq_true rfl) dX2_ahead_33 ⟨Nat.le_of_ble_eq_true rfl, Nat.le_of_ble_eq_true rfl⟩) hD hS hA (fun r_2 u_2 H locs hp hP hD hS => ?_)
    obtain ⟨er, eu⟩ := hp
    obtain rfl := er.symm
    obtain rfl := eu.symm
    refine lv_ior hx hb dX2_ahead_36 ?_
    exact W.iret (v := (k2 ||| (rd (gA co 3) 40 k1))) hx hb hr (fun t ht hW => ⟨⟨(k2 ||| (rd (gA co 3) 40 k1)), (XW ad cI cJ co fl ra li re wa pi), rfl, ⟨(show ((k2 ||| (rd (gA co 3) 40 k1)) : Int32) = (ahead co k1 k2) from (by first | (simp only [ahead, if_pos c_10, decide_eq_true c_10, decide_eq_false (not_not_intro c_10), gi_sl, gi_sA, gi_sB, gi_si_s, gi_si_n, gl_si, gl_sA, gl_sB, gl_sl_s, gl_sl_n, gA_si, gA_sl, gA_sB, gA_sA_s, gA_sA_n, gB_si, gB_sl, gB_sA, gB_sB_s, gB_sB_n, Nat.reduceBEq, if_true, if_false, eq_self, Bool.false_eq_true, reduceCtorEq, not_true_eq_false, not_false_eq_true, decide_true, decide_false, cond_true, cond_false, Bool.true_and, Bool.false_and, Bool.and_true, Bool.and_false, Bool.true_or, Bool.false_or, Bool.or_true, Bool.or_false, b2i_tt, b2i_ff]; done) | (simp only [ahead, if_pos c_10, decide_eq_true c_10, decide_eq_false (not_not_intro c_10), gi_sl, gi_sA, gi_sB, gi_si_s, gi_si_n, gl_si, gl_sA, gl_sB, gl_sl_s, gl_sl_n, gA_si, gA_sl, gA_sB, gA_sA_s, gA_sA_n, gB_si, gB_sl, gB_sA, gB_sB_s, gB_sB_n, Nat.reduceBEq, if_true, if_false, eq_self, Bool.false_eq_true, reduceCtorEq, not_true_eq_false, not_false_eq_true, decide_true, decide_false, cond_true, cond_false, Bool.true_and, Bool.false_and, Bool.and_true, Bool.and_false, Bool.true_or, Bool.false_or, Bool.or_true, Bool.or_false, b2i_tt, b2i_ff]; rfl) | (simp [ahead, c_10, gi_sl, gi_sA, gi_sB, gi_si_s, gi_si_n, gl_si, gl_sA, gl_sB, gl_sl_s, gl_sl_n, gA_si, gA_sl, gA_sB, gA_sA_s, gA_sA_n, gB_si, gB_sl, gB_sA, gB_sB_s, gB_sB_n, Nat.reduceBEq]; done))), xw_eq rfl rfl rfl rfl rfl rfl rfl⟩, ⟨by rw [ht]; exact hP, va_K.moved hW.alike hK, hD⟩⟩, hS.F ht⟩) hS.2.2 dX2_ahead_37
  · refine lv_iload_n hx hb dX2_ahead_13 rfl (lv_at hl 3 rfl) ?_
    refine lv_iconst (v := 1) hx hb dX2_ahead_14 (by decide) ?_
    refine lv_iload_n hx hb dX2_ahead_15 rfl (lv_at hl 0 rfl) ?_
    refine lv_ishl hx hb dX2_ahead_16 ?_
    refine lv_iconst (v := (-1)) hx hb dX2_ahead_17 (by decide) ?_
    refine lv_ixor hx hb dX2_ahead_18 ?_
    refine lv_iand hx hb dX2_ahead_19 ?_
    refine lv_goto (tgt := 24) hx hb dX2_ahead_20 (by decide) ?_
    refine lv_istore (lv' := [(4, .int (k2 &&& ((1 <<< ((rd (gA co 2) 40 k1) &&& 31)) ^^^ (-1)))), (3, .int (rd (gA co 2) 40 k1)), (0, .ref (ad 1)), (1, .int k1), (2, .int k2)]) hx hb dX2_ahead_24 hl (by decide) rfl (fun ls hl => ?_)
    refine lv_iload hx hb dX2_ahead_26 (lv_at hl 0 rfl) ?_
    refine lv_aload_n hx hb dX2_ahead_28 rfl (lv_at hl 2 rfl) ?_
    refine va_getN (D := D) (ci := 0) (v := .ref (ad 11)) (C := RX0) (T := TX0) (N := 5) hx hb hg inGX0 hown hK hP 1 rfl rfl 3 (by decide) (hN.use nw_8) (fun _ h9 => h9) rfl dX2_ahead_29 ?_
    refine lv_iload_n hx hb dX2_ahead_32 rfl (lv_at hl 3 rfl) ?_
    refine kI (rSN hx hb hml hown hg hN hK hP hD (c_at l D cI cJ (XW ad cI cJ co fl ra li re wa pi) 11 (ad 11) 40 (gA co 3) k1 rfl (by decide)) mw_84 nw_82 mw_85 mw_77 pd_X7_at ⟨Nat.le_of_ble_eq_true rfl, Nat.le_of_ble_eq_true rfl⟩ rfl hl.1 rfl (Nat.le_of_ble_eq_true rfl) dX2_ahead_33 ⟨Nat.le_of_ble_eq_true rfl, Nat.le_of_ble_eq_true rfl⟩) hD hS hA (fun r_3 u_3 H locs hp hP hD hS => ?_)
    obtain ⟨er, eu⟩ := hp
    obtain rfl := er.symm
    obtain rfl := eu.symm
    refine lv_ior hx hb dX2_ahead_36 ?_
    exact W.iret (v := ((k2 &&& ((1 <<< ((rd (gA co 2) 40 k1) &&& 31)) ^^^ (-1))) ||| (rd (gA co 3) 40 k1))) hx hb hr (fun t ht hW => ⟨⟨((k2 &&& ((1 <<< ((rd (gA co 2) 40 k1) &&& 31)) ^^^ (-1))) ||| (rd (gA co 3) 40 k1)), (XW ad cI cJ co fl ra li re wa pi), rfl, ⟨(show (((k2 &&& ((1 <<< ((rd (gA co 2) 40 k1) &&& 31)) ^^^ (-1))) ||| (rd (gA co 3) 40 k1)) : Int32) = (ahead co k1 k2) from (by first | (simp only [ahead, if_neg c_10, decide_eq_false c_10, decide_eq_true c_10, if_pos c_10, gi_sl, gi_sA, gi_sB, gi_si_s, gi_si_n, gl_si, gl_sA, gl_sB, gl_sl_s, gl_sl_n, gA_si, gA_sl, gA_sB, gA_sA_s, gA_sA_n, gB_si, gB_sl, gB_sA, gB_sB_s, gB_sB_n, Nat.reduceBEq, if_true, if_false, eq_self, Bool.false_eq_true, reduceCtorEq, not_true_eq_false, not_false_eq_true, decide_true, decide_false, cond_true, cond_false, Bool.true_and, Bool.false_and, Bool.and_true, Bool.and_false, Bool.true_or, Bool.false_or, Bool.or_true, Bool.or_false, b2i_tt, b2i_ff]; done) | (simp only [ahead, if_neg c_10, decide_eq_false c_10, decide_eq_true c_10, if_pos c_10, gi_sl, gi_sA, gi_sB, gi_si_s, gi_si_n, gl_si, gl_sA, gl_sB, gl_sl_s, gl_sl_n, gA_si, gA_sl, gA_sB, gA_sA_s, gA_sA_n, gB_si, gB_sl, gB_sA, gB_sB_s, gB_sB_n, Nat.reduceBEq, if_true, if_false, eq_self, Bool.false_eq_true, reduceCtorEq, not_true_eq_false, not_false_eq_true, decide_true, decide_false, cond_true, cond_false, Bool.true_and, Bool.false_and, Bool.and_true, Bool.and_false, Bool.true_or, Bool.false_or, Bool.or_true, Bool.or_false, b2i_tt, b2i_ff]; rfl) | (simp [ahead, c_10, gi_sl, gi_sA, gi_sB, gi_si_s, gi_si_n, gl_si, gl_sA, gl_sB, gl_sl_s, gl_sl_n, gA_si, gA_sl, gA_sB, gA_sA_s, gA_sA_n, gB_si, gB_sl, gB_sA, gB_sB_s, gB_sB_n, Nat.reduceBEq]; done))), xw_eq rfl rfl rfl rfl rfl rfl rfl⟩, ⟨by rw [ht]; exact hP, va_K.moved hW.alike hK, hD⟩⟩, hS.F ht⟩) hS.2.2 dX2_ahead_37
set_option maxHeartbeats 4000000 in
set_option maxRecDepth 100000 in
theorem c_behind (l : Launch) (D : va_G) (cI cJ : ClassId) (ad : Nat → Nat) (co fl ra li re wa pi : Ob) (k1 : Int32) : CT l D (TY cI cJ) yX2_behind (.code yX2_behind cX2_behind 7 (some Jvm.ClassFile.FieldType.int)) 1 0 0 (XW ad cI cJ co fl ra li re wa pi) [.ref (ad 4), .ref (ad 2), .int k1] (QI D (TY cI cJ) (fun r u => r = (behind fl li k1) ∧ u = (XW ad cI cJ co fl ra li re wa pi))) := by
  refine ent (by decide) (Nat.le_of_ble_eq_true rfl) ?_
  intro p e s m below meth c ls A hx hb hr hg hown hml hlocks hnm hP hK hD hS hA hN hl
  have hl : lv_has ls 7 [(0, .ref (ad 4)), (1, .ref (ad 2)), (2, .int k1)] := hl
  refine lv_aload_n hx hb dX2_behind_0 rfl (lv_at hl 1 rfl) ?_
  refine va_getN (D := D) (ci := 1) (v := .ref (ad 18)) (C := RX1) (T := TX1) (N := 11) hx hb hg inGX1 hown hK hP 2 rfl rfl 6 (by decide) (hN.use nw_24) (fun _ h9 => h9) rfl dX2_behind_1 ?_
  refine lv_iload_n hx hb dX2_behind_4 rfl (lv_at hl 2 rfl) ?_
  refine kL (rSN hx hb hml hown hg hN hK hP hD (c_atL l D cI cJ (XW ad cI cJ co fl ra li re wa pi) 18 (ad 18) 40 (gB fl 0) k1 rfl (by decide)) mw_81 nw_81 mw_83 mw_77 pd_X7_at_ ⟨Nat.le_of_ble_eq_true rfl, Nat.le_of_ble_eq_true rfl⟩ rfl hl.1 rfl (Nat.le_of_ble_eq_true rfl) dX2_behind_5 ⟨Nat.le_of_ble_eq_true rfl, Nat.le_of_ble_eq_true rfl⟩) hD hS hA (fun r_1 u_1 H locs hp hP hD hS => ?_)
  obtain ⟨er, eu⟩ := hp
  obtain rfl := er.symm
  obtain rfl := eu.symm
  refine lv_lstore_n (lv' := [(3, .long (rdL (gB fl 0) 40 k1)), (0, .ref (ad 4)), (1, .ref (ad 2)), (2, .int k1)]) hx hb dX2_behind_8 rfl hl (by decide) rfl (fun ls hl => ?_)
  refine lv_iconst (v := 0) hx hb dX2_behind_9 (by decide) ?_
  refine lv_istore (lv' := [(5, .int 0), (3, .long (rdL (gB fl 0) 40 k1)), (0, .ref (ad 4)), (1, .ref (ad 2)), (2, .int k1)]) hx hb dX2_behind_10 hl (by decide) rfl (fun ls hl => ?_)
  refine lv_iconst (v := 0) hx hb dX2_behind_12 (by decide) ?_
  refine lv_istore (lv' := [(6, .int 0), (5, .int 0), (3, .long (rdL (gB fl 0) 40 k1)), (0, .ref (ad 4)), (1, .ref (ad 2)), (2, .int k1)]) hx hb dX2_behind_13 hl (by decide) rfl (fun ls hl => ?_)
  refine w_loop (σ := Int32) (fun (i_2 : Nat) (p_2 : Int32) (H : Heap) (locs : List Loc) (ls : Array Slot) => p_2 = (lp (behStep fl li k1) i_2 0) ∧ va_P D vwCl (XW ad cI cJ co fl ra li re wa pi) H ∧ va_D A (XW ad cI cJ co fl ra li re wa pi) ∧ va_S A s.heap H locs ∧ lv_has ls 7 [(0, .ref (ad 4)), (1, .ref (ad 2)), (2, .int k1), (3, .long (rdL (gB fl 0) 40 k1)), (5, .int p_2), (6, .int (nI i_2))]) (nN (gi fl 0)) (fun p_2 H locs ls hI => ?_) (fun i_2 p_2 H locs ls hi_2 hI ih_2 => ?_) 0 0 (Nat.zero_le _) ⟨rfl, hP, hD, hS, (by rw [nI_0]; exact lv_sub hl [3, 4, 5, 2, 1, 0] rfl)⟩
  · obtain ⟨h_2, hP, hD, hS, hl⟩ := hI
    have h_2 := h_2.symm
    subst h_2
    have hP : va_P D vwCl (XW ad cI cJ co fl ra li re wa pi) H := hP
    have hD : va_D A (XW ad cI cJ co fl ra li re wa pi) := hD
    have hl : lv_has ls 7 [(0, .ref (ad 4)), (1, .ref (ad 2)), (2, .int k1), (3, .long (rdL (gB fl 0) 40 k1)), (5, .int ((lp (behStep fl li k1) (nN (gi fl 0)) 0))), (6, .int (nI ((nN (gi fl 0)))))] := hl
    refine lv_iload hx hb dX2_behind_15 (lv_at hl 5 rfl) ?_
    refine lv_aload_n hx hb dX2_behind_17 rfl (lv_at hl 1 rfl) ?_
    refine va_getN (D := D) (ci := 1) (v := .int (gi fl 0)) (C := RX1) (T := TX1) (N := 11) hx hb hg inGX1 hown hK hP 2 rfl rfl 7 (by decide) (hN.use nw_26) (fun _ h9 => h9) rfl dX2_behind_18 ?_
    refine lv_icmp_ge (tgt := 53) hx hb dX2_behind_21 (by decide) (fun _ => ?_) (fun c_21 => absurd (lp_out _) c_21)
    refine lv_iload hx hb dX2_behind_53 (lv_at hl 4 rfl) ?_
    exact W.iret (v := ((lp (behStep fl li k1) (nN (gi fl 0)) 0))) hx hb hr (fun t ht hW => ⟨⟨((lp (behStep fl li k1) (nN (gi fl 0)) 0)), (XW ad cI cJ co fl ra li re wa pi), rfl, ⟨(show (((lp (behStep fl li k1) (nN (gi fl 0)) 0)) : Int32) = (behind fl li k1) from (by first | with_reducible rfl | (simp only [behind, gi_sl, gi_sA, gi_sB, gi_si_s, gi_si_n, gl_si, gl_sA, gl_sB, gl_sl_s, gl_sl_n, gA_si, gA_sl, gA_sB, gA_sA_s, gA_sA_n, gB_si, gB_sl, gB_sA, gB_sB_s, gB_sB_n, Nat.reduceBEq, if_true, if_false, eq_self, Bool.false_eq_true, reduceCtorEq, not_true_eq_false, not_false_eq_true, decide_true, decide_false, cond_true, cond_false, Bool.true_and, Bool.false_and, Bool.and_true, Bool.and_false, Bool.true_or, Bool.false_or, Bool.or_true, Bool.or_false, b2i_tt, b2i_ff]; done) | rfl)), xw_eq rfl rfl rfl rfl rfl rfl rfl⟩, ⟨by rw [ht]; exact hP, va_K.moved hW.alike hK, hD⟩⟩, hS.F ht⟩) hS.2.2 dX2_behind_55
  · obtain ⟨h_2, hP, hD, hS, hl⟩ := hI
    have hP : va_P D vwCl (XW ad cI cJ co fl ra li re wa pi) H := hP
    have hD : va_D A (XW ad cI cJ co fl ra li re wa pi) := hD
    have hl : lv_has ls 7 [(0, .ref (ad 4)), (1, .ref (ad 2)), (2, .int k1), (3, .long (rdL (gB fl 0) 40 k1)), (5, .int p_2), (6, .int (nI i_2))] := hl
    refine lv_iload hx hb dX2_behind_15 (lv_at hl 5 rfl) ?_
    refine lv_aload_n hx hb dX2_behind_17 rfl (lv_at hl 1 rfl) ?_
    refine va_getN (D := D) (ci := 1) (v := .int (gi fl 0)) (C := RX1) (T := TX1) (N := 11) hx hb hg inGX1 hown hK hP 2 rfl rfl 7 (by decide) (hN.use nw_26) (fun _ h9 => h9) rfl dX2_behind_18 ?_
    refine lv_icmp_ge (tgt := 53) hx hb dX2_behind_21 (by decide) (fun c_21 => absurd c_21 (lp_in hi_2)) (fun _ => ?_)
    refine lv_lload_n hx hb dX2_behind_24 rfl (lv_at hl 3 rfl) ?_
    refine lv_iload hx hb dX2_behind_25 (lv_at hl 5 rfl) ?_
    refine kI (rSN hx hb hml hown hg hN hK hP hD (c_has l D cI cJ (XW ad cI cJ co fl ra li re wa pi) (rdL (gB fl 0) 40 k1) (nI i_2)) mw_89 nw_80 mw_90 mw_77 pd_X7_has ⟨Nat.le_of_ble_eq_true rfl, Nat.le_of_ble_eq_true rfl⟩ rfl hl.1 rfl (Nat.le_of_ble_eq_true rfl) dX2_behind_27 ⟨Nat.le_of_ble_eq_true rfl, Nat.le_of_ble_eq_true rfl⟩) hD hS hA (fun r_3 u_3 H locs hp hP hD hS => ?_)
    obtain ⟨er, eu⟩ := hp
    obtain rfl := er.symm
    obtain rfl := eu.symm
    refine lv_if_eq (tgt := 47) hx hb dX2_behind_30 (by decide) (fun c_30 => ?_) (fun c_30 => ?_)
    · have c_30 : ¬ (hs (rdL (gB fl 0) 40 k1) (nI i_2)) = true := b2i_0 c_30
      refine lv_iinc (v := (nI (i_2 + 1))) (lv' := [(6, .int (nI (i_2 + 1))), (0, .ref (ad 4)), (1, .ref (ad 2)), (2, .int k1), (3, .long (rdL (gB fl 0) 40 k1)), (5, .int p_2)]) hx hb dX2_behind_47 hl (k := 5) rfl (nI_1 i_2) (by decide) rfl (fun ls hl => ?_)
      refine lv_goto (tgt := 15) hx hb dX2_behind_50 (by decide) ?_
      exact ih_2 p_2 H locs ls ⟨((show p_2 = (behStep fl li k1) i_2 p_2 from (by first | (simp only [behStep, if_neg c_30, bf_of c_30, gi_sl, gi_sA, gi_sB, gi_si_s, gi_si_n, gl_si, gl_sA, gl_sB, gl_sl_s, gl_sl_n, gA_si, gA_sl, gA_sB, gA_sA_s, gA_sA_n, gB_si, gB_sl, gB_sA, gB_sB_s, gB_sB_n, Nat.reduceBEq, if_true, if_false, eq_self, Bool.false_eq_true, reduceCtorEq, not_true_eq_false, not_false_eq_true, decide_true, decide_false, cond_true, cond_false, Bool.true_and, Bool.false_and, Bool.and_true, Bool.and_false, Bool.true_or, Bool.false_or, Bool.or_true, Bool.or_false, b2i_tt, b2i_ff]; done) | (simp only [behStep, if_neg c_30, bf_of c_30, gi_sl, gi_sA, gi_sB, gi_si_s, gi_si_n, gl_si, gl_sA, gl_sB, gl_sl_s, gl_sl_n, gA_si, gA_sl, gA_sB, gA_sA_s, gA_sA_n, gB_si, gB_sl, gB_sA, gB_sB_s, gB_sB_n, Nat.reduceBEq, if_true, if_false, eq_self, Bool.false_eq_true, reduceCtorEq, not_true_eq_false, not_false_eq_true, decide_true, decide_false, cond_true, cond_false, Bool.true_and, Bool.false_and, Bool.and_true, Bool.and_false, Bool.true_or, Bool.false_or, Bool.or_true, Bool.or_false, b2i_tt, b2i_ff]; rfl) | (simp [behStep, c_30, gi_sl, gi_sA, gi_sB, gi_si_s, gi_si_n, gl_si, gl_sA, gl_sB, gl_sl_s, gl_sl_n, gA_si, gA_sl, gA_sB, gA_sA_s, gA_sA_n, gB_si, gB_sl, gB_sA, gB_sB_s, gB_sB_n, Nat.reduceBEq]; done))).trans (lp_go h_2)), hP, hD, hS, lv_sub hl [1, 2, 3, 4, 5, 0] rfl⟩
    · have c_30 : (hs (rdL (gB fl 0) 40 k1) (nI i_2)) = true := b2i_1 c_30
      refine lv_iload hx hb dX2_behind_33 (lv_at hl 4 rfl) ?_
      refine lv_aload_n hx hb dX2_behind_35 rfl (lv_at hl 0 rfl) ?_
      refine va_get (D := D) (ci := 2) (v := .ref (ad 23)) (C := RX2) (T := TX2) (N := 3) hx hb hg inGX2 hown hK hP 4 rfl rfl 0 (by decide) (hg _ mw_147) (fun _ h9 => h9) rfl dX2_behind_36 ?_
      refine lv_iload hx hb dX2_behind_39 (lv_at hl 5 rfl) ?_
      refine kI (rSN hx hb hml hown hg hN hK hP hD (c_at l D cI cJ (XW ad cI cJ co fl ra li re wa pi) 23 (ad 23) 40 (gA li 0) (nI i_2) rfl (by decide)) mw_84 nw_82 mw_85 mw_77 pd_X7_at ⟨Nat.le_of_ble_eq_true rfl, Nat.le_of_ble_eq_true rfl⟩ rfl hl.1 rfl (Nat.le_of_ble_eq_true rfl) dX2_behind_41 ⟨Nat.le_of_ble_eq_true rfl, Nat.le_of_ble_eq_true rfl⟩) hD hS hA (fun r_4 u_4 H locs hp hP hD hS => ?_)
      obtain ⟨er, eu⟩ := hp
      obtain rfl := er.symm
      obtain rfl := eu.symm
      refine lv_ior hx hb dX2_behind_44 ?_
      refine lv_istore (lv' := [(5, .int (p_2 ||| (rd (gA li 0) 40 (nI i_2)))), (0, .ref (ad 4)), (1, .ref (ad 2)), (2, .int k1), (3, .long (rdL (gB fl 0) 40 k1)), (6, .int (nI i_2))]) hx hb dX2_behind_45 hl (by decide) rfl (fun ls hl => ?_)
      refine lv_iinc (v := (nI (i_2 + 1))) (lv' := [(6, .int (nI (i_2 + 1))), (5, .int (p_2 ||| (rd (gA li 0) 40 (nI i_2)))), (0, .ref (ad 4)), (1, .ref (ad 2)), (2, .int k1), (3, .long (rdL (gB fl 0) 40 k1))]) hx hb dX2_behind_47 hl (k := 5) rfl (nI_1 i_2) (by decide) rfl (fun ls hl => ?_)
      refine lv_goto (tgt := 15) hx hb dX2_behind_50 (by decide) ?_
      exact ih_2 (p_2 ||| (rd (gA li 0) 40 (nI i_2))) H locs ls ⟨((show (p_2 ||| (rd (gA li 0) 40 (nI i_2))) = (behStep fl li k1) i_2 p_2 from (by first | (simp only [behStep, if_pos c_30, c_30, gi_sl, gi_sA, gi_sB, gi_si_s, gi_si_n, gl_si, gl_sA, gl_sB, gl_sl_s, gl_sl_n, gA_si, gA_sl, gA_sB, gA_sA_s, gA_sA_n, gB_si, gB_sl, gB_sA, gB_sB_s, gB_sB_n, Nat.reduceBEq, if_true, if_false, eq_self, Bool.false_eq_true, reduceCtorEq, not_true_eq_false, not_false_eq_true, decide_true, decide_false, cond_true, cond_false, Bool.true_and, Bool.false_and, Bool.and_true, Bool.and_false, Bool.true_or, Bool.false_or, Bool.or_true, Bool.or_false, b2i_tt, b2i_ff]; done) | (simp only [behStep, if_pos c_30, c_30, gi_sl, gi_sA, gi_sB, gi_si_s, gi_si_n, gl_si, gl_sA, gl_sB, gl_sl_s, gl_sl_n, gA_si, gA_sl, gA_sB, gA_sA_s, gA_sA_n, gB_si, gB_sl, gB_sA, gB_sB_s, gB_sB_n, Nat.reduceBEq, if_true, if_false, eq_self, Bool.false_eq_true, reduceCtorEq, not_true_eq_false, not_false_eq_true, decide_true, decide_false, cond_true, cond_false, Bool.true_and, Bool.false_and, Bool.and_true, Bool.and_false, Bool.true_or, Bool.false_or, Bool.or_true, Bool.or_false, b2i_tt, b2i_ff]; rfl) | (simp [behStep, c_30, gi_sl, gi_sA, gi_sB, gi_si_s, gi_si_n, gl_si, gl_sA, gl_sB, gl_sl_s, gl_sl_n, gA_si, gA_sl, gA_sB, gA_sA_s, gA_sA_n, gB_si, gB_sl, gB_sA, gB_sB_s, gB_sB_n, Nat.reduceBEq]; done))).trans (lp_go h_2)), hP, hD, hS, lv_sub hl [2, 3, 4, 5, 1, 0] rfl⟩
set_option maxHeartbeats 4000000 in
set_option maxRecDepth 100000 in
theorem c_passUp (l : Launch) (D : va_G) (cI cJ : ClassId) (ad : Nat → Nat) (co fl ra li re wa pi : Ob) (hlo : FlowLo fl) : CT l D (TY cI cJ) yX2_passUp (.code yX2_passUp cX2_passUp 7 (some Jvm.ClassFile.FieldType.boolean)) 2 0 0 (XW ad cI cJ co fl ra li re wa pi) [.ref (ad 4), .ref (ad 1), .ref (ad 2)] (QI D (TY cI cJ) (fun r u => r = (b2i (passUp co fl li).2) ∧ u = (XW ad cI cJ co fl ra (passUp co fl li).1 re wa pi))) := by
  refine ent (by decide) (Nat.le_of_ble_eq_true rfl) ?_
  intro p e s m below meth c ls A hx hb hr hg hown hml hlocks hnm hP hK hD hS hA hN hl
  have hl : lv_has ls 7 [(0, .ref (ad 4)), (1, .ref (ad 1)), (2, .ref (ad 2))] := hl
  refine lv_iconst (v := 0) hx hb dX2_passUp_0 (by decide) ?_
  refine lv_istore_n (lv' := [(3, .int 0), (0, .ref (ad 4)), (1, .ref (ad 1)), (2, .ref (ad 2))]) hx hb dX2_passUp_1 rfl hl (by decide) rfl (fun ls hl => ?_)
  refine lv_aload_n hx hb dX2_passUp_2 rfl (lv_at hl 3 rfl) ?_
  refine va_getN (D := D) (ci := 1) (v := .int (gi fl 0)) (C := RX1) (T := TX1) (N := 11) hx hb hg inGX1 hown hK hP 2 rfl rfl 7 (by decide) (hN.use nw_26) (fun _ h9 => h9) rfl dX2_passUp_3 ?_
  refine lv_iconst (v := 1) hx hb dX2_passUp_6 (by decide) ?_
  refine lv_isub hx hb dX2_passUp_7 ?_
  refine lv_istore (lv' := [(4, .int ((gi fl 0) - 1)), (3, .int 0), (0, .ref (ad 4)), (1, .ref (ad 1)), (2, .ref (ad 2))]) hx hb dX2_passUp_8 hl (by decide) rfl (fun ls hl => ?_)
  refine w_loop (σ := Ob × Bool) (fun (i_1 : Nat) (p_1 : Ob × Bool) (H : Heap) (locs : List Loc) (ls : Array Slot) => p_1 = (lp (passStep co fl) i_1 (li, false)) ∧ va_P D vwCl (XW ad cI cJ co fl ra p_1.1 re wa pi) H ∧ va_D A (XW ad cI cJ co fl ra p_1.1 re wa pi) ∧ va_S A s.heap H locs ∧ lv_has ls 7 [(0, .ref (ad 4)), (1, .ref (ad 1)), (2, .ref (ad 2)), (3, .int (b2i p_1.2)), (4, .int ((gi fl 0) - 1 - nI i_1))]) (nN (gi fl 0)) (fun p_1 H locs ls hI => ?_) (fun i_1 p_1 H locs ls hi_1 hI ih_1 => ?_) 0 (li, false) (Nat.zero_le _) ⟨rfl, hP, hD, hS, (by rw [sub_nI0]; exact lv_sub hl [2, 3, 4, 1, 0] rfl)⟩
  · obtain ⟨h_1, hP, hD, hS, hl⟩ := hI
    have h_1 := h_1.symm
    subst h_1
    have hP : va_P D vwCl (XW ad cI cJ co fl ra ((lp (passStep co fl) (nN (gi fl 0)) (li, false)).1) re wa pi) H := hP
    have hD : va_D A (XW ad cI cJ co fl ra ((lp (passStep co fl) (nN (gi fl 0)) (li, false)).1) re wa pi) := hD
    have hl : lv_has ls 7 [(0, .ref (ad 4)), (1, .ref (ad 1)), (2, .ref (ad 2)), (3, .int (b2i (lp (passStep co fl) (nN (gi fl 0)) (li, false)).2)), (4, .int ((gi fl 0) - 1 - nI ((nN (gi fl 0)))))] := hl
    refine lv_iload hx hb dX2_passUp_10 (lv_at hl 4 rfl) ?_
    refine lv_if_lt (tgt := 118) hx hb dX2_passUp_12 (by decide) (fun _ => ?_) (fun c_12 => absurd (dn_out hlo.1) c_12)
    refine lv_iload_n hx hb dX2_passUp_118 rfl (lv_at hl 3 rfl) ?_
    exact W.zret (v := (b2i (lp (passStep co fl) (nN (gi fl 0)) (li, false)).2)) hx hb hr nar_b2i (fun t ht hW => ⟨⟨(b2i (lp (passStep co fl) (nN (gi fl 0)) (li, false)).2), (XW ad cI cJ co fl ra ((lp (passStep co fl) (nN (gi fl 0)) (li, false)).1) re wa pi), rfl, ⟨(show ((b2i (lp (passStep co fl) (nN (gi fl 0)) (li, false)).2) : Int32) = (b2i (passUp co fl li).2) from (by first | with_reducible rfl | (simp only [passUp, gi_sl, gi_sA, gi_sB, gi_si_s, gi_si_n, gl_si, gl_sA, gl_sB, gl_sl_s, gl_sl_n, gA_si, gA_sl, gA_sB, gA_sA_s, gA_sA_n, gB_si, gB_sl, gB_sA, gB_sB_s, gB_sB_n, Nat.reduceBEq, if_true, if_false, eq_self, Bool.false_eq_true, reduceCtorEq, not_true_eq_false, not_false_eq_true, decide_true, decide_false, cond_true, cond_false, Bool.true_and, Bool.false_and, Bool.and_true, Bool.and_false, Bool.true_or, Bool.false_or, Bool.or_true, Bool.or_false, b2i_tt, b2i_ff]; done) | rfl)), xw_eq rfl rfl rfl (show ((lp (passStep co fl) (nN (gi fl 0)) (li, false)).1) = (passUp co fl li).1 from (by first | with_reducible rfl | (simp only [passUp, gi_sl, gi_sA, gi_sB, gi_si_s, gi_si_n, gl_si, gl_sA, gl_sB, gl_sl_s, gl_sl_n, gA_si, gA_sl, gA_sB, gA_sA_s, gA_sA_n, gB_si, gB_sl, gB_sA, gB_sB_s, gB_sB_n, Nat.reduceBEq, if_true, if_false, eq_self, Bool.false_eq_true, reduceCtorEq, not_true_eq_false, not_false_eq_true, decide_true, decide_false, cond_true, cond_false, Bool.true_and, Bool.false_and, Bool.and_true, Bool.and_false, Bool.true_or, Bool.false_or, Bool.or_true, Bool.or_false, b2i_tt, b2i_ff]; done) | rfl)) rfl rfl rfl⟩, ⟨by rw [ht]; exact hP, va_K.moved hW.alike hK, hD⟩⟩, hS.F ht⟩) hS.2.2 dX2_passUp_119
  · obtain ⟨h_1, hP, hD, hS, hl⟩ := hI
    have hP : va_P D vwCl (XW ad cI cJ co fl ra p_1.1 re wa pi) H := hP
    have hD : va_D A (XW ad cI cJ co fl ra p_1.1 re wa pi) := hD
    have hl : lv_has ls 7 [(0, .ref (ad 4)), (1, .ref (ad 1)), (2, .ref (ad 2)), (3, .int (b2i p_1.2)), (4, .int ((gi fl 0) - 1 - nI i_1))] := hl
    refine lv_iload hx hb dX2_passUp_10 (lv_at hl 4 rfl) ?_
    refine lv_if_lt (tgt := 118) hx hb dX2_passUp_12 (by decide) (fun c_12 => absurd c_12 (dn_in hi_1)) (fun _ => ?_)
    refine lv_aload_n hx hb dX2_passUp_15 rfl (lv_at hl 2 rfl) ?_
    refine va_getN (D := D) (ci := 1) (v := .long (gl fl 0)) (C := RX1) (T := TX1) (N := 11) hx hb hg inGX1 hown hK hP 2 rfl rfl 9 (by decide) (hN.use nw_34) (fun _ h9 => h9) rfl dX2_passUp_16 ?_
    refine lv_iload hx hb dX2_passUp_19 (lv_at hl 4 rfl) ?_
    refine kI (rSN hx hb hml hown hg hN hK hP hD (c_has l D cI cJ (XW ad cI cJ co fl ra p_1.1 re wa pi) (gl fl 0) ((gi fl 0) - 1 - nI i_1)) mw_89 nw_80 mw_90 mw_77 pd_X7_has ⟨Nat.le_of_ble_eq_true rfl, Nat.le_of_ble_eq_true rfl⟩ rfl hl.1 rfl (Nat.le_of_ble_eq_true rfl) dX2_passUp_21 ⟨Nat.le_of_ble_eq_true rfl, Nat.le_of_ble_eq_true rfl⟩) hD hS hA (fun r_2 u_2 H locs hp hP hD hS => ?_)
    obtain ⟨er, eu⟩ := hp
    obtain rfl := er.symm
    obtain rfl := eu.symm
    refine lv_if_eq (tgt := 112) hx hb dX2_passUp_24 (by decide) (fun c_24 => ?_) (fun c_24 => ?_)
    · have c_24 : ¬ (hs (gl fl 0) ((gi fl 0) - 1 - nI i_1)) = true := b2i_0 c_24
      refine lv_iinc (v := ((gi fl 0) - 1 - nI (i_1 + 1))) (lv' := [(4, .int ((gi fl 0) - 1 - nI (i_1 + 1))), (0, .ref (ad 4)), (1, .ref (ad 1)), (2, .ref (ad 2)), (3, .int (b2i p_1.2))]) hx hb dX2_passUp_112 hl (k := 4) rfl (sub_nI1 _ i_1) (by decide) rfl (fun ls hl => ?_)
      refine lv_goto (tgt := 10) hx hb dX2_passUp_115 (by decide) ?_
      exact ih_1 (p_1.1, p_1.2) H locs ls ⟨((show (p_1.1, p_1.2) = (passStep co fl) i_1 p_1 from (by first | (simp only [passStep, passB, scan, if_neg c_24, bf_of c_24, gi_sl, gi_sA, gi_sB, gi_si_s, gi_si_n, gl_si, gl_sA, gl_sB, gl_sl_s, gl_sl_n, gA_si, gA_sl, gA_sB, gA_sA_s, gA_sA_n, gB_si, gB_sl, gB_sA, gB_sB_s, gB_sB_n, Nat.reduceBEq, if_true, if_false, eq_self, Bool.false_eq_true, reduceCtorEq, not_true_eq_false, not_false_eq_true, decide_true, decide_false, cond_true, cond_false, Bool.true_and, Bool.false_and, Bool.and_true, Bool.and_false, Bool.true_or, Bool.false_or, Bool.or_true, Bool.or_false, b2i_tt, b2i_ff]; done) | (simp only [passStep, passB, scan, if_neg c_24, bf_of c_24, gi_sl, gi_sA, gi_sB, gi_si_s, gi_si_n, gl_si, gl_sA, gl_sB, gl_sl_s, gl_sl_n, gA_si, gA_sl, gA_sB, gA_sA_s, gA_sA_n, gB_si, gB_sl, gB_sA, gB_sB_s, gB_sB_n, Nat.reduceBEq, if_true, if_false, eq_self, Bool.false_eq_true, reduceCtorEq, not_true_eq_false, not_false_eq_true, decide_true, decide_false, cond_true, cond_false, Bool.true_and, Bool.false_and, Bool.and_true, Bool.and_false, Bool.true_or, Bool.false_or, Bool.or_true, Bool.or_false, b2i_tt, b2i_ff]; rfl) | (simp [passStep, passB, scan, c_24, gi_sl, gi_sA, gi_sB, gi_si_s, gi_si_n, gl_si, gl_sA, gl_sB, gl_sl_s, gl_sl_n, gA_si, gA_sl, gA_sB, gA_sA_s, gA_sA_n, gB_si, gB_sl, gB_sA, gB_sB_s, gB_sB_n, Nat.reduceBEq]; done))).trans (lp_go h_1)), hP, hD, hS, lv_sub hl [1, 2, 3, 4, 0] rfl⟩
    · have c_24 : (hs (gl fl 0) ((gi fl 0) - 1 - nI i_1)) = true := b2i_1 c_24
      refine lv_aload_n hx hb dX2_passUp_27 rfl (lv_at hl 0 rfl) ?_
      refine lv_aload_n hx hb dX2_passUp_28 rfl (lv_at hl 2 rfl) ?_
      refine lv_iload hx hb dX2_passUp_29 (lv_at hl 4 rfl) ?_
      refine kI (rV (q0 := 4) (ci := 2) hx hb hml hown hg hN hK hP hD (c_behind l D cI cJ ad co fl ra p_1.1 re wa pi ((gi fl 0) - 1 - nI i_1)) mw_148 mw_149 mw_150 mw_151 mw_152 pdv_X2_behind ⟨Nat.le_of_ble_eq_true rfl, Nat.le_of_ble_eq_true rfl⟩ rfl rfl rfl hl.1 rfl (Nat.le_of_ble_eq_true rfl) dX2_passUp_31 ⟨Nat.le_of_ble_eq_true rfl, Nat.le_of_ble_eq_true rfl⟩) hD hS hA (fun r_3 u_3 H locs hp hP hD hS => ?_)
      obtain ⟨er, eu⟩ := hp
      obtain rfl := er.symm
      obtain rfl := eu.symm
      refine lv_istore (lv' := [(5, .int (behind fl p_1.1 ((gi fl 0) - 1 - nI i_1))), (0, .ref (ad 4)), (1, .ref (ad 1)), (2, .ref (ad 2)), (3, .int (b2i p_1.2)), (4, .int ((gi fl 0) - 1 - nI i_1))]) hx hb dX2_passUp_34 hl (by decide) rfl (fun ls hl => ?_)
      refine lv_aload_n hx hb dX2_passUp_36 rfl (lv_at hl 3 rfl) ?_
      refine va_getN (D := D) (ci := 1) (v := .ref (ad 14)) (C := RX1) (T := TX1) (N := 11) hx hb hg inGX1 hown hK hP 2 rfl rfl 2 (by decide) (hN.use nw_15) (fun _ h9 => h9) rfl dX2_passUp_37 ?_
      refine lv_iload hx hb dX2_passUp_40 (lv_at hl 5 rfl) ?_
      refine kI (rSN hx hb hml hown hg hN hK hP hD (c_at l D cI cJ (XW ad cI cJ co fl ra p_1.1 re wa pi) 14 (ad 14) 40 (gA fl 2) ((gi fl 0) - 1 - nI i_1) rfl (by decide)) mw_84 nw_82 mw_85 mw_77 pd_X7_at ⟨Nat.le_of_ble_eq_true rfl, Nat.le_of_ble_eq_true rfl⟩ rfl hl.1 rfl (Nat.le_of_ble_eq_true rfl) dX2_passUp_42 ⟨Nat.le_of_ble_eq_true rfl, Nat.le_of_ble_eq_true rfl⟩) hD hS hA (fun r_4 u_4 H locs hp hP hD hS => ?_)
      obtain ⟨er, eu⟩ := hp
      obtain rfl := er.symm
      obtain rfl := eu.symm
      refine lv_istore (lv' := [(6, .int (rd (gA fl 2) 40 ((gi fl 0) - 1 - nI i_1))), (5, .int (behind fl p_1.1 ((gi fl 0) - 1 - nI i_1))), (0, .ref (ad 4)), (1, .ref (ad 1)), (2, .ref (ad 2)), (3, .int (b2i p_1.2)), (4, .int ((gi fl 0) - 1 - nI i_1))]) hx hb dX2_passUp_45 hl (by decide) rfl (fun ls hl => ?_)
      refine w_loop (σ := Int32) (fun (i_5 : Nat) (p_5 : Int32) (H : Heap) (locs : List Loc) (ls : Array Slot) => p_5 = (lp (fun j now => ahead co ((rd (gA fl 2) 40 ((gi fl 0) - 1 - nI i_1)) - nI j) now) i_5 (behind fl p_1.1 ((gi fl 0) - 1 - nI i_1))) ∧ va_P D vwCl (XW ad cI cJ co fl ra p_1.1 re wa pi) H ∧ va_D A (XW ad cI cJ co fl ra p_1.1 re wa pi) ∧ va_S A s.heap H locs ∧ lv_has ls 7 [(0, .ref (ad 4)), (1, .ref (ad 1)), (2, .ref (ad 2)), (3, .int (b2i p_1.2)), (4, .int ((gi fl 0) - 1 - nI i_1)), (5, .int p_5), (6, .int ((rd (gA fl 2) 40 ((gi fl 0) - 1 - nI i_1)) - nI i_5))]) ((scanN fl ((gi fl 0) - 1 - nI i_1))) (fun p_5 H locs ls hI => ?_) (fun i_5 p_5 H locs ls hi_5 hI ih_5 => ?_) 0 (behind fl p_1.1 ((gi fl 0) - 1 - nI i_1)) (Nat.zero_le _) ⟨rfl, hP, hD, hS, (by rw [sub_nI0]; exact lv_sub hl [2, 3, 4, 5, 6, 1, 0] rfl)⟩
      · obtain ⟨h_5, hP, hD, hS, hl⟩ := hI
        have h_5 := h_5.symm
        subst h_5
        have hP : va_P D vwCl (XW ad cI cJ co fl ra p_1.1 re wa pi) H := hP
        have hD : va_D A (XW ad cI cJ co fl ra p_1.1 re wa pi) := hD
        have hl : lv_has ls 7 [(0, .ref (ad 4)), (1, .ref (ad 1)), (2, .ref (ad 2)), (3, .int (b2i p_1.2)), (4, .int ((gi fl 0) - 1 - nI i_1)), (5, .int ((lp (fun j now => ahead co ((rd (gA fl 2) 40 ((gi fl 0) - 1 - nI i_1)) - nI j) now) ((scanN fl ((gi fl 0) - 1 - nI i_1))) (behind fl p_1.1 ((gi fl 0) - 1 - nI i_1))))), (6, .int ((rd (gA fl 2) 40 ((gi fl 0) - 1 - nI i_1)) - nI (((scanN fl ((gi fl 0) - 1 - nI i_1))))))] := hl
        refine lv_iload hx hb dX2_passUp_47 (lv_at hl 6 rfl) ?_
        refine lv_aload_n hx hb dX2_passUp_49 rfl (lv_at hl 2 rfl) ?_
        refine va_getN (D := D) (ci := 1) (v := .ref (ad 13)) (C := RX1) (T := TX1) (N := 11) hx hb hg inGX1 hown hK hP 2 rfl rfl 1 (by decide) (hN.use nw_13) (fun _ h9 => h9) rfl dX2_passUp_50 ?_
        refine lv_iload hx hb dX2_passUp_53 (lv_at hl 4 rfl) ?_
        refine kI (rSN hx hb hml hown hg hN hK hP hD (c_at l D cI cJ (XW ad cI cJ co fl ra p_1.1 re wa pi) 13 (ad 13) 40 (gA fl 1) ((gi fl 0) - 1 - nI i_1) rfl (by decide)) mw_84 nw_82 mw_85 mw_77 pd_X7_at ⟨Nat.le_of_ble_eq_true rfl, Nat.le_of_ble_eq_true rfl⟩ rfl hl.1 rfl (Nat.le_of_ble_eq_true rfl) dX2_passUp_55 ⟨Nat.le_of_ble_eq_true rfl, Nat.le_of_ble_eq_true rfl⟩) hD hS hA (fun r_6 u_6 H locs hp hP hD hS => ?_)
        obtain ⟨er, eu⟩ := hp
        obtain rfl := er.symm
        obtain rfl := eu.symm
        refine lv_icmp_lt (tgt := 77) hx hb dX2_passUp_58 (by decide) (fun _ => ?_) (fun c_58 => absurd (sc_out (FlowLo.at hlo hi_1)) c_58)
        refine lv_iload_n hx hb dX2_passUp_77 rfl (lv_at hl 3 rfl) ?_
        refine lv_if_ne (tgt := 95) hx hb dX2_passUp_78 (by decide) (fun c_78 => ?_) (fun c_78 => ?_)
        · have c_78 : p_1.2 = true := b2i_1 c_78
          refine lv_iconst (v := 1) hx hb dX2_passUp_95 (by decide) ?_
          refine lv_goto (tgt := 100) hx hb dX2_passUp_96 (by decide) ?_
          refine lv_istore_n (lv' := [(3, .int 1), (0, .ref (ad 4)), (1, .ref (ad 1)), (2, .ref (ad 2)), (4, .int ((gi fl 0) - 1 - nI i_1)), (5, .int ((lp (fun j now => ahead co ((rd (gA fl 2) 40 ((gi fl 0) - 1 - nI i_1)) - nI j) now) ((scanN fl ((gi fl 0) - 1 - nI i_1))) (behind fl p_1.1 ((gi fl 0) - 1 - nI i_1))))), (6, .int ((rd (gA fl 2) 40 ((gi fl 0) - 1 - nI i_1)) - nI (((scanN fl ((gi fl 0) - 1 - nI i_1))))))]) hx hb dX2_passUp_100 rfl hl (by decide) rfl (fun ls hl => ?_)
          refine lv_aload_n hx hb dX2_passUp_101 rfl (lv_at hl 1 rfl) ?_
          refine va_get (D := D) (ci := 2) (v := .ref (ad 23)) (C := RX2) (T := TX2) (N := 3) hx hb hg inGX2 hown hK hP 4 rfl rfl 0 (by decide) (hg _ mw_147) (fun _ h9 => h9) rfl dX2_passUp_102 ?_
          refine lv_iload hx hb dX2_passUp_105 (lv_at hl 4 rfl) ?_
          refine lv_iload hx hb dX2_passUp_107 (lv_at hl 5 rfl) ?_
          refine kV (rSN hx hb hml hown hg hN hK hP hD (c_put l D cI cJ (XW ad cI cJ co fl ra p_1.1 re wa pi) 23 (ad 23) 40 (gA p_1.1 0) ((gi fl 0) - 1 - nI i_1) ((lp (fun j now => ahead co ((rd (gA fl 2) 40 ((gi fl 0) - 1 - nI i_1)) - nI j) now) ((scanN fl ((gi fl 0) - 1 - nI i_1))) (behind fl p_1.1 ((gi fl 0) - 1 - nI i_1)))) rfl (by decide)) mw_92 nw_79 mw_93 mw_77 pd_X7_put ⟨Nat.le_of_ble_eq_true rfl, Nat.le_of_ble_eq_true rfl⟩ rfl hl.1 rfl (Nat.le_of_ble_eq_true rfl) dX2_passUp_109 ⟨Nat.le_of_ble_eq_true rfl, Nat.le_of_ble_eq_true rfl⟩) hD hS hA (fun u_7 H locs hp hP hD hS => ?_)
          obtain rfl := hp.symm
          have hP : va_P D vwCl (XW ad cI cJ co fl ra (sA p_1.1 0 (wr (gA p_1.1 0) 40 ((gi fl 0) - 1 - nI i_1) ((lp (fun j now => ahead co ((rd (gA fl 2) 40 ((gi fl 0) - 1 - nI i_1)) - nI j) now) ((scanN fl ((gi fl 0) - 1 - nI i_1))) (behind fl p_1.1 ((gi fl 0) - 1 - nI i_1)))))) re wa pi) H := hP
          have hD : va_D A (XW ad cI cJ co fl ra (sA p_1.1 0 (wr (gA p_1.1 0) 40 ((gi fl 0) - 1 - nI i_1) ((lp (fun j now => ahead co ((rd (gA fl 2) 40 ((gi fl 0) - 1 - nI i_1)) - nI j) now) ((scanN fl ((gi fl 0) - 1 - nI i_1))) (behind fl p_1.1 ((gi fl 0) - 1 - nI i_1)))))) re wa pi) := hD
          refine lv_iinc (v := ((gi fl 0) - 1 - nI (i_1 + 1))) (lv' := [(4, .int ((gi fl 0) - 1 - nI (i_1 + 1))), (3, .int 1), (0, .ref (ad 4)), (1, .ref (ad 1)), (2, .ref (ad 2)), (5, .int ((lp (fun j now => ahead co ((rd (gA fl 2) 40 ((gi fl 0) - 1 - nI i_1)) - nI j) now) ((scanN fl ((gi fl 0) - 1 - nI i_1))) (behind fl p_1.1 ((gi fl 0) - 1 - nI i_1))))), (6, .int ((rd (gA fl 2) 40 ((gi fl 0) - 1 - nI i_1)) - nI (((scanN fl ((gi fl 0) - 1 - nI i_1))))))]) hx hb dX2_passUp_112 hl (k := 4) rfl (sub_nI1 _ i_1) (by decide) rfl (fun ls hl => ?_)
          refine lv_goto (tgt := 10) hx hb dX2_passUp_115 (by decide) ?_
          exact ih_1 ((sA p_1.1 0 (wr (gA p_1.1 0) 40 ((gi fl 0) - 1 - nI i_1) ((lp (fun j now => ahead co ((rd (gA fl 2) 40 ((gi fl 0) - 1 - nI i_1)) - nI j) now) ((scanN fl ((gi fl 0) - 1 - nI i_1))) (behind fl p_1.1 ((gi fl 0) - 1 - nI i_1)))))), true) H locs ls ⟨((show ((sA p_1.1 0 (wr (gA p_1.1 0) 40 ((gi fl 0) - 1 - nI i_1) ((lp (fun j now => ahead co ((rd (gA fl 2) 40 ((gi fl 0) - 1 - nI i_1)) - nI j) now) ((scanN fl ((gi fl 0) - 1 - nI i_1))) (behind fl p_1.1 ((gi fl 0) - 1 - nI i_1)))))), true) = (passStep co fl) i_1 p_1 from (by first | (simp only [passStep, passB, scan, if_pos c_24, c_24, if_pos c_78, c_78, gi_sl, gi_sA, gi_sB, gi_si_s, gi_si_n, gl_si, gl_sA, gl_sB, gl_sl_s, gl_sl_n, gA_si, gA_sl, gA_sB, gA_sA_s, gA_sA_n, gB_si, gB_sl, gB_sA, gB_sB_s, gB_sB_n, Nat.reduceBEq, if_true, if_false, eq_self, Bool.false_eq_true, reduceCtorEq, not_true_eq_false, not_false_eq_true, decide_true, decide_false, cond_true, cond_false, Bool.true_and, Bool.false_and, Bool.and_true, Bool.and_false, Bool.true_or, Bool.false_or, Bool.or_true, Bool.or_false, b2i_tt, b2i_ff]; done) | (simp only [passStep, passB, scan, if_pos c_24, c_24, if_pos c_78, c_78, gi_sl, gi_sA, gi_sB, gi_si_s, gi_si_n, gl_si, gl_sA, gl_sB, gl_sl_s, gl_sl_n, gA_si, gA_sl, gA_sB, gA_sA_s, gA_sA_n, gB_si, gB_sl, gB_sA, gB_sB_s, gB_sB_n, Nat.reduceBEq, if_true, if_false, eq_self, Bool.false_eq_true, reduceCtorEq, not_true_eq_false, not_false_eq_true, decide_true, decide_false, cond_true, cond_false, Bool.true_and, Bool.false_and, Bool.and_true, Bool.and_false, Bool.true_or, Bool.false_or, Bool.or_true, Bool.or_false, b2i_tt, b2i_ff]; rfl) | (simp [passStep, passB, scan, c_24, c_78, gi_sl, gi_sA, gi_sB, gi_si_s, gi_si_n, gl_si, gl_sA, gl_sB, gl_sl_s, gl_sl_n, gA_si, gA_sl, gA_sB, gA_sA_s, gA_sA_n, gB_si, gB_sl, gB_sA, gB_sB_s, gB_sB_n, Nat.reduceBEq]; done))).trans (lp_go h_1)), hP, hD, hS, lv_sub hl [2, 3, 4, 1, 0] rfl⟩
        · have c_78 : ¬ p_1.2 = true := b2i_0 c_78
          refine lv_iload hx hb dX2_passUp_81 (lv_at hl 5 rfl) ?_
          refine lv_aload_n hx hb dX2_passUp_83 rfl (lv_at hl 0 rfl) ?_
          refine va_get (D := D) (ci := 2) (v := .ref (ad 23)) (C := RX2) (T := TX2) (N := 3) hx hb hg inGX2 hown hK hP 4 rfl rfl 0 (by decide) (hg _ mw_147) (fun _ h9 => h9) rfl dX2_passUp_84 ?_
          refine lv_iload hx hb dX2_passUp_87 (lv_at hl 4 rfl) ?_
          refine kI (rSN hx hb hml hown hg hN hK hP hD (c_at l D cI cJ (XW ad cI cJ co fl ra p_1.1 re wa pi) 23 (ad 23) 40 (gA p_1.1 0) ((gi fl 0) - 1 - nI i_1) rfl (by decide)) mw_84 nw_82 mw_85 mw_77 pd_X7_at ⟨Nat.le_of_ble_eq_true rfl, Nat.le_of_ble_eq_true rfl⟩ rfl hl.1 rfl (Nat.le_of_ble_eq_true rfl) dX2_passUp_89 ⟨Nat.le_of_ble_eq_true rfl, Nat.le_of_ble_eq_true rfl⟩) hD hS hA (fun r_8 u_8 H locs hp hP hD hS => ?_)
          obtain ⟨er, eu⟩ := hp
          obtain rfl := er.symm
          obtain rfl := eu.symm
          refine lv_icmp_eq (tgt := 99) hx hb dX2_passUp_92 (by decide) (fun c_92 => ?_) (fun c_92 => ?_)
          · refine lv_iconst (v := 0) hx hb dX2_passUp_99 (by decide) ?_
            refine lv_istore_n (lv' := [(3, .int 0), (0, .ref (ad 4)), (1, .ref (ad 1)), (2, .ref (ad 2)), (4, .int ((gi fl 0) - 1 - nI i_1)), (5, .int ((lp (fun j now => ahead co ((rd (gA fl 2) 40 ((gi fl 0) - 1 - nI i_1)) - nI j) now) ((scanN fl ((gi fl 0) - 1 - nI i_1))) (behind fl p_1.1 ((gi fl 0) - 1 - nI i_1))))), (6, .int ((rd (gA fl 2) 40 ((gi fl 0) - 1 - nI i_1)) - nI (((scanN fl ((gi fl 0) - 1 - nI i_1))))))]) hx hb dX2_passUp_100 rfl hl (by decide) rfl (fun ls hl => ?_)
            refine lv_aload_n hx hb dX2_passUp_101 rfl (lv_at hl 1 rfl) ?_
            refine va_get (D := D) (ci := 2) (v := .ref (ad 23)) (C := RX2) (T := TX2) (N := 3) hx hb hg inGX2 hown hK hP 4 rfl rfl 0 (by decide) (hg _ mw_147) (fun _ h9 => h9) rfl dX2_passUp_102 ?_
            refine lv_iload hx hb dX2_passUp_105 (lv_at hl 4 rfl) ?_
            refine lv_iload hx hb dX2_passUp_107 (lv_at hl 5 rfl) ?_
            refine kV (rSN hx hb hml hown hg hN hK hP hD (c_put l D cI cJ (XW ad cI cJ co fl ra p_1.1 re wa pi) 23 (ad 23) 40 (gA p_1.1 0) ((gi fl 0) - 1 - nI i_1) ((lp (fun j now => ahead co ((rd (gA fl 2) 40 ((gi fl 0) - 1 - nI i_1)) - nI j) now) ((scanN fl ((gi fl 0) - 1 - nI i_1))) (behind fl p_1.1 ((gi fl 0) - 1 - nI i_1)))) rfl (by decide)) mw_92 nw_79 mw_93 mw_77 pd_X7_put ⟨Nat.le_of_ble_eq_true rfl, Nat.le_of_ble_eq_true rfl⟩ rfl hl.1 rfl (Nat.le_of_ble_eq_true rfl) dX2_passUp_109 ⟨Nat.le_of_ble_eq_true rfl, Nat.le_of_ble_eq_true rfl⟩) hD hS hA (fun u_9 H locs hp hP hD hS => ?_)
            obtain rfl := hp.symm
            have hP : va_P D vwCl (XW ad cI cJ co fl ra (sA p_1.1 0 (wr (gA p_1.1 0) 40 ((gi fl 0) - 1 - nI i_1) ((lp (fun j now => ahead co ((rd (gA fl 2) 40 ((gi fl 0) - 1 - nI i_1)) - nI j) now) ((scanN fl ((gi fl 0) - 1 - nI i_1))) (behind fl p_1.1 ((gi fl 0) - 1 - nI i_1)))))) re wa pi) H := hP
            have hD : va_D A (XW ad cI cJ co fl ra (sA p_1.1 0 (wr (gA p_1.1 0) 40 ((gi fl 0) - 1 - nI i_1) ((lp (fun j now => ahead co ((rd (gA fl 2) 40 ((gi fl 0) - 1 - nI i_1)) - nI j) now) ((scanN fl ((gi fl 0) - 1 - nI i_1))) (behind fl p_1.1 ((gi fl 0) - 1 - nI i_1)))))) re wa pi) := hD
            refine lv_iinc (v := ((gi fl 0) - 1 - nI (i_1 + 1))) (lv' := [(4, .int ((gi fl 0) - 1 - nI (i_1 + 1))), (3, .int 0), (0, .ref (ad 4)), (1, .ref (ad 1)), (2, .ref (ad 2)), (5, .int ((lp (fun j now => ahead co ((rd (gA fl 2) 40 ((gi fl 0) - 1 - nI i_1)) - nI j) now) ((scanN fl ((gi fl 0) - 1 - nI i_1))) (behind fl p_1.1 ((gi fl 0) - 1 - nI i_1))))), (6, .int ((rd (gA fl 2) 40 ((gi fl 0) - 1 - nI i_1)) - nI (((scanN fl ((gi fl 0) - 1 - nI i_1))))))]) hx hb dX2_passUp_112 hl (k := 4) rfl (sub_nI1 _ i_1) (by decide) rfl (fun ls hl => ?_)
            refine lv_goto (tgt := 10) hx hb dX2_passUp_115 (by decide) ?_
            exact ih_1 ((sA p_1.1 0 (wr (gA p_1.1 0) 40 ((gi fl 0) - 1 - nI i_1) ((lp (fun j now => ahead co ((rd (gA fl 2) 40 ((gi fl 0) - 1 - nI i_1)) - nI j) now) ((scanN fl ((gi fl 0) - 1 - nI i_1))) (behind fl p_1.1 ((gi fl 0) - 1 - nI i_1)))))), false) H locs ls ⟨((show ((sA p_1.1 0 (wr (gA p_1.1 0) 40 ((gi fl 0) - 1 - nI i_1) ((lp (fun j now => ahead co ((rd (gA fl 2) 40 ((gi fl 0) - 1 - nI i_1)) - nI j) now) ((scanN fl ((gi fl 0) - 1 - nI i_1))) (behind fl p_1.1 ((gi fl 0) - 1 - nI i_1)))))), false) = (passStep co fl) i_1 p_1 from (by first | (simp only [passStep, passB, scan, if_pos c_24, c_24, if_neg c_78, bf_of c_78, if_pos c_92, decide_eq_true c_92, decide_eq_false (not_not_intro c_92), gi_sl, gi_sA, gi_sB, gi_si_s, gi_si_n, gl_si, gl_sA, gl_sB, gl_sl_s, gl_sl_n, gA_si, gA_sl, gA_sB, gA_sA_s, gA_sA_n, gB_si, gB_sl, gB_sA, gB_sB_s, gB_sB_n, Nat.reduceBEq, if_true, if_false, eq_self, Bool.false_eq_true, reduceCtorEq, not_true_eq_false, not_false_eq_true, decide_true, decide_false, cond_true, cond_false, Bool.true_and, Bool.false_and, Bool.and_true, Bool.and_false, Bool.true_or, Bool.false_or, Bool.or_true, Bool.or_false, b2i_tt, b2i_ff]; done) | (simp only [passStep, passB, scan, if_pos c_24, c_24, if_neg c_78, bf_of c_78, if_pos c_92, decide_eq_true c_92, decide_eq_false (not_not_intro c_92), gi_sl, gi_sA, gi_sB, gi_si_s, gi_si_n, gl_si, gl_sA, gl_sB, gl_sl_s, gl_sl_n, gA_si, gA_sl, gA_sB, gA_sA_s, gA_sA_n, gB_si, gB_sl, gB_sA, gB_sB_s, gB_sB_n, Nat.reduceBEq, if_true, if_false, eq_self, Bool.false_eq_true, reduceCtorEq, not_true_eq_false, not_false_eq_true, decide_true, decide_false, cond_true, cond_false, Bool.true_and, Bool.false_and, Bool.and_true, Bool.and_false, Bool.true_or, Bool.false_or, Bool.or_true, Bool.or_false, b2i_tt, b2i_ff]; rfl) | (simp [passStep, passB, scan, c_24, c_78, c_92, gi_sl, gi_sA, gi_sB, gi_si_s, gi_si_n, gl_si, gl_sA, gl_sB, gl_sl_s, gl_sl_n, gA_si, gA_sl, gA_sB, gA_sA_s, gA_sA_n, gB_si, gB_sl, gB_sA, gB_sB_s, gB_sB_n, Nat.reduceBEq]; done))).trans (lp_go h_1)), hP, hD, hS, lv_sub hl [2, 3, 4, 1, 0] rfl⟩
          · refine lv_iconst (v := 1) hx hb dX2_passUp_95 (by decide) ?_
            refine lv_goto (tgt := 100) hx hb dX2_passUp_96 (by decide) ?_
            refine lv_istore_n (lv' := [(3, .int 1), (0, .ref (ad 4)), (1, .ref (ad 1)), (2, .ref (ad 2)), (4, .int ((gi fl 0) - 1 - nI i_1)), (5, .int ((lp (fun j now => ahead co ((rd (gA fl 2) 40 ((gi fl 0) - 1 - nI i_1)) - nI j) now) ((scanN fl ((gi fl 0) - 1 - nI i_1))) (behind fl p_1.1 ((gi fl 0) - 1 - nI i_1))))), (6, .int ((rd (gA fl 2) 40 ((gi fl 0) - 1 - nI i_1)) - nI (((scanN fl ((gi fl 0) - 1 - nI i_1))))))]) hx hb dX2_passUp_100 rfl hl (by decide) rfl (fun ls hl => ?_)
            refine lv_aload_n hx hb dX2_passUp_101 rfl (lv_at hl 1 rfl) ?_
            refine va_get (D := D) (ci := 2) (v := .ref (ad 23)) (C := RX2) (T := TX2) (N := 3) hx hb hg inGX2 hown hK hP 4 rfl rfl 0 (by decide) (hg _ mw_147) (fun _ h9 => h9) rfl dX2_passUp_102 ?_
            refine lv_iload hx hb dX2_passUp_105 (lv_at hl 4 rfl) ?_
            refine lv_iload hx hb dX2_passUp_107 (lv_at hl 5 rfl) ?_
            refine kV (rSN hx hb hml hown hg hN hK hP hD (c_put l D cI cJ (XW ad cI cJ co fl ra p_1.1 re wa pi) 23 (ad 23) 40 (gA p_1.1 0) ((gi fl 0) - 1 - nI i_1) ((lp (fun j now => ahead co ((rd (gA fl 2) 40 ((gi fl 0) - 1 - nI i_1)) - nI j) now) ((scanN fl ((gi fl 0) - 1 - nI i_1))) (behind fl p_1.1 ((gi fl 0) - 1 - nI i_1)))) rfl (by decide)) mw_92 nw_79 mw_93 mw_77 pd_X7_put ⟨Nat.le_of_ble_eq_true rfl, Nat.le_of_ble_eq_true rfl⟩ rfl hl.1 rfl (Nat.le_of_ble_eq_true rfl) dX2_passUp_109 ⟨Nat.le_of_ble_eq_true rfl, Nat.le_of_ble_eq_true rfl⟩) hD hS hA (fun u_10 H locs hp hP hD hS => ?_)
            obtain rfl := hp.symm
            have hP : va_P D vwCl (XW ad cI cJ co fl ra (sA p_1.1 0 (wr (gA p_1.1 0) 40 ((gi fl 0) - 1 - nI i_1) ((lp (fun j now => ahead co ((rd (gA fl 2) 40 ((gi fl 0) - 1 - nI i_1)) - nI j) now) ((scanN fl ((gi fl 0) - 1 - nI i_1))) (behind fl p_1.1 ((gi fl 0) - 1 - nI i_1)))))) re wa pi) H := hP
            have hD : va_D A (XW ad cI cJ co fl ra (sA p_1.1 0 (wr (gA p_1.1 0) 40 ((gi fl 0) - 1 - nI i_1) ((lp (fun j now => ahead co ((rd (gA fl 2) 40 ((gi fl 0) - 1 - nI i_1)) - nI j) now) ((scanN fl ((gi fl 0) - 1 - nI i_1))) (behind fl p_1.1 ((gi fl 0) - 1 - nI i_1)))))) re wa pi) := hD
            refine lv_iinc (v := ((gi fl 0) - 1 - nI (i_1 + 1))) (lv' := [(4, .int ((gi fl 0) - 1 - nI (i_1 + 1))), (3, .int 1), (0, .ref (ad 4)), (1, .ref (ad 1)), (2, .ref (ad 2)), (5, .int ((lp (fun j now => ahead co ((rd (gA fl 2) 40 ((gi fl 0) - 1 - nI i_1)) - nI j) now) ((scanN fl ((gi fl 0) - 1 - nI i_1))) (behind fl p_1.1 ((gi fl 0) - 1 - nI i_1))))), (6, .int ((rd (gA fl 2) 40 ((gi fl 0) - 1 - nI i_1)) - nI (((scanN fl ((gi fl 0) - 1 - nI i_1))))))]) hx hb dX2_passUp_112 hl (k := 4) rfl (sub_nI1 _ i_1) (by decide) rfl (fun ls hl => ?_)
            refine lv_goto (tgt := 10) hx hb dX2_passUp_115 (by decide) ?_
            exact ih_1 ((sA p_1.1 0 (wr (gA p_1.1 0) 40 ((gi fl 0) - 1 - nI i_1) ((lp (fun j now => ahead co ((rd (gA fl 2) 40 ((gi fl 0) - 1 - nI i_1)) - nI j) now) ((scanN fl ((gi fl 0) - 1 - nI i_1))) (behind fl p_1.1 ((gi fl 0) - 1 - nI i_1)))))), true) H locs ls ⟨((show ((sA p_1.1 0 (wr (gA p_1.1 0) 40 ((gi fl 0) - 1 - nI i_1) ((lp (fun j now => ahead co ((rd (gA fl 2) 40 ((gi fl 0) - 1 - nI i_1)) - nI j) now) ((scanN fl ((gi fl 0) - 1 - nI i_1))) (behind fl p_1.1 ((gi fl 0) - 1 - nI i_1)))))), true) = (passStep co fl) i_1 p_1 from (by first | (simp only [passStep, passB, scan, if_pos c_24, c_24, if_neg c_78, bf_of c_78, if_neg c_92, decide_eq_false c_92, decide_eq_true c_92, if_pos c_92, gi_sl, gi_sA, gi_sB, gi_si_s, gi_si_n, gl_si, gl_sA, gl_sB, gl_sl_s, gl_sl_n, gA_si, gA_sl, gA_sB, gA_sA_s, gA_sA_n, gB_si, gB_sl, gB_sA, gB_sB_s, gB_sB_n, Nat.reduceBEq, if_true, if_false, eq_self, Bool.false_eq_true, reduceCtorEq, not_true_eq_false, not_false_eq_true, decide_true, decide_false, cond_true, cond_false, Bool.true_and, Bool.false_and, Bool.and_true, Bool.and_false, Bool.true_or, Bool.false_or, Bool.or_true, Bool.or_false, b2i_tt, b2i_ff]; done) | (simp only [passStep, passB, scan, if_pos c_24, c_24, if_neg c_78, bf_of c_78, if_neg c_92, decide_eq_false c_92, decide_eq_true c_92, if_pos c_92, gi_sl, gi_sA, gi_sB, gi_si_s, gi_si_n, gl_si, gl_sA, gl_sB, gl_sl_s, gl_sl_n, gA_si, gA_sl, gA_sB, gA_sA_s, gA_sA_n, gB_si, gB_sl, gB_sA, gB_sB_s, gB_sB_n, Nat.reduceBEq, if_true, if_false, eq_self, Bool.false_eq_true, reduceCtorEq, not_true_eq_false, not_false_eq_true, decide_true, decide_false, cond_true, cond_false, Bool.true_and, Bool.false_and, Bool.and_true, Bool.and_false, Bool.true_or, Bool.false_or, Bool.or_true, Bool.or_false, b2i_tt, b2i_ff]; rfl) | (simp [passStep, passB, scan, c_24, c_78, c_92, gi_sl, gi_sA, gi_sB, gi_si_s, gi_si_n, gl_si, gl_sA, gl_sB, gl_sl_s, gl_sl_n, gA_si, gA_sl, gA_sB, gA_sA_s, gA_sA_n, gB_si, gB_sl, gB_sA, gB_sB_s, gB_sB_n, Nat.reduceBEq]; done))).trans (lp_go h_1)), hP, hD, hS, lv_sub hl [2, 3, 4, 1, 0] rfl⟩
      · obtain ⟨h_5, hP, hD, hS, hl⟩ := hI
        have hP : va_P D vwCl (XW ad cI cJ co fl ra p_1.1 re wa pi) H := hP
        have hD : va_D A (XW ad cI cJ co fl ra p_1.1 re wa pi) := hD
        have hl : lv_has ls 7 [(0, .ref (ad 4)), (1, .ref (ad 1)), (2, .ref (ad 2)), (3, .int (b2i p_1.2)), (4, .int ((gi fl 0) - 1 - nI i_1)), (5, .int p_5), (6, .int ((rd (gA fl 2) 40 ((gi fl 0) - 1 - nI i_1)) - nI i_5))] := hl
        refine lv_iload hx hb dX2_passUp_47 (lv_at hl 6 rfl) ?_
        refine lv_aload_n hx hb dX2_passUp_49 rfl (lv_at hl 2 rfl) ?_
        refine va_getN (D := D) (ci := 1) (v := .ref (ad 13)) (C := RX1) (T := TX1) (N := 11) hx hb hg inGX1 hown hK hP 2 rfl rfl 1 (by decide) (hN.use nw_13) (fun _ h9 => h9) rfl dX2_passUp_50 ?_
        refine lv_iload hx hb dX2_passUp_53 (lv_at hl 4 rfl) ?_
        refine kI (rSN hx hb hml hown hg hN hK hP hD (c_at l D cI cJ (XW ad cI cJ co fl ra p_1.1 re wa pi) 13 (ad 13) 40 (gA fl 1) ((gi fl 0) - 1 - nI i_1) rfl (by decide)) mw_84 nw_82 mw_85 mw_77 pd_X7_at ⟨Nat.le_of_ble_eq_true rfl, Nat.le_of_ble_eq_true rfl⟩ rfl hl.1 rfl (Nat.le_of_ble_eq_true rfl) dX2_passUp_55 ⟨Nat.le_of_ble_eq_true rfl, Nat.le_of_ble_eq_true rfl⟩) hD hS hA (fun r_11 u_11 H locs hp hP hD hS => ?_)
        obtain ⟨er, eu⟩ := hp
        obtain rfl := er.symm
        obtain rfl := eu.symm
        refine lv_icmp_lt (tgt := 77) hx hb dX2_passUp_58 (by decide) (fun c_58 => absurd c_58 (sc_in (FlowLo.at hlo hi_1) hi_5)) (fun _ => ?_)
        refine lv_aload_n hx hb dX2_passUp_61 rfl (lv_at hl 1 rfl) ?_
        refine lv_iload hx hb dX2_passUp_62 (lv_at hl 6 rfl) ?_
        refine lv_iload hx hb dX2_passUp_64 (lv_at hl 5 rfl) ?_
        refine kI (rS hx hb hml hown hg hN hK hP hD (c_ahead l D cI cJ ad co fl ra p_1.1 re wa pi ((rd (gA fl 2) 40 ((gi fl 0) - 1 - nI i_1)) - nI i_5) p_5) mw_153 mw_154 mw_155 mw_152 pd_X2_ahead ⟨Nat.le_of_ble_eq_true rfl, Nat.le_of_ble_eq_true rfl⟩ rfl hl.1 rfl (Nat.le_of_ble_eq_true rfl) dX2_passUp_66 ⟨Nat.le_of_ble_eq_true rfl, Nat.le_of_ble_eq_true rfl⟩) hD hS hA (fun r_12 u_12 H locs hp hP hD hS => ?_)
        obtain ⟨er, eu⟩ := hp
        obtain rfl := er.symm
        obtain rfl := eu.symm
        refine lv_istore (lv' := [(5, .int (ahead co ((rd (gA fl 2) 40 ((gi fl 0) - 1 - nI i_1)) - nI i_5) p_5)), (0, .ref (ad 4)), (1, .ref (ad 1)), (2, .ref (ad 2)), (3, .int (b2i p_1.2)), (4, .int ((gi fl 0) - 1 - nI i_1)), (6, .int ((rd (gA fl 2) 40 ((gi fl 0) - 1 - nI i_1)) - nI i_5))]) hx hb dX2_passUp_69 hl (by decide) rfl (fun ls hl => ?_)
        refine lv_iinc (v := ((rd (gA fl 2) 40 ((gi fl 0) - 1 - nI i_1)) - nI (i_5 + 1))) (lv' := [(6, .int ((rd (gA fl 2) 40 ((gi fl 0) - 1 - nI i_1)) - nI (i_5 + 1))), (5, .int (ahead co ((rd (gA fl 2) 40 ((gi fl 0) - 1 - nI i_1)) - nI i_5) p_5)), (0, .ref (ad 4)), (1, .ref (ad 1)), (2, .ref (ad 2)), (3, .int (b2i p_1.2)), (4, .int ((gi fl 0) - 1 - nI i_1))]) hx hb dX2_passUp_71 hl (k := 6) rfl (sub_nI1 _ i_5) (by decide) rfl (fun ls hl => ?_)
        refine lv_goto (tgt := 47) hx hb dX2_passUp_74 (by decide) ?_
        exact ih_5 (ahead co ((rd (gA fl 2) 40 ((gi fl 0) - 1 - nI i_1)) - nI i_5) p_5) H locs ls ⟨((show (ahead co ((rd (gA fl 2) 40 ((gi fl 0) - 1 - nI i_1)) - nI i_5) p_5) = (fun j now => ahead co ((rd (gA fl 2) 40 ((gi fl 0) - 1 - nI i_1)) - nI j) now) i_5 p_5 from (by first | (simp only [if_pos c_24, c_24, gi_sl, gi_sA, gi_sB, gi_si_s, gi_si_n, gl_si, gl_sA, gl_sB, gl_sl_s, gl_sl_n, gA_si, gA_sl, gA_sB, gA_sA_s, gA_sA_n, gB_si, gB_sl, gB_sA, gB_sB_s, gB_sB_n, Nat.reduceBEq, if_true, if_false, eq_self, Bool.false_eq_true, reduceCtorEq, not_true_eq_false, not_false_eq_true, decide_true, decide_false, cond_true, cond_false, Bool.true_and, Bool.false_and, Bool.and_true, Bool.and_false, Bool.true_or, Bool.false_or, Bool.or_true, Bool.or_false, b2i_tt, b2i_ff]; done) | (simp only [if_pos c_24, c_24, gi_sl, gi_sA, gi_sB, gi_si_s, gi_si_n, gl_si, gl_sA, gl_sB, gl_sl_s, gl_sl_n, gA_si, gA_sl, gA_sB, gA_sA_s, gA_sA_n, gB_si, gB_sl, gB_sA, gB_sB_s, gB_sB_n, Nat.reduceBEq, if_true, if_false, eq_self, Bool.false_eq_true, reduceCtorEq, not_true_eq_false, not_false_eq_true, decide_true, decide_false, cond_true, cond_false, Bool.true_and, Bool.false_and, Bool.and_true, Bool.and_false, Bool.true_or, Bool.false_or, Bool.or_true, Bool.or_false, b2i_tt, b2i_ff]; rfl) | (simp [c_24, gi_sl, gi_sA, gi_sB, gi_si_s, gi_si_n, gl_si, gl_sA, gl_sB, gl_sl_s, gl_sl_n, gA_si, gA_sl, gA_sB, gA_sA_s, gA_sA_n, gB_si, gB_sl, gB_sA, gB_sB_s, gB_sB_n, Nat.reduceBEq]; done))).trans (lp_go h_5)), hP, hD, hS, lv_sub hl [2, 3, 4, 5, 6, 1, 0] rfl⟩
set_option maxHeartbeats 4000000 in
set_option maxRecDepth 100000 in
theorem c_vainIn (l : Launch) (D : va_G) (cI cJ : ClassId) (ad : Nat → Nat) (co fl ra li re wa pi : Ob) (k1 : Int32) (hfb : ¬ rd (gA fl 1) 40 k1 < 0) : CT l D (TY cI cJ) yX2_vainIn (.code yX2_vainIn cX2_vainIn 8 (some Jvm.ClassFile.FieldType.int)) 2 0 0 (XW ad cI cJ co fl ra li re wa pi) [.ref (ad 4), .ref (ad 1), .ref (ad 2), .int k1] (QI D (TY cI cJ) (fun r u => r = (vainIn co fl li k1) ∧ u = (XW ad cI cJ co fl ra li re wa pi))) := by
  refine ent (by decide) (Nat.le_of_ble_eq_true rfl) ?_
  intro p e s m below meth c ls A hx hb hr hg hown hml hlocks hnm hP hK hD hS hA hN hl
  have hl : lv_has ls 8 [(0, .ref (ad 4)), (1, .ref (ad 1)), (2, .ref (ad 2)), (3, .int k1)] := hl
  refine lv_iconst (v := 0) hx hb dX2_vainIn_0 (by decide) ?_
  refine lv_istore (lv' := [(4, .int 0), (0, .ref (ad 4)), (1, .ref (ad 1)), (2, .ref (ad 2)), (3, .int k1)]) hx hb dX2_vainIn_1 hl (by decide) rfl (fun ls hl => ?_)
  refine lv_aload_n hx hb dX2_vainIn_3 rfl (lv_at hl 1 rfl) ?_
  refine lv_aload_n hx hb dX2_vainIn_4 rfl (lv_at hl 3 rfl) ?_
  refine lv_iload_n hx hb dX2_vainIn_5 rfl (lv_at hl 4 rfl) ?_
  refine kI (rV (q0 := 4) (ci := 2) hx hb hml hown hg hN hK hP hD (c_behind l D cI cJ ad co fl ra li re wa pi k1) mw_148 mw_149 mw_150 mw_151 mw_152 pdv_X2_behind ⟨Nat.le_of_ble_eq_true rfl, Nat.le_of_ble_eq_true rfl⟩ rfl rfl rfl hl.1 rfl (Nat.le_of_ble_eq_true rfl) dX2_vainIn_6 ⟨Nat.le_of_ble_eq_true rfl, Nat.le_of_ble_eq_true rfl⟩) hD hS hA (fun r_1 u_1 H locs hp hP hD hS => ?_)
  obtain ⟨er, eu⟩ := hp
  obtain rfl := er.symm
  obtain rfl := eu.symm
  refine lv_istore (lv' := [(5, .int (behind fl li k1)), (4, .int 0), (0, .ref (ad 4)), (1, .ref (ad 1)), (2, .ref (ad 2)), (3, .int k1)]) hx hb dX2_vainIn_9 hl (by decide) rfl (fun ls hl => ?_)
  refine lv_aload_n hx hb dX2_vainIn_11 rfl (lv_at hl 4 rfl) ?_
  refine va_getN (D := D) (ci := 1) (v := .ref (ad 14)) (C := RX1) (T := TX1) (N := 11) hx hb hg inGX1 hown hK hP 2 rfl rfl 2 (by decide) (hN.use nw_15) (fun _ h9 => h9) rfl dX2_vainIn_12 ?_
  refine lv_iload_n hx hb dX2_vainIn_15 rfl (lv_at hl 5 rfl) ?_
  refine kI (rSN hx hb hml hown hg hN hK hP hD (c_at l D cI cJ (XW ad cI cJ co fl ra li re wa pi) 14 (ad 14) 40 (gA fl 2) k1 rfl (by decide)) mw_84 nw_82 mw_85 mw_77 pd_X7_at ⟨Nat.le_of_ble_eq_true rfl, Nat.le_of_ble_eq_true rfl⟩ rfl hl.1 rfl (Nat.le_of_ble_eq_true rfl) dX2_vainIn_16 ⟨Nat.le_of_ble_eq_true rfl, Nat.le_of_ble_eq_true rfl⟩) hD hS hA (fun r_2 u_2 H locs hp hP hD hS => ?_)
  obtain ⟨er, eu⟩ := hp
  obtain rfl := er.symm
  obtain rfl := eu.symm
  refine lv_istore (lv' := [(6, .int (rd (gA fl 2) 40 k1)), (5, .int (behind fl li k1)), (4, .int 0), (0, .ref (ad 4)), (1, .ref (ad 1)), (2, .ref (ad 2)), (3, .int k1)]) hx hb dX2_vainIn_19 hl (by decide) rfl (fun ls hl => ?_)
  refine w_loop (σ := Int32 × Int32) (fun (i_3 : Nat) (p_3 : Int32 × Int32) (H : Heap) (locs : List Loc) (ls : Array Slot) => p_3 = (lp (vainStep co fl k1) i_3 (0, (behind fl li k1))) ∧ va_P D vwCl (XW ad cI cJ co fl ra li re wa pi) H ∧ va_D A (XW ad cI cJ co fl ra li re wa pi) ∧ va_S A s.heap H locs ∧ lv_has ls 8 [(0, .ref (ad 4)), (1, .ref (ad 1)), (2, .ref (ad 2)), (3, .int k1), (4, .int p_3.1), (5, .int p_3.2), (6, .int ((rd (gA fl 2) 40 k1) - nI i_3))]) ((scanN fl k1)) (fun p_3 H locs ls hI => ?_) (fun i_3 p_3 H locs ls hi_3 hI ih_3 => ?_) 0 (0, (behind fl li k1)) (Nat.zero_le _) ⟨rfl, hP, hD, hS, (by rw [sub_nI0]; exact lv_sub hl [3, 4, 5, 6, 2, 1, 0] rfl)⟩
  · obtain ⟨h_3, hP, hD, hS, hl⟩ := hI
    have h_3 := h_3.symm
    subst h_3
    have hP : va_P D vwCl (XW ad cI cJ co fl ra li re wa pi) H := hP
    have hD : va_D A (XW ad cI cJ co fl ra li re wa pi) := hD
    have hl : lv_has ls 8 [(0, .ref (ad 4)), (1, .ref (ad 1)), (2, .ref (ad 2)), (3, .int k1), (4, .int ((lp (vainStep co fl k1) ((scanN fl k1)) (0, (behind fl li k1))).1)), (5, .int ((lp (vainStep co fl k1) ((scanN fl k1)) (0, (behind fl li k1))).2)), (6, .int ((rd (gA fl 2) 40 k1) - nI (((scanN fl k1)))))] := hl
    refine lv_iload hx hb dX2_vainIn_21 (lv_at hl 6 rfl) ?_
    refine lv_aload_n hx hb dX2_vainIn_23 rfl (lv_at hl 2 rfl) ?_
    refine va_getN (D := D) (ci := 1) (v := .ref (ad 13)) (C := RX1) (T := TX1) (N := 11) hx hb hg inGX1 hown hK hP 2 rfl rfl 1 (by decide) (hN.use nw_13) (fun _ h9 => h9) rfl dX2_vainIn_24 ?_
    refine lv_iload_n hx hb dX2_vainIn_27 rfl (lv_at hl 3 rfl) ?_
    refine kI (rSN hx hb hml hown hg hN hK hP hD (c_at l D cI cJ (XW ad cI cJ co fl ra li re wa pi) 13 (ad 13) 40 (gA fl 1) k1 rfl (by decide)) mw_84 nw_82 mw_85 mw_77 pd_X7_at ⟨Nat.le_of_ble_eq_true rfl, Nat.le_of_ble_eq_true rfl⟩ rfl hl.1 rfl (Nat.le_of_ble_eq_true rfl) dX2_vainIn_28 ⟨Nat.le_of_ble_eq_true rfl, Nat.le_of_ble_eq_true rfl⟩) hD hS hA (fun r_4 u_4 H locs hp hP hD hS => ?_)
    obtain ⟨er, eu⟩ := hp
    obtain rfl := er.symm
    obtain rfl := eu.symm
    refine lv_icmp_lt (tgt := 80) hx hb dX2_vainIn_31 (by decide) (fun _ => ?_) (fun c_31 => absurd (sc_out hfb) c_31)
    refine lv_iload hx hb dX2_vainIn_80 (lv_at hl 4 rfl) ?_
    exact W.iret (v := ((lp (vainStep co fl k1) ((scanN fl k1)) (0, (behind fl li k1))).1)) hx hb hr (fun t ht hW => ⟨⟨((lp (vainStep co fl k1) ((scanN fl k1)) (0, (behind fl li k1))).1), (XW ad cI cJ co fl ra li re wa pi), rfl, ⟨(show (((lp (vainStep co fl k1) ((scanN fl k1)) (0, (behind fl li k1))).1) : Int32) = (vainIn co fl li k1) from (by first | with_reducible rfl | (simp only [vainIn, gi_sl, gi_sA, gi_sB, gi_si_s, gi_si_n, gl_si, gl_sA, gl_sB, gl_sl_s, gl_sl_n, gA_si, gA_sl, gA_sB, gA_sA_s, gA_sA_n, gB_si, gB_sl, gB_sA, gB_sB_s, gB_sB_n, Nat.reduceBEq, if_true, if_false, eq_self, Bool.false_eq_true, reduceCtorEq, not_true_eq_false, not_false_eq_true, decide_true, decide_false, cond_true, cond_false, Bool.true_and, Bool.false_and, Bool.and_true, Bool.and_false, Bool.true_or, Bool.false_or, Bool.or_true, Bool.or_false, b2i_tt, b2i_ff]; done) | rfl)), xw_eq rfl rfl rfl rfl rfl rfl rfl⟩, ⟨by rw [ht]; exact hP, va_K.moved hW.alike hK, hD⟩⟩, hS.F ht⟩) hS.2.2 dX2_vainIn_82
  · obtain ⟨h_3, hP, hD, hS, hl⟩ := hI
    have hP : va_P D vwCl (XW ad cI cJ co fl ra li re wa pi) H := hP
    have hD : va_D A (XW ad cI cJ co fl ra li re wa pi) := hD
    have hl : lv_has ls 8 [(0, .ref (ad 4)), (1, .ref (ad 1)), (2, .ref (ad 2)), (3, .int k1), (4, .int p_3.1), (5, .int p_3.2), (6, .int ((rd (gA fl 2) 40 k1) - nI i_3))] := hl
    refine lv_iload hx hb dX2_vainIn_21 (lv_at hl 6 rfl) ?_
    refine lv_aload_n hx hb dX2_vainIn_23 rfl (lv_at hl 2 rfl) ?_
    refine va_getN (D := D) (ci := 1) (v := .ref (ad 13)) (C := RX1) (T := TX1) (N := 11) hx hb hg inGX1 hown hK hP 2 rfl rfl 1 (by decide) (hN.use nw_13) (fun _ h9 => h9) rfl dX2_vainIn_24 ?_
    refine lv_iload_n hx hb dX2_vainIn_27 rfl (lv_at hl 3 rfl) ?_
    refine kI (rSN hx hb hml hown hg hN hK hP hD (c_at l D cI cJ (XW ad cI cJ co fl ra li re wa pi) 13 (ad 13) 40 (gA fl 1) k1 rfl (by decide)) mw_84 nw_82 mw_85 mw_77 pd_X7_at ⟨Nat.le_of_ble_eq_true rfl, Nat.le_of_ble_eq_true rfl⟩ rfl hl.1 rfl (Nat.le_of_ble_eq_true rfl) dX2_vainIn_28 ⟨Nat.le_of_ble_eq_true rfl, Nat.le_of_ble_eq_true rfl⟩) hD hS hA (fun r_5 u_5 H locs hp hP hD hS => ?_)
    obtain ⟨er, eu⟩ := hp
    obtain rfl := er.symm
    obtain rfl := eu.symm
    refine lv_icmp_lt (tgt := 80) hx hb dX2_vainIn_31 (by decide) (fun c_31 => absurd c_31 (sc_in hfb hi_3)) (fun _ => ?_)
    refine lv_aload_n hx hb dX2_vainIn_34 rfl (lv_at hl 1 rfl) ?_
    refine va_getN (D := D) (ci := 0) (v := .ref (ad 10)) (C := RX0) (T := TX0) (N := 5) hx hb hg inGX0 hown hK hP 1 rfl rfl 2 (by decide) (hN.use nw_5) (fun _ h9 => h9) rfl dX2_vainIn_35 ?_
    refine lv_iload hx hb dX2_vainIn_38 (lv_at hl 6 rfl) ?_
    refine kI (rSN hx hb hml hown hg hN hK hP hD (c_at l D cI cJ (XW ad cI cJ co fl ra li re wa pi) 10 (ad 10) 40 (gA co 2) ((rd (gA fl 2) 40 k1) - nI i_3) rfl (by decide)) mw_84 nw_82 mw_85 mw_77 pd_X7_at ⟨Nat.le_of_ble_eq_true rfl, Nat.le_of_ble_eq_true rfl⟩ rfl hl.1 rfl (Nat.le_of_ble_eq_true rfl) dX2_vainIn_40 ⟨Nat.le_of_ble_eq_true rfl, Nat.le_of_ble_eq_true rfl⟩) hD hS hA (fun r_6 u_6 H locs hp hP hD hS => ?_)
    obtain ⟨er, eu⟩ := hp
    obtain rfl := er.symm
    obtain rfl := eu.symm
    refine lv_istore (lv' := [(7, .int (rd (gA co 2) 40 ((rd (gA fl 2) 40 k1) - nI i_3))), (0, .ref (ad 4)), (1, .ref (ad 1)), (2, .ref (ad 2)), (3, .int k1), (4, .int p_3.1), (5, .int p_3.2), (6, .int ((rd (gA fl 2) 40 k1) - nI i_3))]) hx hb dX2_vainIn_43 hl (by decide) rfl (fun ls hl => ?_)
    refine lv_iload hx hb dX2_vainIn_45 (lv_at hl 0 rfl) ?_
    refine lv_if_lt (tgt := 64) hx hb dX2_vainIn_47 (by decide) (fun c_47 => ?_) (fun c_47 => ?_)
    · refine lv_aload_n hx hb dX2_vainIn_64 rfl (lv_at hl 2 rfl) ?_
      refine lv_iload hx hb dX2_vainIn_65 (lv_at hl 7 rfl) ?_
      refine lv_iload hx hb dX2_vainIn_67 (lv_at hl 6 rfl) ?_
      refine kI (rS hx hb hml hown hg hN hK hP hD (c_ahead l D cI cJ ad co fl ra li re wa pi ((rd (gA fl 2) 40 k1) - nI i_3) p_3.2) mw_153 mw_154 mw_155 mw_152 pd_X2_ahead ⟨Nat.le_of_ble_eq_true rfl, Nat.le_of_ble_eq_true rfl⟩ rfl hl.1 rfl (Nat.le_of_ble_eq_true rfl) dX2_vainIn_69 ⟨Nat.le_of_ble_eq_true rfl, Nat.le_of_ble_eq_true rfl⟩) hD hS hA (fun r_7 u_7 H locs hp hP hD hS => ?_)
      obtain ⟨er, eu⟩ := hp
      obtain rfl := er.symm
      obtain rfl := eu.symm
      refine lv_istore (lv' := [(5, .int (ahead co ((rd (gA fl 2) 40 k1) - nI i_3) p_3.2)), (7, .int (rd (gA co 2) 40 ((rd (gA fl 2) 40 k1) - nI i_3))), (0, .ref (ad 4)), (1, .ref (ad 1)), (2, .ref (ad 2)), (3, .int k1), (4, .int p_3.1), (6, .int ((rd (gA fl 2) 40 k1) - nI i_3))]) hx hb dX2_vainIn_72 hl (by decide) rfl (fun ls hl => ?_)
      refine lv_iinc (v := ((rd (gA fl 2) 40 k1) - nI (i_3 + 1))) (lv' := [(6, .int ((rd (gA fl 2) 40 k1) - nI (i_3 + 1))), (5, .int (ahead co ((rd (gA fl 2) 40 k1) - nI i_3) p_3.2)), (7, .int (rd (gA co 2) 40 ((rd (gA fl 2) 40 k1) - nI i_3))), (0, .ref (ad 4)), (1, .ref (ad 1)), (2, .ref (ad 2)), (3, .int k1), (4, .int p_3.1)]) hx hb dX2_vainIn_74 hl (k := 7) rfl (sub_nI1 _ i_3) (by decide) rfl (fun ls hl => ?_)
      refine lv_goto (tgt := 21) hx hb dX2_vainIn_77 (by decide) ?_
      exact ih_3 (p_3.1, (ahead co ((rd (gA fl 2) 40 k1) - nI i_3) p_3.2)) H locs ls ⟨((show (p_3.1, (ahead co ((rd (gA fl 2) 40 k1) - nI i_3) p_3.2)) = (vainStep co fl k1) i_3 p_3 from (by first | (simp only [vainStep, if_pos c_47, decide_eq_true c_47, decide_eq_false (not_not_intro c_47), gi_sl, gi_sA, gi_sB, gi_si_s, gi_si_n, gl_si, gl_sA, gl_sB, gl_sl_s, gl_sl_n, gA_si, gA_sl, gA_sB, gA_sA_s, gA_sA_n, gB_si, gB_sl, gB_sA, gB_sB_s, gB_sB_n, Nat.reduceBEq, if_true, if_false, eq_self, Bool.false_eq_true, reduceCtorEq, not_true_eq_false, not_false_eq_true, decide_true, decide_false, cond_true, cond_false, Bool.true_and, Bool.false_and, Bool.and_true, Bool.and_false, Bool.true_or, Bool.false_or, Bool.or_true, Bool.or_false, b2i_tt, b2i_ff]; done) | (simp only [vainStep, if_pos c_47, decide_eq_true c_47, decide_eq_false (not_not_intro c_47), gi_sl, gi_sA, gi_sB, gi_si_s, gi_si_n, gl_si, gl_sA, gl_sB, gl_sl_s, gl_sl_n, gA_si, gA_sl, gA_sB, gA_sA_s, gA_sA_n, gB_si, gB_sl, gB_sA, gB_sB_s, gB_sB_n, Nat.reduceBEq, if_true, if_false, eq_self, Bool.false_eq_true, reduceCtorEq, not_true_eq_false, not_false_eq_true, decide_true, decide_false, cond_true, cond_false, Bool.true_and, Bool.false_and, Bool.and_true, Bool.and_false, Bool.true_or, Bool.false_or, Bool.or_true, Bool.or_false, b2i_tt, b2i_ff]; rfl) | (simp [vainStep, c_47, gi_sl, gi_sA, gi_sB, gi_si_s, gi_si_n, gl_si, gl_sA, gl_sB, gl_sl_s, gl_sl_n, gA_si, gA_sl, gA_sB, gA_sA_s, gA_sA_n, gB_si, gB_sl, gB_sA, gB_sB_s, gB_sB_n, Nat.reduceBEq]; done))).trans (lp_go h_3)), hP, hD, hS, lv_sub hl [3, 4, 5, 6, 7, 1, 0] rfl⟩
    · refine lv_iload hx hb dX2_vainIn_50 (lv_at hl 6 rfl) ?_
      refine lv_i2l hx hb dX2_vainIn_52 rfl ?_
      refine lv_iload hx hb dX2_vainIn_53 (lv_at hl 0 rfl) ?_
      refine kI (rSN hx hb hml hown hg hN hK hP hD (c_has l D cI cJ (XW ad cI cJ co fl ra li re wa pi) p_3.2.toInt64 (rd (gA co 2) 40 ((rd (gA fl 2) 40 k1) - nI i_3))) mw_89 nw_80 mw_90 mw_77 pd_X7_has ⟨Nat.le_of_ble_eq_true rfl, Nat.le_of_ble_eq_true rfl⟩ rfl hl.1 rfl (Nat.le_of_ble_eq_true rfl) dX2_vainIn_55 ⟨Nat.le_of_ble_eq_true rfl, Nat.le_of_ble_eq_true rfl⟩) hD hS hA (fun r_8 u_8 H locs hp hP hD hS => ?_)
      obtain ⟨er, eu⟩ := hp
      obtain rfl := er.symm
      obtain rfl := eu.symm
      refine lv_if_ne (tgt := 64) hx hb dX2_vainIn_58 (by decide) (fun c_58 => ?_) (fun c_58 => ?_)
      · have c_58 : (hs p_3.2.toInt64 (rd (gA co 2) 40 ((rd (gA fl 2) 40 k1) - nI i_3))) = true := b2i_1 c_58
        refine lv_aload_n hx hb dX2_vainIn_64 rfl (lv_at hl 2 rfl) ?_
        refine lv_iload hx hb dX2_vainIn_65 (lv_at hl 7 rfl) ?_
        refine lv_iload hx hb dX2_vainIn_67 (lv_at hl 6 rfl) ?_
        refine kI (rS hx hb hml hown hg hN hK hP hD (c_ahead l D cI cJ ad co fl ra li re wa pi ((rd (gA fl 2) 40 k1) - nI i_3) p_3.2) mw_153 mw_154 mw_155 mw_152 pd_X2_ahead ⟨Nat.le_of_ble_eq_true rfl, Nat.le_of_ble_eq_true rfl⟩ rfl hl.1 rfl (Nat.le_of_ble_eq_true rfl) dX2_vainIn_69 ⟨Nat.le_of_ble_eq_true rfl, Nat.le_of_ble_eq_true rfl⟩) hD hS hA (fun r_9 u_9 H locs hp hP hD hS => ?_)
        obtain ⟨er, eu⟩ := hp
        obtain rfl := er.symm
        obtain rfl := eu.symm
        refine lv_istore (lv' := [(5, .int (ahead co ((rd (gA fl 2) 40 k1) - nI i_3) p_3.2)), (7, .int (rd (gA co 2) 40 ((rd (gA fl 2) 40 k1) - nI i_3))), (0, .ref (ad 4)), (1, .ref (ad 1)), (2, .ref (ad 2)), (3, .int k1), (4, .int p_3.1), (6, .int ((rd (gA fl 2) 40 k1) - nI i_3))]) hx hb dX2_vainIn_72 hl (by decide) rfl (fun ls hl => ?_)
        refine lv_iinc (v := ((rd (gA fl 2) 40 k1) - nI (i_3 + 1))) (lv' := [(6, .int ((rd (gA fl 2) 40 k1) - nI (i_3 + 1))), (5, .int (ahead co ((rd (gA fl 2) 40 k1) - nI i_3) p_3.2)), (7, .int (rd (gA co 2) 40 ((rd (gA fl 2) 40 k1) - nI i_3))), (0, .ref (ad 4)), (1, .ref (ad 1)), (2, .ref (ad 2)), (3, .int k1), (4, .int p_3.1)]) hx hb dX2_vainIn_74 hl (k := 7) rfl (sub_nI1 _ i_3) (by decide) rfl (fun ls hl => ?_)
        refine lv_goto (tgt := 21) hx hb dX2_vainIn_77 (by decide) ?_
        exact ih_3 (p_3.1, (ahead co ((rd (gA fl 2) 40 k1) - nI i_3) p_3.2)) H locs ls ⟨((show (p_3.1, (ahead co ((rd (gA fl 2) 40 k1) - nI i_3) p_3.2)) = (vainStep co fl k1) i_3 p_3 from (by first | (simp only [vainStep, if_neg c_47, decide_eq_false c_47, decide_eq_true c_47, if_pos c_47, if_pos c_58, c_58, gi_sl, gi_sA, gi_sB, gi_si_s, gi_si_n, gl_si, gl_sA, gl_sB, gl_sl_s, gl_sl_n, gA_si, gA_sl, gA_sB, gA_sA_s, gA_sA_n, gB_si, gB_sl, gB_sA, gB_sB_s, gB_sB_n, Nat.reduceBEq, if_true, if_false, eq_self, Bool.false_eq_true, reduceCtorEq, not_true_eq_false, not_false_eq_true, decide_true, decide_false, cond_true, cond_false, Bool.true_and, Bool.false_and, Bool.and_true, Bool.and_false, Bool.true_or, Bool.false_or, Bool.or_true, Bool.or_false, b2i_tt, b2i_ff]; done) | (simp only [vainStep, if_neg c_47, decide_eq_false c_47, decide_eq_true c_47, if_pos c_47, if_pos c_58, c_58, gi_sl, gi_sA, gi_sB, gi_si_s, gi_si_n, gl_si, gl_sA, gl_sB, gl_sl_s, gl_sl_n, gA_si, gA_sl, gA_sB, gA_sA_s, gA_sA_n, gB_si, gB_sl, gB_sA, gB_sB_s, gB_sB_n, Nat.reduceBEq, if_true, if_false, eq_self, Bool.false_eq_true, reduceCtorEq, not_true_eq_false, not_false_eq_true, decide_true, decide_false, cond_true, cond_false, Bool.true_and, Bool.false_and, Bool.and_true, Bool.and_false, Bool.true_or, Bool.false_or, Bool.or_true, Bool.or_false, b2i_tt, b2i_ff]; rfl) | (simp [vainStep, c_47, c_58, gi_sl, gi_sA, gi_sB, gi_si_s, gi_si_n, gl_si, gl_sA, gl_sB, gl_sl_s, gl_sl_n, gA_si, gA_sl, gA_sB, gA_sA_s, gA_sA_n, gB_si, gB_sl, gB_sA, gB_sB_s, gB_sB_n, Nat.reduceBEq]; done))).trans (lp_go h_3)), hP, hD, hS, lv_sub hl [3, 4, 5, 6, 7, 1, 0] rfl⟩
      · have c_58 : ¬ (hs p_3.2.toInt64 (rd (gA co 2) 40 ((rd (gA fl 2) 40 k1) - nI i_3))) = true := b2i_0 c_58
        refine lv_iinc (v := (p_3.1 + 1)) (lv' := [(4, .int (p_3.1 + 1)), (7, .int (rd (gA co 2) 40 ((rd (gA fl 2) 40 k1) - nI i_3))), (0, .ref (ad 4)), (1, .ref (ad 1)), (2, .ref (ad 2)), (3, .int k1), (5, .int p_3.2), (6, .int ((rd (gA fl 2) 40 k1) - nI i_3))]) hx hb dX2_vainIn_61 hl (k := 5) rfl rfl (by decide) rfl (fun ls hl => ?_)
        refine lv_aload_n hx hb dX2_vainIn_64 rfl (lv_at hl 3 rfl) ?_
        refine lv_iload hx hb dX2_vainIn_65 (lv_at hl 7 rfl) ?_
        refine lv_iload hx hb dX2_vainIn_67 (lv_at hl 6 rfl) ?_
        refine kI (rS hx hb hml hown hg hN hK hP hD (c_ahead l D cI cJ ad co fl ra li re wa pi ((rd (gA fl 2) 40 k1) - nI i_3) p_3.2) mw_153 mw_154 mw_155 mw_152 pd_X2_ahead ⟨Nat.le_of_ble_eq_true rfl, Nat.le_of_ble_eq_true rfl⟩ rfl hl.1 rfl (Nat.le_of_ble_eq_true rfl) dX2_vainIn_69 ⟨Nat.le_of_ble_eq_true rfl, Nat.le_of_ble_eq_true rfl⟩) hD hS hA (fun r_10 u_10 H locs hp hP hD hS => ?_)
        obtain ⟨er, eu⟩ := hp
        obtain rfl := er.symm
        obtain rfl := eu.symm
        refine lv_istore (lv' := [(5, .int (ahead co ((rd (gA fl 2) 40 k1) - nI i_3) p_3.2)), (4, .int (p_3.1 + 1)), (7, .int (rd (gA co 2) 40 ((rd (gA fl 2) 40 k1) - nI i_3))), (0, .ref (ad 4)), (1, .ref (ad 1)), (2, .ref (ad 2)), (3, .int k1), (6, .int ((rd (gA fl 2) 40 k1) - nI i_3))]) hx hb dX2_vainIn_72 hl (by decide) rfl (fun ls hl => ?_)
        refine lv_iinc (v := ((rd (gA fl 2) 40 k1) - nI (i_3 + 1))) (lv' := [(6, .int ((rd (gA fl 2) 40 k1) - nI (i_3 + 1))), (5, .int (ahead co ((rd (gA fl 2) 40 k1) - nI i_3) p_3.2)), (4, .int (p_3.1 + 1)), (7, .int (rd (gA co 2) 40 ((rd (gA fl 2) 40 k1) - nI i_3))), (0, .ref (ad 4)), (1, .ref (ad 1)), (2, .ref (ad 2)), (3, .int k1)]) hx hb dX2_vainIn_74 hl (k := 7) rfl (sub_nI1 _ i_3) (by decide) rfl (fun ls hl => ?_)
        refine lv_goto (tgt := 21) hx hb dX2_vainIn_77 (by decide) ?_
        exact ih_3 ((p_3.1 + 1), (ahead co ((rd (gA fl 2) 40 k1) - nI i_3) p_3.2)) H locs ls ⟨((show ((p_3.1 + 1), (ahead co ((rd (gA fl 2) 40 k1) - nI i_3) p_3.2)) = (vainStep co fl k1) i_3 p_3 from (by first | (simp only [vainStep, if_neg c_47, decide_eq_false c_47, decide_eq_true c_47, if_pos c_47, if_neg c_58, bf_of c_58, gi_sl, gi_sA, gi_sB, gi_si_s, gi_si_n, gl_si, gl_sA, gl_sB, gl_sl_s, gl_sl_n, gA_si, gA_sl, gA_sB, gA_sA_s, gA_sA_n, gB_si, gB_sl, gB_sA, gB_sB_s, gB_sB_n, Nat.reduceBEq, if_true, if_false, eq_self, Bool.false_eq_true, reduceCtorEq, not_true_eq_false, not_false_eq_true, decide_true, decide_false, cond_true, cond_false, Bool.true_and, Bool.false_and, Bool.and_true, Bool.and_false, Bool.true_or, Bool.false_or, Bool.or_true, Bool.or_false, b2i_tt, b2i_ff]; done) | (simp only [vainStep, if_neg c_47, decide_eq_false c_47, decide_eq_true c_47, if_pos c_47, if_neg c_58, bf_of c_58, gi_sl, gi_sA, gi_sB, gi_si_s, gi_si_n, gl_si, gl_sA, gl_sB, gl_sl_s, gl_sl_n, gA_si, gA_sl, gA_sB, gA_sA_s, gA_sA_n, gB_si, gB_sl, gB_sA, gB_sB_s, gB_sB_n, Nat.reduceBEq, if_true, if_false, eq_self, Bool.false_eq_true, reduceCtorEq, not_true_eq_false, not_false_eq_true, decide_true, decide_false, cond_true, cond_false, Bool.true_and, Bool.false_and, Bool.and_true, Bool.and_false, Bool.true_or, Bool.false_or, Bool.or_true, Bool.or_false, b2i_tt, b2i_ff]; rfl) | (simp [vainStep, c_47, c_58, gi_sl, gi_sA, gi_sB, gi_si_s, gi_si_n, gl_si, gl_sA, gl_sB, gl_sl_s, gl_sl_n, gA_si, gA_sl, gA_sB, gA_sA_s, gA_sA_n, gB_si, gB_sl, gB_sA, gB_sB_s, gB_sB_n, Nat.reduceBEq]; done))).trans (lp_go h_3)), hP, hD, hS, lv_sub hl [4, 5, 6, 7, 2, 1, 0] rfl⟩
set_option maxHeartbeats 4000000 in
set_option maxRecDepth 100000 in
theorem c_follow (l : Launch) (D : va_G) (cI cJ : ClassId) (ad : Nat → Nat) (co fl ra li re wa pi : Ob) (hlo : FlowLo fl) : CT l D (TY cI cJ) yX2_follow (.code yX2_follow cX2_follow 5 (none : Option FieldType)) 3 0 0 (XW ad cI cJ co fl ra li re wa pi) [.ref (ad 4), .ref (ad 1), .ref (ad 2)] (QV D (TY cI cJ) (fun u => u = (XW ad cI cJ co fl ra (follow co fl li) re wa pi))) := by
  refine ent (by decide) (Nat.le_of_ble_eq_true rfl) ?_
  intro p e s m below meth c ls A hx hb hr hg hown hml hlocks hnm hP hK hD hS hA hN hl
  have hl : lv_has ls 5 [(0, .ref (ad 4)), (1, .ref (ad 1)), (2, .ref (ad 2))] := hl
  refine lv_iconst (v := 0) hx hb dX2_follow_0 (by decide) ?_
  refine lv_istore_n (lv' := [(3, .int 0), (0, .ref (ad 4)), (1, .ref (ad 1)), (2, .ref (ad 2))]) hx hb dX2_follow_1 rfl hl (by decide) rfl (fun ls hl => ?_)
  refine w_loop (σ := Ob) (fun (i_1 : Nat) (p_1 : Ob) (H : Heap) (locs : List Loc) (ls : Array Slot) => p_1 = (lp liInit i_1 li) ∧ va_P D vwCl (XW ad cI cJ co fl ra p_1 re wa pi) H ∧ va_D A (XW ad cI cJ co fl ra p_1 re wa pi) ∧ va_S A s.heap H locs ∧ lv_has ls 5 [(0, .ref (ad 4)), (1, .ref (ad 1)), (2, .ref (ad 2)), (3, .int (nI i_1))]) (40) (fun p_1 H locs ls hI => ?_) (fun i_1 p_1 H locs ls hi_1 hI ih_1 => ?_) 0 li (Nat.zero_le _) ⟨rfl, hP, hD, hS, (by rw [nI_0]; exact lv_sub hl [1, 2, 3, 0] rfl)⟩
  · obtain ⟨h_1, hP, hD, hS, hl⟩ := hI
    have h_1 := h_1.symm
    subst h_1
    have hP : va_P D vwCl (XW ad cI cJ co fl ra ((lp liInit (40) li)) re wa pi) H := hP
    have hD : va_D A (XW ad cI cJ co fl ra ((lp liInit (40) li)) re wa pi) := hD
    have hl : lv_has ls 5 [(0, .ref (ad 4)), (1, .ref (ad 1)), (2, .ref (ad 2)), (3, .int (nI 40))] := hl
    refine lv_iload_n hx hb dX2_follow_2 rfl (lv_at hl 3 rfl) ?_
    refine lv_bipush (v := 40) hx hb dX2_follow_3 (by decide) ?_
    refine lv_icmp_ge (tgt := 23) hx hb dX2_follow_5 (by decide) (fun _ => ?_) (fun c_5 => absurd (by decide) c_5)
    refine lv_iconst (v := 1) hx hb dX2_follow_23 (by decide) ?_
    refine lv_istore_n (lv' := [(3, .int 1), (0, .ref (ad 4)), (1, .ref (ad 1)), (2, .ref (ad 2))]) hx hb dX2_follow_24 rfl hl (by decide) rfl (fun ls hl => ?_)
    refine lv_iconst (v := 0) hx hb dX2_follow_25 (by decide) ?_
    refine lv_istore (lv' := [(4, .int 0), (3, .int 1), (0, .ref (ad 4)), (1, .ref (ad 1)), (2, .ref (ad 2))]) hx hb dX2_follow_26 hl (by decide) rfl (fun ls hl => ?_)
    refine w_loop (σ := Ob × Bool) (fun (i_2 : Nat) (p_2 : Ob × Bool) (H : Heap) (locs : List Loc) (ls : Array Slot) => p_2 = (lpW (fun p : Ob × Bool => p.2) (fun p : Ob × Bool => passUp co fl p.1) i_2 (((lp liInit (40) li)), true)) ∧ va_P D vwCl (XW ad cI cJ co fl ra p_2.1 re wa pi) H ∧ va_D A (XW ad cI cJ co fl ra p_2.1 re wa pi) ∧ va_S A s.heap H locs ∧ lv_has ls 5 [(0, .ref (ad 4)), (1, .ref (ad 1)), (2, .ref (ad 2)), (3, .int (b2i p_2.2)), (4, .int (nI i_2))]) (41) (fun p_2 H locs ls hI => ?_) (fun i_2 p_2 H locs ls hi_2 hI ih_2 => ?_) 0 (((lp liInit (40) li)), true) (Nat.zero_le _) ⟨rfl, hP, hD, hS, (by rw [nI_0]; exact lv_sub hl [2, 3, 4, 1, 0] rfl)⟩
    · obtain ⟨h_2, hP, hD, hS, hl⟩ := hI
      have h_2 := h_2.symm
      subst h_2
      have hP : va_P D vwCl (XW ad cI cJ co fl ra ((lpW (fun p : Ob × Bool => p.2) (fun p : Ob × Bool => passUp co fl p.1) (41) (((lp liInit (40) li)), true)).1) re wa pi) H := hP
      have hD : va_D A (XW ad cI cJ co fl ra ((lpW (fun p : Ob × Bool => p.2) (fun p : Ob × Bool => passUp co fl p.1) (41) (((lp liInit (40) li)), true)).1) re wa pi) := hD
      have hl : lv_has ls 5 [(0, .ref (ad 4)), (1, .ref (ad 1)), (2, .ref (ad 2)), (3, .int (b2i (lpW (fun p : Ob × Bool => p.2) (fun p : Ob × Bool => passUp co fl p.1) (41) (((lp liInit (40) li)), true)).2)), (4, .int (nI 41))] := hl
      refine lv_iload hx hb dX2_follow_28 (lv_at hl 4 rfl) ?_
      refine lv_bipush (v := 40) hx hb dX2_follow_30 (by decide) ?_
      refine lv_icmp_gt (tgt := 52) hx hb dX2_follow_32 (by decide) (fun _ => ?_) (fun c_32 => absurd (by decide) c_32)
      refine lv_aload_n hx hb dX2_follow_52 rfl (lv_at hl 0 rfl) ?_
      refine lv_iconst (v := 0) hx hb dX2_follow_53 (by decide) ?_
      refine va_put (D := D) (ci := 2) (v := .int 0) (C := RX2) (T := TX2) (N := 3) hx hb hg inGX2 tyX2 tyX2_ok nmX2 hown hK hP hD hS 4 rfl rfl 1 (by decide) (hg _ mw_156) (fun _ h9 => h9) rfl (tyX2_ok 1 (by decide)) rfl rfl (Nat.le_of_ble_eq_true rfl) dX2_follow_54 (fun H locs hP hD hS => ?_)
      have hP : va_P D vwCl (XW ad cI cJ co fl ra (si ((lpW (fun p : Ob × Bool => p.2) (fun p : Ob × Bool => passUp co fl p.1) (41) (((lp liInit (40) li)), true)).1) 0 0) re wa pi) H := hP
      have hD : va_D A (XW ad cI cJ co fl ra (si ((lpW (fun p : Ob × Bool => p.2) (fun p : Ob × Bool => passUp co fl p.1) (41) (((lp liInit (40) li)), true)).1) 0 0) re wa pi) := hD
      refine lv_iconst (v := 0) hx hb dX2_follow_57 (by decide) ?_
      refine lv_istore (lv' := [(4, .int 0), (0, .ref (ad 4)), (1, .ref (ad 1)), (2, .ref (ad 2)), (3, .int (b2i (lpW (fun p : Ob × Bool => p.2) (fun p : Ob × Bool => passUp co fl p.1) (41) (((lp liInit (40) li)), true)).2))]) hx hb dX2_follow_58 hl (by decide) rfl (fun ls hl => ?_)
      refine w_loop (σ := Ob) (fun (i_3 : Nat) (p_3 : Ob) (H : Heap) (locs : List Loc) (ls : Array Slot) => p_3 = (lp (foV co fl) i_3 (si ((lpW (fun p : Ob × Bool => p.2) (fun p : Ob × Bool => passUp co fl p.1) (41) (((lp liInit (40) li)), true)).1) 0 0)) ∧ va_P D vwCl (XW ad cI cJ co fl ra p_3 re wa pi) H ∧ va_D A (XW ad cI cJ co fl ra p_3 re wa pi) ∧ va_S A s.heap H locs ∧ lv_has ls 5 [(0, .ref (ad 4)), (1, .ref (ad 1)), (2, .ref (ad 2)), (3, .int (b2i (lpW (fun p : Ob × Bool => p.2) (fun p : Ob × Bool => passUp co fl p.1) (41) (((lp liInit (40) li)), true)).2)), (4, .int (nI i_3))]) (nN (gi fl 0)) (fun p_3 H locs ls hI => ?_) (fun i_3 p_3 H locs ls hi_3 hI ih_3 => ?_) 0 (si ((lpW (fun p : Ob × Bool => p.2) (fun p : Ob × Bool => passUp co fl p.1) (41) (((lp liInit (40) li)), true)).1) 0 0) (Nat.zero_le _) ⟨rfl, hP, hD, hS, (by rw [nI_0]; exact lv_sub hl [1, 2, 3, 4, 0] rfl)⟩
      · obtain ⟨h_3, hP, hD, hS, hl⟩ := hI
        have h_3 := h_3.symm
        subst h_3
        have hP : va_P D vwCl (XW ad cI cJ co fl ra ((lp (foV co fl) (nN (gi fl 0)) (si ((lpW (fun p : Ob × Bool => p.2) (fun p : Ob × Bool => passUp co fl p.1) (41) (((lp liInit (40) li)), true)).1) 0 0))) re wa pi) H := hP
        have hD : va_D A (XW ad cI cJ co fl ra ((lp (foV co fl) (nN (gi fl 0)) (si ((lpW (fun p : Ob × Bool => p.2) (fun p : Ob × Bool => passUp co fl p.1) (41) (((lp liInit (40) li)), true)).1) 0 0))) re wa pi) := hD
        have hl : lv_has ls 5 [(0, .ref (ad 4)), (1, .ref (ad 1)), (2, .ref (ad 2)), (3, .int (b2i (lpW (fun p : Ob × Bool => p.2) (fun p : Ob × Bool => passUp co fl p.1) (41) (((lp liInit (40) li)), true)).2)), (4, .int (nI ((nN (gi fl 0)))))] := hl
        refine lv_iload hx hb dX2_follow_60 (lv_at hl 4 rfl) ?_
        refine lv_aload_n hx hb dX2_follow_62 rfl (lv_at hl 2 rfl) ?_
        refine va_getN (D := D) (ci := 1) (v := .int (gi fl 0)) (C := RX1) (T := TX1) (N := 11) hx hb hg inGX1 hown hK hP 2 rfl rfl 7 (by decide) (hN.use nw_26) (fun _ h9 => h9) rfl dX2_follow_63 ?_
        refine lv_icmp_ge (tgt := 104) hx hb dX2_follow_66 (by decide) (fun _ => ?_) (fun c_66 => absurd (lp_out _) c_66)
        exact W.vret hx hb hr (fun t ht hW => ⟨⟨(XW ad cI cJ co fl ra ((lp (foV co fl) (nN (gi fl 0)) (si ((lpW (fun p : Ob × Bool => p.2) (fun p : Ob × Bool => passUp co fl p.1) (41) (((lp liInit (40) li)), true)).1) 0 0))) re wa pi), rfl, xw_eq rfl rfl rfl (show ((lp (foV co fl) (nN (gi fl 0)) (si ((lpW (fun p : Ob × Bool => p.2) (fun p : Ob × Bool => passUp co fl p.1) (41) (((lp liInit (40) li)), true)).1) 0 0))) = (follow co fl li) from (by first | with_reducible rfl | (simp only [follow, foP, gi_sl, gi_sA, gi_sB, gi_si_s, gi_si_n, gl_si, gl_sA, gl_sB, gl_sl_s, gl_sl_n, gA_si, gA_sl, gA_sB, gA_sA_s, gA_sA_n, gB_si, gB_sl, gB_sA, gB_sB_s, gB_sB_n, Nat.reduceBEq, if_true, if_false, eq_self, Bool.false_eq_true, reduceCtorEq, not_true_eq_false, not_false_eq_true, decide_true, decide_false, cond_true, cond_false, Bool.true_and, Bool.false_and, Bool.and_true, Bool.and_false, Bool.true_or, Bool.false_or, Bool.or_true, Bool.or_false, b2i_tt, b2i_ff]; done) | rfl)) rfl rfl rfl, ⟨by rw [ht]; exact hP, va_K.moved hW.alike hK, hD⟩⟩, hS.F ht⟩) hS.2.2 dX2_follow_104
      · obtain ⟨h_3, hP, hD, hS, hl⟩ := hI
        have hP : va_P D vwCl (XW ad cI cJ co fl ra p_3 re wa pi) H := hP
        have hD : va_D A (XW ad cI cJ co fl ra p_3 re wa pi) := hD
        have hl : lv_has ls 5 [(0, .ref (ad 4)), (1, .ref (ad 1)), (2, .ref (ad 2)), (3, .int (b2i (lpW (fun p : Ob × Bool => p.2) (fun p : Ob × Bool => passUp co fl p.1) (41) (((lp liInit (40) li)), true)).2)), (4, .int (nI i_3))] := hl
        refine lv_iload hx hb dX2_follow_60 (lv_at hl 4 rfl) ?_
        refine lv_aload_n hx hb dX2_follow_62 rfl (lv_at hl 2 rfl) ?_
        refine va_getN (D := D) (ci := 1) (v := .int (gi fl 0)) (C := RX1) (T := TX1) (N := 11) hx hb hg inGX1 hown hK hP 2 rfl rfl 7 (by decide) (hN.use nw_26) (fun _ h9 => h9) rfl dX2_follow_63 ?_
        refine lv_icmp_ge (tgt := 104) hx hb dX2_follow_66 (by decide) (fun c_66 => absurd c_66 (lp_in hi_3)) (fun _ => ?_)
        refine lv_aload_n hx hb dX2_follow_69 rfl (lv_at hl 2 rfl) ?_
        refine va_getN (D := D) (ci := 1) (v := .long (gl fl 0)) (C := RX1) (T := TX1) (N := 11) hx hb hg inGX1 hown hK hP 2 rfl rfl 9 (by decide) (hN.use nw_34) (fun _ h9 => h9) rfl dX2_follow_70 ?_
        refine lv_iload hx hb dX2_follow_73 (lv_at hl 4 rfl) ?_
        refine kI (rSN hx hb hml hown hg hN hK hP hD (c_has l D cI cJ (XW ad cI cJ co fl ra p_3 re wa pi) (gl fl 0) (nI i_3)) mw_89 nw_80 mw_90 mw_77 pd_X7_has ⟨Nat.le_of_ble_eq_true rfl, Nat.le_of_ble_eq_true rfl⟩ rfl hl.1 rfl (Nat.le_of_ble_eq_true rfl) dX2_follow_75 ⟨Nat.le_of_ble_eq_true rfl, Nat.le_of_ble_eq_true rfl⟩) hD hS hA (fun r_4 u_4 H locs hp hP hD hS => ?_)
        obtain ⟨er, eu⟩ := hp
        obtain rfl := er.symm
        obtain rfl := eu.symm
        refine lv_if_eq (tgt := 98) hx hb dX2_follow_78 (by decide) (fun c_78 => ?_) (fun c_78 => ?_)
        · have c_78 : ¬ (hs (gl fl 0) (nI i_3)) = true := b2i_0 c_78
          refine lv_iinc (v := (nI (i_3 + 1))) (lv' := [(4, .int (nI (i_3 + 1))), (0, .ref (ad 4)), (1, .ref (ad 1)), (2, .ref (ad 2)), (3, .int (b2i (lpW (fun p : Ob × Bool => p.2) (fun p : Ob × Bool => passUp co fl p.1) (41) (((lp liInit (40) li)), true)).2))]) hx hb dX2_follow_98 hl (k := 4) rfl (nI_1 i_3) (by decide) rfl (fun ls hl => ?_)
          refine lv_goto (tgt := 60) hx hb dX2_follow_101 (by decide) ?_
          exact ih_3 p_3 H locs ls ⟨((show p_3 = (foV co fl) i_3 p_3 from (by first | (simp only [foV, if_neg c_78, bf_of c_78, gi_sl, gi_sA, gi_sB, gi_si_s, gi_si_n, gl_si, gl_sA, gl_sB, gl_sl_s, gl_sl_n, gA_si, gA_sl, gA_sB, gA_sA_s, gA_sA_n, gB_si, gB_sl, gB_sA, gB_sB_s, gB_sB_n, Nat.reduceBEq, if_true, if_false, eq_self, Bool.false_eq_true, reduceCtorEq, not_true_eq_false, not_false_eq_true, decide_true, decide_false, cond_true, cond_false, Bool.true_and, Bool.false_and, Bool.and_true, Bool.and_false, Bool.true_or, Bool.false_or, Bool.or_true, Bool.or_false, b2i_tt, b2i_ff]; done) | (simp only [foV, if_neg c_78, bf_of c_78, gi_sl, gi_sA, gi_sB, gi_si_s, gi_si_n, gl_si, gl_sA, gl_sB, gl_sl_s, gl_sl_n, gA_si, gA_sl, gA_sB, gA_sA_s, gA_sA_n, gB_si, gB_sl, gB_sA, gB_sB_s, gB_sB_n, Nat.reduceBEq, if_true, if_false, eq_self, Bool.false_eq_true, reduceCtorEq, not_true_eq_false, not_false_eq_true, decide_true, decide_false, cond_true, cond_false, Bool.true_and, Bool.false_and, Bool.and_true, Bool.and_false, Bool.true_or, Bool.false_or, Bool.or_true, Bool.or_false, b2i_tt, b2i_ff]; rfl) | (simp [foV, c_78, gi_sl, gi_sA, gi_sB, gi_si_s, gi_si_n, gl_si, gl_sA, gl_sB, gl_sl_s, gl_sl_n, gA_si, gA_sl, gA_sB, gA_sA_s, gA_sA_n, gB_si, gB_sl, gB_sA, gB_sB_s, gB_sB_n, Nat.reduceBEq]; done))).trans (lp_go h_3)), hP, hD, hS, lv_sub hl [1, 2, 3, 4, 0] rfl⟩
        · have c_78 : (hs (gl fl 0) (nI i_3)) = true := b2i_1 c_78
          refine lv_aload_n hx hb dX2_follow_81 rfl (lv_at hl 0 rfl) ?_
          refine lv_dup hx hb dX2_follow_82 rfl ?_
          refine va_get (D := D) (ci := 2) (v := .int (gi p_3 0)) (C := RX2) (T := TX2) (N := 3) hx hb hg inGX2 hown hK hP 4 rfl rfl 1 (by decide) (hg _ mw_156) (fun _ h9 => h9) rfl dX2_follow_83 ?_
          refine lv_aload_n hx hb dX2_follow_86 rfl (lv_at hl 0 rfl) ?_
          refine lv_aload_n hx hb dX2_follow_87 rfl (lv_at hl 1 rfl) ?_
          refine lv_aload_n hx hb dX2_follow_88 rfl (lv_at hl 2 rfl) ?_
          refine lv_iload hx hb dX2_follow_89 (lv_at hl 4 rfl) ?_
          refine kI (rV (q0 := 4) (ci := 2) hx hb hml hown hg hN hK hP hD (c_vainIn l D cI cJ ad co fl ra p_3 re wa pi (nI i_3) (hlo.2 _ hi_3)) mw_157 mw_158 mw_159 mw_160 mw_152 pdv_X2_vainIn ⟨Nat.le_of_ble_eq_true rfl, Nat.le_of_ble_eq_true rfl⟩ rfl rfl rfl hl.1 rfl (Nat.le_of_ble_eq_true rfl) dX2_follow_91 ⟨Nat.le_of_ble_eq_true rfl, Nat.le_of_ble_eq_true rfl⟩) hD hS hA (fun r_5 u_5 H locs hp hP hD hS => ?_)
          obtain ⟨er, eu⟩ := hp
          obtain rfl := er.symm
          obtain rfl := eu.symm
          refine lv_iadd hx hb dX2_follow_94 ?_
          refine va_put (D := D) (ci := 2) (v := .int ((gi p_3 0) + (vainIn co fl p_3 (nI i_3)))) (C := RX2) (T := TX2) (N := 3) hx hb hg inGX2 tyX2 tyX2_ok nmX2 hown hK hP hD hS 4 rfl rfl 1 (by decide) (hg _ mw_156) (fun _ h9 => h9) rfl (tyX2_ok 1 (by decide)) rfl rfl (Nat.le_of_ble_eq_true rfl) dX2_follow_95 (fun H locs hP hD hS => ?_)
          have hP : va_P D vwCl (XW ad cI cJ co fl ra (si p_3 0 ((gi p_3 0) + (vainIn co fl p_3 (nI i_3)))) re wa pi) H := hP
          have hD : va_D A (XW ad cI cJ co fl ra (si p_3 0 ((gi p_3 0) + (vainIn co fl p_3 (nI i_3)))) re wa pi) := hD
          refine lv_iinc (v := (nI (i_3 + 1))) (lv' := [(4, .int (nI (i_3 + 1))), (0, .ref (ad 4)), (1, .ref (ad 1)), (2, .ref (ad 2)), (3, .int (b2i (lpW (fun p : Ob × Bool => p.2) (fun p : Ob × Bool => passUp co fl p.1) (41) (((lp liInit (40) li)), true)).2))]) hx hb dX2_follow_98 hl (k := 4) rfl (nI_1 i_3) (by decide) rfl (fun ls hl => ?_)
          refine lv_goto (tgt := 60) hx hb dX2_follow_101 (by decide) ?_
          exact ih_3 (si p_3 0 ((gi p_3 0) + (vainIn co fl p_3 (nI i_3)))) H locs ls ⟨((show (si p_3 0 ((gi p_3 0) + (vainIn co fl p_3 (nI i_3)))) = (foV co fl) i_3 p_3 from (by first | (simp only [foV, if_pos c_78, c_78, gi_sl, gi_sA, gi_sB, gi_si_s, gi_si_n, gl_si, gl_sA, gl_sB, gl_sl_s, gl_sl_n, gA_si, gA_sl, gA_sB, gA_sA_s, gA_sA_n, gB_si, gB_sl, gB_sA, gB_sB_s, gB_sB_n, Nat.reduceBEq, if_true, if_false, eq_self, Bool.false_eq_true, reduceCtorEq, not_true_eq_false, not_false_eq_true, decide_true, decide_false, cond_true, cond_false, Bool.true_and, Bool.false_and, Bool.and_true, Bool.and_false, Bool.true_or, Bool.false_or, Bool.or_true, Bool.or_false, b2i_tt, b2i_ff]; done) | (simp only [foV, if_pos c_78, c_78, gi_sl, gi_sA, gi_sB, gi_si_s, gi_si_n, gl_si, gl_sA, gl_sB, gl_sl_s, gl_sl_n, gA_si, gA_sl, gA_sB, gA_sA_s, gA_sA_n, gB_si, gB_sl, gB_sA, gB_sB_s, gB_sB_n, Nat.reduceBEq, if_true, if_false, eq_self, Bool.false_eq_true, reduceCtorEq, not_true_eq_false, not_false_eq_true, decide_true, decide_false, cond_true, cond_false, Bool.true_and, Bool.false_and, Bool.and_true, Bool.and_false, Bool.true_or, Bool.false_or, Bool.or_true, Bool.or_false, b2i_tt, b2i_ff]; rfl) | (simp [foV, c_78, gi_sl, gi_sA, gi_sB, gi_si_s, gi_si_n, gl_si, gl_sA, gl_sB, gl_sl_s, gl_sl_n, gA_si, gA_sl, gA_sB, gA_sA_s, gA_sA_n, gB_si, gB_sl, gB_sA, gB_sB_s, gB_sB_n, Nat.reduceBEq]; done))).trans (lp_go h_3)), hP, hD, hS, lv_sub hl [1, 2, 3, 4, 0] rfl⟩
    · obtain ⟨h_2, hP, hD, hS, hl⟩ := hI
      have hP : va_P D vwCl (XW ad cI cJ co fl ra p_2.1 re wa pi) H := hP
      have hD : va_D A (XW ad cI cJ co fl ra p_2.1 re wa pi) := hD
      have hl : lv_has ls 5 [(0, .ref (ad 4)), (1, .ref (ad 1)), (2, .ref (ad 2)), (3, .int (b2i p_2.2)), (4, .int (nI i_2))] := hl
      refine lv_iload hx hb dX2_follow_28 (lv_at hl 4 rfl) ?_
      refine lv_bipush (v := 40) hx hb dX2_follow_30 (by decide) ?_
      refine lv_icmp_gt (tgt := 52) hx hb dX2_follow_32 (by decide) (fun c_32 => absurd c_32 (nI_nlt (Nat.le_of_lt_succ hi_2) (by decide))) (fun _ => ?_)
      refine lv_iload_n hx hb dX2_follow_35 rfl (lv_at hl 3 rfl) ?_
      refine lv_if_eq (tgt := 52) hx hb dX2_follow_36 (by decide) (fun c_36 => ?_) (fun c_36 => ?_)
      · have c_36 : ¬ p_2.2 = true := b2i_0 c_36
        have h_2 : p_2 = (lpW (fun p : Ob × Bool => p.2) (fun p : Ob × Bool => passUp co fl p.1) (41) (((lp liInit (40) li)), true)) := lpW_stop h_2 (by first | (simp only [if_neg c_36, bf_of c_36, gi_sl, gi_sA, gi_sB, gi_si_s, gi_si_n, gl_si, gl_sA, gl_sB, gl_sl_s, gl_sl_n, gA_si, gA_sl, gA_sB, gA_sA_s, gA_sA_n, gB_si, gB_sl, gB_sA, gB_sB_s, gB_sB_n, Nat.reduceBEq, if_true, if_false, eq_self, Bool.false_eq_true, reduceCtorEq, not_true_eq_false, not_false_eq_true, decide_true, decide_false, cond_true, cond_false, Bool.true_and, Bool.false_and, Bool.and_true, Bool.and_false, Bool.true_or, Bool.false_or, Bool.or_true, Bool.or_false, b2i_tt, b2i_ff]; done) | (simp only [if_neg c_36, bf_of c_36, gi_sl, gi_sA, gi_sB, gi_si_s, gi_si_n, gl_si, gl_sA, gl_sB, gl_sl_s, gl_sl_n, gA_si, gA_sl, gA_sB, gA_sA_s, gA_sA_n, gB_si, gB_sl, gB_sA, gB_sB_s, gB_sB_n, Nat.reduceBEq, if_true, if_false, eq_self, Bool.false_eq_true, reduceCtorEq, not_true_eq_false, not_false_eq_true, decide_true, decide_false, cond_true, cond_false, Bool.true_and, Bool.false_and, Bool.and_true, Bool.and_false, Bool.true_or, Bool.false_or, Bool.or_true, Bool.or_false, b2i_tt, b2i_ff]; rfl) | (simp [c_36, gi_sl, gi_sA, gi_sB, gi_si_s, gi_si_n, gl_si, gl_sA, gl_sB, gl_sl_s, gl_sl_n, gA_si, gA_sl, gA_sB, gA_sA_s, gA_sA_n, gB_si, gB_sl, gB_sA, gB_sB_s, gB_sB_n, Nat.reduceBEq]; done)) (Nat.le_of_lt hi_2)
        have h_2 := h_2.symm
        subst h_2
        have hP : va_P D vwCl (XW ad cI cJ co fl ra ((lpW (fun p : Ob × Bool => p.2) (fun p : Ob × Bool => passUp co fl p.1) (41) (((lp liInit (40) li)), true)).1) re wa pi) H := hP
        have hD : va_D A (XW ad cI cJ co fl ra ((lpW (fun p : Ob × Bool => p.2) (fun p : Ob × Bool => passUp co fl p.1) (41) (((lp liInit (40) li)), true)).1) re wa pi) := hD
        have hl : lv_has ls 5 [(0, .ref (ad 4)), (1, .ref (ad 1)), (2, .ref (ad 2)), (3, .int (b2i (lpW (fun p : Ob × Bool => p.2) (fun p : Ob × Bool => passUp co fl p.1) (41) (((lp liInit (40) li)), true)).2)), (4, .int (nI i_2))] := hl
        refine lv_aload_n hx hb dX2_follow_52 rfl (lv_at hl 0 rfl) ?_
        refine lv_iconst (v := 0) hx hb dX2_follow_53 (by decide) ?_
        refine va_put (D := D) (ci := 2) (v := .int 0) (C := RX2) (T := TX2) (N := 3) hx hb hg inGX2 tyX2 tyX2_ok nmX2 hown hK hP hD hS 4 rfl rfl 1 (by decide) (hg _ mw_156) (fun _ h9 => h9) rfl (tyX2_ok 1 (by decide)) rfl rfl (Nat.le_of_ble_eq_true rfl) dX2_follow_54 (fun H locs hP hD hS => ?_)
        have hP : va_P D vwCl (XW ad cI cJ co fl ra (si ((lpW (fun p : Ob × Bool => p.2) (fun p : Ob × Bool => passUp co fl p.1) (41) (((lp liInit (40) li)), true)).1) 0 0) re wa pi) H := hP
        have hD : va_D A (XW ad cI cJ co fl ra (si ((lpW (fun p : Ob × Bool => p.2) (fun p : Ob × Bool => passUp co fl p.1) (41) (((lp liInit (40) li)), true)).1) 0 0) re wa pi) := hD
        refine lv_iconst (v := 0) hx hb dX2_follow_57 (by decide) ?_
        refine lv_istore (lv' := [(4, .int 0), (0, .ref (ad 4)), (1, .ref (ad 1)), (2, .ref (ad 2)), (3, .int (b2i (lpW (fun p : Ob × Bool => p.2) (fun p : Ob × Bool => passUp co fl p.1) (41) (((lp liInit (40) li)), true)).2))]) hx hb dX2_follow_58 hl (by decide) rfl (fun ls hl => ?_)
        refine w_loop (σ := Ob) (fun (i_6 : Nat) (p_6 : Ob) (H : Heap) (locs : List Loc) (ls : Array Slot) => p_6 = (lp (foV co fl) i_6 (si ((lpW (fun p : Ob × Bool => p.2) (fun p : Ob × Bool => passUp co fl p.1) (41) (((lp liInit (40) li)), true)).1) 0 0)) ∧ va_P D vwCl (XW ad cI cJ co fl ra p_6 re wa pi) H ∧ va_D A (XW ad cI cJ co fl ra p_6 re wa pi) ∧ va_S A s.heap H locs ∧ lv_has ls 5 [(0, .ref (ad 4)), (1, .ref (ad 1)), (2, .ref (ad 2)), (3, .int (b2i (lpW (fun p : Ob × Bool => p.2) (fun p : Ob × Bool => passUp co fl p.1) (41) (((lp liInit (40) li)), true)).2)), (4, .int (nI i_6))]) (nN (gi fl 0)) (fun p_6 H locs ls hI => ?_) (fun i_6 p_6 H locs ls hi_6 hI ih_6 => ?_) 0 (si ((lpW (fun p : Ob × Bool => p.2) (fun p : Ob × Bool => passUp co fl p.1) (41) (((lp liInit (40) li)), true)).1) 0 0) (Nat.zero_le _) ⟨rfl, hP, hD, hS, (by rw [nI_0]; exact lv_sub hl [1, 2, 3, 4, 0] rfl)⟩
        · obtain ⟨h_6, hP, hD, hS, hl⟩ := hI
          have h_6 := h_6.symm
          subst h_6
          have hP : va_P D vwCl (XW ad cI cJ co fl ra ((lp (foV co fl) (nN (gi fl 0)) (si ((lpW (fun p : Ob × Bool => p.2) (fun p : Ob × Bool => passUp co fl p.1) (41) (((lp liInit (40) li)), true)).1) 0 0))) re wa pi) H := hP
          have hD : va_D A (XW ad cI cJ co fl ra ((lp (foV co fl) (nN (gi fl 0)) (si ((lpW (fun p : Ob × Bool => p.2) (fun p : Ob × Bool => passUp co fl p.1) (41) (((lp liInit (40) li)), true)).1) 0 0))) re wa pi) := hD
          have hl : lv_has ls 5 [(0, .ref (ad 4)), (1, .ref (ad 1)), (2, .ref (ad 2)), (3, .int (b2i (lpW (fun p : Ob × Bool => p.2) (fun p : Ob × Bool => passUp co fl p.1) (41) (((lp liInit (40) li)), true)).2)), (4, .int (nI ((nN (gi fl 0)))))] := hl
          refine lv_iload hx hb dX2_follow_60 (lv_at hl 4 rfl) ?_
          refine lv_aload_n hx hb dX2_follow_62 rfl (lv_at hl 2 rfl) ?_
          refine va_getN (D := D) (ci := 1) (v := .int (gi fl 0)) (C := RX1) (T := TX1) (N := 11) hx hb hg inGX1 hown hK hP 2 rfl rfl 7 (by decide) (hN.use nw_26) (fun _ h9 => h9) rfl dX2_follow_63 ?_
          refine lv_icmp_ge (tgt := 104) hx hb dX2_follow_66 (by decide) (fun _ => ?_) (fun c_66 => absurd (lp_out _) c_66)
          exact W.vret hx hb hr (fun t ht hW => ⟨⟨(XW ad cI cJ co fl ra ((lp (foV co fl) (nN (gi fl 0)) (si ((lpW (fun p : Ob × Bool => p.2) (fun p : Ob × Bool => passUp co fl p.1) (41) (((lp liInit (40) li)), true)).1) 0 0))) re wa pi), rfl, xw_eq rfl rfl rfl (show ((lp (foV co fl) (nN (gi fl 0)) (si ((lpW (fun p : Ob × Bool => p.2) (fun p : Ob × Bool => passUp co fl p.1) (41) (((lp liInit (40) li)), true)).1) 0 0))) = (follow co fl li) from (by first | (simp only [follow, foP, if_neg c_36, bf_of c_36, gi_sl, gi_sA, gi_sB, gi_si_s, gi_si_n, gl_si, gl_sA, gl_sB, gl_sl_s, gl_sl_n, gA_si, gA_sl, gA_sB, gA_sA_s, gA_sA_n, gB_si, gB_sl, gB_sA, gB_sB_s, gB_sB_n, Nat.reduceBEq, if_true, if_false, eq_self, Bool.false_eq_true, reduceCtorEq, not_true_eq_false, not_false_eq_true, decide_true, decide_false, cond_true, cond_false, Bool.true_and, Bool.false_and, Bool.and_true, Bool.and_false, Bool.true_or, Bool.false_or, Bool.or_true, Bool.or_false, b2i_tt, b2i_ff]; done) | (simp only [follow, foP, if_neg c_36, bf_of c_36, gi_sl, gi_sA, gi_sB, gi_si_s, gi_si_n, gl_si, gl_sA, gl_sB, gl_sl_s, gl_sl_n, gA_si, gA_sl, gA_sB, gA_sA_s, gA_sA_n, gB_si, gB_sl, gB_sA, gB_sB_s, gB_sB_n, Nat.reduceBEq, if_true, if_false, eq_self, Bool.false_eq_true, reduceCtorEq, not_true_eq_false, not_false_eq_true, decide_true, decide_false, cond_true, cond_false, Bool.true_and, Bool.false_and, Bool.and_true, Bool.and_false, Bool.true_or, Bool.false_or, Bool.or_true, Bool.or_false, b2i_tt, b2i_ff]; rfl) | (simp [follow, foP, c_36, gi_sl, gi_sA, gi_sB, gi_si_s, gi_si_n, gl_si, gl_sA, gl_sB, gl_sl_s, gl_sl_n, gA_si, gA_sl, gA_sB, gA_sA_s, gA_sA_n, gB_si, gB_sl, gB_sA, gB_sB_s, gB_sB_n, Nat.reduceBEq]; done))) rfl rfl rfl, ⟨by rw [ht]; exact hP, va_K.moved hW.alike hK, hD⟩⟩, hS.F ht⟩) hS.2.2 dX2_follow_104
        · obtain ⟨h_6, hP, hD, hS, hl⟩ := hI
          have hP : va_P D vwCl (XW ad cI cJ co fl ra p_6 re wa pi) H := hP
          have hD : va_D A (XW ad cI cJ co fl ra p_6 re wa pi) := hD
          have hl : lv_has ls 5 [(0, .ref (ad 4)), (1, .ref (ad 1)), (2, .ref (ad 2)), (3, .int (b2i (lpW (fun p : Ob × Bool => p.2) (fun p : Ob × Bool => passUp co fl p.1) (41) (((lp liInit (40) li)), true)).2)), (4, .int (nI i_6))] := hl
          refine lv_iload hx hb dX2_follow_60 (lv_at hl 4 rfl) ?_
          refine lv_aload_n hx hb dX2_follow_62 rfl (lv_at hl 2 rfl) ?_
          refine va_getN (D := D) (ci := 1) (v := .int (gi fl 0)) (C := RX1) (T := TX1) (N := 11) hx hb hg inGX1 hown hK hP 2 rfl rfl 7 (by decide) (hN.use nw_26) (fun _ h9 => h9) rfl dX2_follow_63 ?_
          refine lv_icmp_ge (tgt := 104) hx hb dX2_follow_66 (by decide) (fun c_66 => absurd c_66 (lp_in hi_6)) (fun _ => ?_)
          refine lv_aload_n hx hb dX2_follow_69 rfl (lv_at hl 2 rfl) ?_
          refine va_getN (D := D) (ci := 1) (v := .long (gl fl 0)) (C := RX1) (T := TX1) (N := 11) hx hb hg inGX1 hown hK hP 2 rfl rfl 9 (by decide) (hN.use nw_34) (fun _ h9 => h9) rfl dX2_follow_70 ?_
          refine lv_iload hx hb dX2_follow_73 (lv_at hl 4 rfl) ?_
          refine kI (rSN hx hb hml hown hg hN hK hP hD (c_has l D cI cJ (XW ad cI cJ co fl ra p_6 re wa pi) (gl fl 0) (nI i_6)) mw_89 nw_80 mw_90 mw_77 pd_X7_has ⟨Nat.le_of_ble_eq_true rfl, Nat.le_of_ble_eq_true rfl⟩ rfl hl.1 rfl (Nat.le_of_ble_eq_true rfl) dX2_follow_75 ⟨Nat.le_of_ble_eq_true rfl, Nat.le_of_ble_eq_true rfl⟩) hD hS hA (fun r_7 u_7 H locs hp hP hD hS => ?_)
          obtain ⟨er, eu⟩ := hp
          obtain rfl := er.symm
          obtain rfl := eu.symm
          refine lv_if_eq (tgt := 98) hx hb dX2_follow_78 (by decide) (fun c_78 => ?_) (fun c_78 => ?_)
          · have c_78 : ¬ (hs (gl fl 0) (nI i_6)) = true := b2i_0 c_78
            refine lv_iinc (v := (nI (i_6 + 1))) (lv' := [(4, .int (nI (i_6 + 1))), (0, .ref (ad 4)), (1, .ref (ad 1)), (2, .ref (ad 2)), (3, .int (b2i (lpW (fun p : Ob × Bool => p.2) (fun p : Ob × Bool => passUp co fl p.1) (41) (((lp liInit (40) li)), true)).2))]) hx hb dX2_follow_98 hl (k := 4) rfl (nI_1 i_6) (by decide) rfl (fun ls hl => ?_)
            refine lv_goto (tgt := 60) hx hb dX2_follow_101 (by decide) ?_
            exact ih_6 p_6 H locs ls ⟨((show p_6 = (foV co fl) i_6 p_6 from (by first | (simp only [foV, if_neg c_36, bf_of c_36, if_neg c_78, bf_of c_78, gi_sl, gi_sA, gi_sB, gi_si_s, gi_si_n, gl_si, gl_sA, gl_sB, gl_sl_s, gl_sl_n, gA_si, gA_sl, gA_sB, gA_sA_s, gA_sA_n, gB_si, gB_sl, gB_sA, gB_sB_s, gB_sB_n, Nat.reduceBEq, if_true, if_false, eq_self, Bool.false_eq_true, reduceCtorEq, not_true_eq_false, not_false_eq_true, decide_true, decide_false, cond_true, cond_false, Bool.true_and, Bool.false_and, Bool.and_true, Bool.and_false, Bool.true_or, Bool.false_or, Bool.or_true, Bool.or_false, b2i_tt, b2i_ff]; done) | (simp only [foV, if_neg c_36, bf_of c_36, if_neg c_78, bf_of c_78, gi_sl, gi_sA, gi_sB, gi_si_s, gi_si_n, gl_si, gl_sA, gl_sB, gl_sl_s, gl_sl_n, gA_si, gA_sl, gA_sB, gA_sA_s, gA_sA_n, gB_si, gB_sl, gB_sA, gB_sB_s, gB_sB_n, Nat.reduceBEq, if_true, if_false, eq_self, Bool.false_eq_true, reduceCtorEq, not_true_eq_false, not_false_eq_true, decide_true, decide_false, cond_true, cond_false, Bool.true_and, Bool.false_and, Bool.and_true, Bool.and_false, Bool.true_or, Bool.false_or, Bool.or_true, Bool.or_false, b2i_tt, b2i_ff]; rfl) | (simp [foV, c_36, c_78, gi_sl, gi_sA, gi_sB, gi_si_s, gi_si_n, gl_si, gl_sA, gl_sB, gl_sl_s, gl_sl_n, gA_si, gA_sl, gA_sB, gA_sA_s, gA_sA_n, gB_si, gB_sl, gB_sA, gB_sB_s, gB_sB_n, Nat.reduceBEq]; done))).trans (lp_go h_6)), hP, hD, hS, lv_sub hl [1, 2, 3, 4, 0] rfl⟩
          · have c_78 : (hs (gl fl 0) (nI i_6)) = true := b2i_1 c_78
            refine lv_aload_n hx hb dX2_follow_81 rfl (lv_at hl 0 rfl) ?_
            refine lv_dup hx hb dX2_follow_82 rfl ?_
            refine va_get (D := D) (ci := 2) (v := .int (gi p_6 0)) (C := RX2) (T := TX2) (N := 3) hx hb hg inGX2 hown hK hP 4 rfl rfl 1 (by decide) (hg _ mw_156) (fun _ h9 => h9) rfl dX2_follow_83 ?_
            refine lv_aload_n hx hb dX2_follow_86 rfl (lv_at hl 0 rfl) ?_
            refine lv_aload_n hx hb dX2_follow_87 rfl (lv_at hl 1 rfl) ?_
            refine lv_aload_n hx hb dX2_follow_88 rfl (lv_at hl 2 rfl) ?_
            refine lv_iload hx hb dX2_follow_89 (lv_at hl 4 rfl) ?_
            refine kI (rV (q0 := 4) (ci := 2) hx hb hml hown hg hN hK hP hD (c_vainIn l D cI cJ ad co fl ra p_6 re wa pi (nI i_6) (hlo.2 _ hi_6)) mw_157 mw_158 mw_159 mw_160 mw_152 pdv_X2_vainIn ⟨Nat.le_of_ble_eq_true rfl, Nat.le_of_ble_eq_true rfl⟩ rfl rfl rfl hl.1 rfl (Nat.le_of_ble_eq_true rfl) dX2_follow_91 ⟨Nat.le_of_ble_eq_true rfl, Nat.le_of_ble_eq_true rfl⟩) hD hS hA (fun r_8 u_8 H locs hp hP hD hS => ?_)
            obtain ⟨er, eu⟩ := hp
            obtain rfl := er.symm
            obtain rfl := eu.symm
            refine lv_iadd hx hb dX2_follow_94 ?_
            refine va_put (D := D) (ci := 2) (v := .int ((gi p_6 0) + (vainIn co fl p_6 (nI i_6)))) (C := RX2) (T := TX2) (N := 3) hx hb hg inGX2 tyX2 tyX2_ok nmX2 hown hK hP hD hS 4 rfl rfl 1 (by decide) (hg _ mw_156) (fun _ h9 => h9) rfl (tyX2_ok 1 (by decide)) rfl rfl (Nat.le_of_ble_eq_true rfl) dX2_follow_95 (fun H locs hP hD hS => ?_)
            have hP : va_P D vwCl (XW ad cI cJ co fl ra (si p_6 0 ((gi p_6 0) + (vainIn co fl p_6 (nI i_6)))) re wa pi) H := hP
            have hD : va_D A (XW ad cI cJ co fl ra (si p_6 0 ((gi p_6 0) + (vainIn co fl p_6 (nI i_6)))) re wa pi) := hD
            refine lv_iinc (v := (nI (i_6 + 1))) (lv' := [(4, .int (nI (i_6 + 1))), (0, .ref (ad 4)), (1, .ref (ad 1)), (2, .ref (ad 2)), (3, .int (b2i (lpW (fun p : Ob × Bool => p.2) (fun p : Ob × Bool => passUp co fl p.1) (41) (((lp liInit (40) li)), true)).2))]) hx hb dX2_follow_98 hl (k := 4) rfl (nI_1 i_6) (by decide) rfl (fun ls hl => ?_)
            refine lv_goto (tgt := 60) hx hb dX2_follow_101 (by decide) ?_
            exact ih_6 (si p_6 0 ((gi p_6 0) + (vainIn co fl p_6 (nI i_6)))) H locs ls ⟨((show (si p_6 0 ((gi p_6 0) + (vainIn co fl p_6 (nI i_6)))) = (foV co fl) i_6 p_6 from (by first | (simp only [foV, if_neg c_36, bf_of c_36, if_pos c_78, c_78, gi_sl, gi_sA, gi_sB, gi_si_s, gi_si_n, gl_si, gl_sA, gl_sB, gl_sl_s, gl_sl_n, gA_si, gA_sl, gA_sB, gA_sA_s, gA_sA_n, gB_si, gB_sl, gB_sA, gB_sB_s, gB_sB_n, Nat.reduceBEq, if_true, if_false, eq_self, Bool.false_eq_true, reduceCtorEq, not_true_eq_false, not_false_eq_true, decide_true, decide_false, cond_true, cond_false, Bool.true_and, Bool.false_and, Bool.and_true, Bool.and_false, Bool.true_or, Bool.false_or, Bool.or_true, Bool.or_false, b2i_tt, b2i_ff]; done) | (simp only [foV, if_neg c_36, bf_of c_36, if_pos c_78, c_78, gi_sl, gi_sA, gi_sB, gi_si_s, gi_si_n, gl_si, gl_sA, gl_sB, gl_sl_s, gl_sl_n, gA_si, gA_sl, gA_sB, gA_sA_s, gA_sA_n, gB_si, gB_sl, gB_sA, gB_sB_s, gB_sB_n, Nat.reduceBEq, if_true, if_false, eq_self, Bool.false_eq_true, reduceCtorEq, not_true_eq_false, not_false_eq_true, decide_true, decide_false, cond_true, cond_false, Bool.true_and, Bool.false_and, Bool.and_true, Bool.and_false, Bool.true_or, Bool.false_or, Bool.or_true, Bool.or_false, b2i_tt, b2i_ff]; rfl) | (simp [foV, c_36, c_78, gi_sl, gi_sA, gi_sB, gi_si_s, gi_si_n, gl_si, gl_sA, gl_sB, gl_sl_s, gl_sl_n, gA_si, gA_sl, gA_sB, gA_sA_s, gA_sA_n, gB_si, gB_sl, gB_sA, gB_sB_s, gB_sB_n, Nat.reduceBEq]; done))).trans (lp_go h_6)), hP, hD, hS, lv_sub hl [1, 2, 3, 4, 0] rfl⟩
      · have c_36 : p_2.2 = true := b2i_1 c_36
        refine lv_aload_n hx hb dX2_follow_39 rfl (lv_at hl 0 rfl) ?_
        refine lv_aload_n hx hb dX2_follow_40 rfl (lv_at hl 1 rfl) ?_
        refine lv_aload_n hx hb dX2_follow_41 rfl (lv_at hl 2 rfl) ?_
        refine kI (rV (q0 := 4) (ci := 2) hx hb hml hown hg hN hK hP hD (c_passUp l D cI cJ ad co fl ra p_2.1 re wa pi hlo) mw_161 mw_162 mw_163 mw_164 mw_152 pdv_X2_passUp ⟨Nat.le_of_ble_eq_true rfl, Nat.le_of_ble_eq_true rfl⟩ rfl rfl rfl hl.1 rfl (Nat.le_of_ble_eq_true rfl) dX2_follow_42 ⟨Nat.le_of_ble_eq_true rfl, Nat.le_of_ble_eq_true rfl⟩) hD hS hA (fun r_9 u_9 H locs hp hP hD hS => ?_)
        obtain ⟨er, eu⟩ := hp
        obtain rfl := er.symm
        obtain rfl := eu.symm
        have hP : va_P D vwCl (XW ad cI cJ co fl ra (passUp co fl p_2.1).1 re wa pi) H := hP
        have hD : va_D A (XW ad cI cJ co fl ra (passUp co fl p_2.1).1 re wa pi) := hD
        refine lv_istore_n (lv' := [(3, .int (b2i (passUp co fl p_2.1).2)), (0, .ref (ad 4)), (1, .ref (ad 1)), (2, .ref (ad 2)), (4, .int (nI i_2))]) hx hb dX2_follow_45 rfl hl (by decide) rfl (fun ls hl => ?_)
        refine lv_iinc (v := (nI (i_2 + 1))) (lv' := [(4, .int (nI (i_2 + 1))), (3, .int (b2i (passUp co fl p_2.1).2)), (0, .ref (ad 4)), (1, .ref (ad 1)), (2, .ref (ad 2))]) hx hb dX2_follow_46 hl (k := 4) rfl (nI_1 i_2) (by decide) rfl (fun ls hl => ?_)
        refine lv_goto (tgt := 28) hx hb dX2_follow_49 (by decide) ?_
        exact ih_2 ((passUp co fl p_2.1).1, (passUp co fl p_2.1).2) H locs ls ⟨((show ((passUp co fl p_2.1).1, (passUp co fl p_2.1).2) = (fun p : Ob × Bool => passUp co fl p.1) p_2 from (by first | (simp only [if_pos c_36, c_36, gi_sl, gi_sA, gi_sB, gi_si_s, gi_si_n, gl_si, gl_sA, gl_sB, gl_sl_s, gl_sl_n, gA_si, gA_sl, gA_sB, gA_sA_s, gA_sA_n, gB_si, gB_sl, gB_sA, gB_sB_s, gB_sB_n, Nat.reduceBEq, if_true, if_false, eq_self, Bool.false_eq_true, reduceCtorEq, not_true_eq_false, not_false_eq_true, decide_true, decide_false, cond_true, cond_false, Bool.true_and, Bool.false_and, Bool.and_true, Bool.and_false, Bool.true_or, Bool.false_or, Bool.or_true, Bool.or_false, b2i_tt, b2i_ff]; done) | (simp only [if_pos c_36, c_36, gi_sl, gi_sA, gi_sB, gi_si_s, gi_si_n, gl_si, gl_sA, gl_sB, gl_sl_s, gl_sl_n, gA_si, gA_sl, gA_sB, gA_sA_s, gA_sA_n, gB_si, gB_sl, gB_sA, gB_sB_s, gB_sB_n, Nat.reduceBEq, if_true, if_false, eq_self, Bool.false_eq_true, reduceCtorEq, not_true_eq_false, not_false_eq_true, decide_true, decide_false, cond_true, cond_false, Bool.true_and, Bool.false_and, Bool.and_true, Bool.and_false, Bool.true_or, Bool.false_or, Bool.or_true, Bool.or_false, b2i_tt, b2i_ff]; rfl) | (simp [c_36, gi_sl, gi_sA, gi_sB, gi_si_s, gi_si_n, gl_si, gl_sA, gl_sB, gl_sl_s, gl_sl_n, gA_si, gA_sl, gA_sB, gA_sA_s, gA_sA_n, gB_si, gB_sl, gB_sA, gB_sB_s, gB_sB_n, Nat.reduceBEq]; done))).trans (lpW_go h_2 (by first | (simp only [if_pos c_36, c_36, gi_sl, gi_sA, gi_sB, gi_si_s, gi_si_n, gl_si, gl_sA, gl_sB, gl_sl_s, gl_sl_n, gA_si, gA_sl, gA_sB, gA_sA_s, gA_sA_n, gB_si, gB_sl, gB_sA, gB_sB_s, gB_sB_n, Nat.reduceBEq, if_true, if_false, eq_self, Bool.false_eq_true, reduceCtorEq, not_true_eq_false, not_false_eq_true, decide_true, decide_false, cond_true, cond_false, Bool.true_and, Bool.false_and, Bool.and_true, Bool.and_false, Bool.true_or, Bool.false_or, Bool.or_true, Bool.or_false, b2i_tt, b2i_ff]; done) | (simp only [if_pos c_36, c_36, gi_sl, gi_sA, gi_sB, gi_si_s, gi_si_n, gl_si, gl_sA, gl_sB, gl_sl_s, gl_sl_n, gA_si, gA_sl, gA_sB, gA_sA_s, gA_sA_n, gB_si, gB_sl, gB_sA, gB_sB_s, gB_sB_n, Nat.reduceBEq, if_true, if_false, eq_self, Bool.false_eq_true, reduceCtorEq, not_true_eq_false, not_false_eq_true, decide_true, decide_false, cond_true, cond_false, Bool.true_and, Bool.false_and, Bool.and_true, Bool.and_false, Bool.true_or, Bool.false_or, Bool.or_true, Bool.or_false, b2i_tt, b2i_ff]; rfl) | (simp [c_36, gi_sl, gi_sA, gi_sB, gi_si_s, gi_si_n, gl_si, gl_sA, gl_sB, gl_sl_s, gl_sl_n, gA_si, gA_sl, gA_sB, gA_sA_s, gA_sA_n, gB_si, gB_sl, gB_sA, gB_sB_s, gB_sB_n, Nat.reduceBEq]; done)))), hP, hD, hS, lv_sub hl [2, 3, 4, 1, 0] rfl⟩
  · obtain ⟨h_1, hP, hD, hS, hl⟩ := hI
    have hP : va_P D vwCl (XW ad cI cJ co fl ra p_1 re wa pi) H := hP
    have hD : va_D A (XW ad cI cJ co fl ra p_1 re wa pi) := hD
    have hl : lv_has ls 5 [(0, .ref (ad 4)), (1, .ref (ad 1)), (2, .ref (ad 2)), (3, .int (nI i_1))] := hl
    refine lv_iload_n hx hb dX2_follow_2 rfl (lv_at hl 3 rfl) ?_
    refine lv_bipush (v := 40) hx hb dX2_follow_3 (by decide) ?_
    refine lv_icmp_ge (tgt := 23) hx hb dX2_follow_5 (by decide) (fun c_5 => absurd c_5 (nI_ge hi_1 (by decide))) (fun _ => ?_)
    refine lv_aload_n hx hb dX2_follow_8 rfl (lv_at hl 0 rfl) ?_
    refine va_get (D := D) (ci := 2) (v := .ref (ad 23)) (C := RX2) (T := TX2) (N := 3) hx hb hg inGX2 hown hK hP 4 rfl rfl 0 (by decide) (hg _ mw_147) (fun _ h9 => h9) rfl dX2_follow_9 ?_
    refine lv_iload_n hx hb dX2_follow_12 rfl (lv_at hl 3 rfl) ?_
    refine lv_iconst (v := 0) hx hb dX2_follow_13 (by decide) ?_
    refine kV (rSN hx hb hml hown hg hN hK hP hD (c_put l D cI cJ (XW ad cI cJ co fl ra p_1 re wa pi) 23 (ad 23) 40 (gA p_1 0) (nI i_1) 0 rfl (by decide)) mw_92 nw_79 mw_93 mw_77 pd_X7_put ⟨Nat.le_of_ble_eq_true rfl, Nat.le_of_ble_eq_true rfl⟩ rfl hl.1 rfl (Nat.le_of_ble_eq_true rfl) dX2_follow_14 ⟨Nat.le_of_ble_eq_true rfl, Nat.le_of_ble_eq_true rfl⟩) hD hS hA (fun u_10 H locs hp hP hD hS => ?_)
    obtain rfl := hp.symm
    have hP : va_P D vwCl (XW ad cI cJ co fl ra (sA p_1 0 (wr (gA p_1 0) 40 (nI i_1) 0)) re wa pi) H := hP
    have hD : va_D A (XW ad cI cJ co fl ra (sA p_1 0 (wr (gA p_1 0) 40 (nI i_1) 0)) re wa pi) := hD
    refine lv_iinc (v := (nI (i_1 + 1))) (lv' := [(3, .int (nI (i_1 + 1))), (0, .ref (ad 4)), (1, .ref (ad 1)), (2, .ref (ad 2))]) hx hb dX2_follow_17 hl (k := 3) rfl (nI_1 i_1) (by decide) rfl (fun ls hl => ?_)
    refine lv_goto (tgt := 2) hx hb dX2_follow_20 (by decide) ?_
    exact ih_1 (sA p_1 0 (wr (gA p_1 0) 40 (nI i_1) 0)) H locs ls ⟨((show (sA p_1 0 (wr (gA p_1 0) 40 (nI i_1) 0)) = liInit i_1 p_1 from (by first | with_reducible rfl | (simp only [liInit, gi_sl, gi_sA, gi_sB, gi_si_s, gi_si_n, gl_si, gl_sA, gl_sB, gl_sl_s, gl_sl_n, gA_si, gA_sl, gA_sB, gA_sA_s, gA_sA_n, gB_si, gB_sl, gB_sA, gB_sB_s, gB_sB_n, Nat.reduceBEq, if_true, if_false, eq_self, Bool.false_eq_true, reduceCtorEq, not_true_eq_false, not_false_eq_true, decide_true, decide_false, cond_true, cond_false, Bool.true_and, Bool.false_and, Bool.and_true, Bool.and_false, Bool.true_or, Bool.false_or, Bool.or_true, Bool.or_false, b2i_tt, b2i_ff]; done) | rfl)).trans (lp_go h_1)), hP, hD, hS, lv_sub hl [1, 2, 3, 0] rfl⟩
