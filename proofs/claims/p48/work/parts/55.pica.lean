theorem dX3_top_0 : decode cX3_top 0 = .ok (.aload_n 0, 1) := by decide +kernel
theorem dX3_top_1 : decode cX3_top 1 = .ok (.getfield 18, 3) := by decide +kernel
theorem dX3_top_4 : decode cX3_top 4 = .ok (.aload_n 0, 1) := by decide +kernel
theorem dX3_top_5 : decode cX3_top 5 = .ok (.getfield 12, 3) := by decide +kernel
theorem dX3_top_8 : decode cX3_top 8 = .ok (.getfield 115, 3) := by decide +kernel
theorem dX3_top_11 : decode cX3_top 11 = .ok (.iload_n 1, 1) := by decide +kernel
theorem dX3_top_12 : decode cX3_top 12 = .ok (.invokestatic 95, 3) := by decide +kernel
theorem dX3_top_15 : decode cX3_top 15 = .ok (.invokestatic 95, 3) := by decide +kernel
theorem dX3_top_18 : decode cX3_top 18 = .ok (.ireturn, 1) := by decide +kernel
theorem dX3_bottom_0 : decode cX3_bottom 0 = .ok (.aload_n 0, 1) := by decide +kernel
theorem dX3_bottom_1 : decode cX3_bottom 1 = .ok (.getfield 18, 3) := by decide +kernel
theorem dX3_bottom_4 : decode cX3_bottom 4 = .ok (.aload_n 0, 1) := by decide +kernel
theorem dX3_bottom_5 : decode cX3_bottom 5 = .ok (.getfield 12, 3) := by decide +kernel
theorem dX3_bottom_8 : decode cX3_bottom 8 = .ok (.getfield 108, 3) := by decide +kernel
theorem dX3_bottom_11 : decode cX3_bottom 11 = .ok (.iload_n 1, 1) := by decide +kernel
theorem dX3_bottom_12 : decode cX3_bottom 12 = .ok (.invokestatic 95, 3) := by decide +kernel
theorem dX3_bottom_15 : decode cX3_bottom 15 = .ok (.invokestatic 95, 3) := by decide +kernel
theorem dX3_bottom_18 : decode cX3_bottom 18 = .ok (.ireturn, 1) := by decide +kernel
theorem dX3_pushDown_0 : decode cX3_pushDown 0 = .ok (.iconst 0, 1) := by decide +kernel
theorem dX3_pushDown_1 : decode cX3_pushDown 1 = .ok (.istore_n 1, 1) := by decide +kernel
theorem dX3_pushDown_2 : decode cX3_pushDown 2 = .ok (.iconst 0, 1) := by decide +kernel
theorem dX3_pushDown_3 : decode cX3_pushDown 3 = .ok (.istore_n 2, 1) := by decide +kernel
theorem dX3_pushDown_4 : decode cX3_pushDown 4 = .ok (.iload_n 2, 1) := by decide +kernel
theorem dX3_pushDown_5 : decode cX3_pushDown 5 = .ok (.aload_n 0, 1) := by decide +kernel
theorem dX3_pushDown_6 : decode cX3_pushDown 6 = .ok (.getfield 58, 3) := by decide +kernel
theorem dX3_pushDown_9 : decode cX3_pushDown 9 = .ok (.if_icmp .ge 73, 3) := by decide +kernel
theorem dX3_pushDown_12 : decode cX3_pushDown 12 = .ok (.aload_n 0, 1) := by decide +kernel
theorem dX3_pushDown_13 : decode cX3_pushDown 13 = .ok (.getfield 12, 3) := by decide +kernel
theorem dX3_pushDown_16 : decode cX3_pushDown 16 = .ok (.iload_n 2, 1) := by decide +kernel
theorem dX3_pushDown_17 : decode cX3_pushDown 17 = .ok (.invokevirtual 104, 3) := by decide +kernel
theorem dX3_pushDown_20 : decode cX3_pushDown 20 = .ok (.ifCond .eq 56, 3) := by decide +kernel
theorem dX3_pushDown_23 : decode cX3_pushDown 23 = .ok (.aload_n 0, 1) := by decide +kernel
theorem dX3_pushDown_24 : decode cX3_pushDown 24 = .ok (.getfield 18, 3) := by decide +kernel
theorem dX3_pushDown_27 : decode cX3_pushDown 27 = .ok (.aload_n 0, 1) := by decide +kernel
theorem dX3_pushDown_28 : decode cX3_pushDown 28 = .ok (.getfield 12, 3) := by decide +kernel
theorem dX3_pushDown_31 : decode cX3_pushDown 31 = .ok (.getfield 108, 3) := by decide +kernel
theorem dX3_pushDown_34 : decode cX3_pushDown 34 = .ok (.iload_n 2, 1) := by decide +kernel
theorem dX3_pushDown_35 : decode cX3_pushDown 35 = .ok (.invokestatic 95, 3) := by decide +kernel
theorem dX3_pushDown_38 : decode cX3_pushDown 38 = .ok (.invokestatic 95, 3) := by decide +kernel
theorem dX3_pushDown_41 : decode cX3_pushDown 41 = .ok (.aload_n 0, 1) := by decide +kernel
theorem dX3_pushDown_42 : decode cX3_pushDown 42 = .ok (.iload_n 2, 1) := by decide +kernel
theorem dX3_pushDown_43 : decode cX3_pushDown 43 = .ok (.invokevirtual 111, 3) := by decide +kernel
theorem dX3_pushDown_46 : decode cX3_pushDown 46 = .ok (.if_icmp .gt 30, 3) := by decide +kernel
theorem dX3_pushDown_49 : decode cX3_pushDown 49 = .ok (.aload_n 0, 1) := by decide +kernel
theorem dX3_pushDown_50 : decode cX3_pushDown 50 = .ok (.getfield 18, 3) := by decide +kernel
theorem dX3_pushDown_53 : decode cX3_pushDown 53 = .ok (.aload_n 0, 1) := by decide +kernel
theorem dX3_pushDown_54 : decode cX3_pushDown 54 = .ok (.getfield 12, 3) := by decide +kernel
theorem dX3_pushDown_57 : decode cX3_pushDown 57 = .ok (.getfield 108, 3) := by decide +kernel
theorem dX3_pushDown_60 : decode cX3_pushDown 60 = .ok (.iload_n 2, 1) := by decide +kernel
theorem dX3_pushDown_61 : decode cX3_pushDown 61 = .ok (.invokestatic 95, 3) := by decide +kernel
theorem dX3_pushDown_64 : decode cX3_pushDown 64 = .ok (.aload_n 0, 1) := by decide +kernel
theorem dX3_pushDown_65 : decode cX3_pushDown 65 = .ok (.iload_n 2, 1) := by decide +kernel
theorem dX3_pushDown_66 : decode cX3_pushDown 66 = .ok (.invokevirtual 111, 3) := by decide +kernel
theorem dX3_pushDown_69 : decode cX3_pushDown 69 = .ok (.iconst 1, 1) := by decide +kernel
theorem dX3_pushDown_70 : decode cX3_pushDown 70 = .ok (.iadd, 1) := by decide +kernel
theorem dX3_pushDown_71 : decode cX3_pushDown 71 = .ok (.invokestatic 75, 3) := by decide +kernel
theorem dX3_pushDown_74 : decode cX3_pushDown 74 = .ok (.iconst 1, 1) := by decide +kernel
theorem dX3_pushDown_75 : decode cX3_pushDown 75 = .ok (.istore_n 1, 1) := by decide +kernel
theorem dX3_pushDown_76 : decode cX3_pushDown 76 = .ok (.iinc 2 1, 3) := by decide +kernel
theorem dX3_pushDown_79 : decode cX3_pushDown 79 = .ok (.goto (-75), 3) := by decide +kernel
theorem dX3_pushDown_82 : decode cX3_pushDown 82 = .ok (.iload_n 1, 1) := by decide +kernel
theorem dX3_pushDown_83 : decode cX3_pushDown 83 = .ok (.ireturn, 1) := by decide +kernel
theorem dX3_setLayers_0 : decode cX3_setLayers 0 = .ok (.iconst 0, 1) := by decide +kernel
theorem dX3_setLayers_1 : decode cX3_setLayers 1 = .ok (.istore_n 1, 1) := by decide +kernel
theorem dX3_setLayers_2 : decode cX3_setLayers 2 = .ok (.iload_n 1, 1) := by decide +kernel
theorem dX3_setLayers_3 : decode cX3_setLayers 3 = .ok (.bipush 40, 2) := by decide +kernel
theorem dX3_setLayers_5 : decode cX3_setLayers 5 = .ok (.if_icmp .ge 36, 3) := by decide +kernel
theorem dX3_setLayers_8 : decode cX3_setLayers 8 = .ok (.aload_n 0, 1) := by decide +kernel
theorem dX3_setLayers_9 : decode cX3_setLayers 9 = .ok (.getfield 18, 3) := by decide +kernel
theorem dX3_setLayers_12 : decode cX3_setLayers 12 = .ok (.iload_n 1, 1) := by decide +kernel
theorem dX3_setLayers_13 : decode cX3_setLayers 13 = .ok (.aload_n 0, 1) := by decide +kernel
theorem dX3_setLayers_14 : decode cX3_setLayers 14 = .ok (.getfield 12, 3) := by decide +kernel
theorem dX3_setLayers_17 : decode cX3_setLayers 17 = .ok (.getfield 83, 3) := by decide +kernel
theorem dX3_setLayers_20 : decode cX3_setLayers 20 = .ok (.iload_n 1, 1) := by decide +kernel
theorem dX3_setLayers_21 : decode cX3_setLayers 21 = .ok (.invokestatic 87, 3) := by decide +kernel
theorem dX3_setLayers_24 : decode cX3_setLayers 24 = .ok (.ifCond .eq 7, 3) := by decide +kernel
theorem dX3_setLayers_27 : decode cX3_setLayers 27 = .ok (.iconst 0, 1) := by decide +kernel
theorem dX3_setLayers_28 : decode cX3_setLayers 28 = .ok (.goto 4, 3) := by decide +kernel
theorem dX3_setLayers_31 : decode cX3_setLayers 31 = .ok (.iconst (-1), 1) := by decide +kernel
theorem dX3_setLayers_32 : decode cX3_setLayers 32 = .ok (.invokestatic 75, 3) := by decide +kernel
theorem dX3_setLayers_35 : decode cX3_setLayers 35 = .ok (.iinc 1 1, 3) := by decide +kernel
theorem dX3_setLayers_38 : decode cX3_setLayers 38 = .ok (.goto (-36), 3) := by decide +kernel
theorem dX3_setLayers_41 : decode cX3_setLayers 41 = .ok (.iconst 1, 1) := by decide +kernel
theorem dX3_setLayers_42 : decode cX3_setLayers 42 = .ok (.istore_n 1, 1) := by decide +kernel
theorem dX3_setLayers_43 : decode cX3_setLayers 43 = .ok (.iconst 0, 1) := by decide +kernel
theorem dX3_setLayers_44 : decode cX3_setLayers 44 = .ok (.istore_n 2, 1) := by decide +kernel
theorem dX3_setLayers_45 : decode cX3_setLayers 45 = .ok (.iload_n 2, 1) := by decide +kernel
theorem dX3_setLayers_46 : decode cX3_setLayers 46 = .ok (.bipush 40, 2) := by decide +kernel
theorem dX3_setLayers_48 : decode cX3_setLayers 48 = .ok (.if_icmp .ge 18, 3) := by decide +kernel
theorem dX3_setLayers_51 : decode cX3_setLayers 51 = .ok (.iload_n 1, 1) := by decide +kernel
theorem dX3_setLayers_52 : decode cX3_setLayers 52 = .ok (.ifCond .eq 14, 3) := by decide +kernel
theorem dX3_setLayers_55 : decode cX3_setLayers 55 = .ok (.aload_n 0, 1) := by decide +kernel
theorem dX3_setLayers_56 : decode cX3_setLayers 56 = .ok (.invokevirtual 91, 3) := by decide +kernel
theorem dX3_setLayers_59 : decode cX3_setLayers 59 = .ok (.istore_n 1, 1) := by decide +kernel
theorem dX3_setLayers_60 : decode cX3_setLayers 60 = .ok (.iinc 2 1, 3) := by decide +kernel
theorem dX3_setLayers_63 : decode cX3_setLayers 63 = .ok (.goto (-18), 3) := by decide +kernel
theorem dX3_setLayers_66 : decode cX3_setLayers 66 = .ok (.aload_n 0, 1) := by decide +kernel
theorem dX3_setLayers_67 : decode cX3_setLayers 67 = .ok (.iconst 0, 1) := by decide +kernel
theorem dX3_setLayers_68 : decode cX3_setLayers 68 = .ok (.putfield 72, 3) := by decide +kernel
theorem dX3_setLayers_71 : decode cX3_setLayers 71 = .ok (.iconst 0, 1) := by decide +kernel
theorem dX3_setLayers_72 : decode cX3_setLayers 72 = .ok (.istore_n 2, 1) := by decide +kernel
theorem dX3_setLayers_73 : decode cX3_setLayers 73 = .ok (.iload_n 2, 1) := by decide +kernel
theorem dX3_setLayers_74 : decode cX3_setLayers 74 = .ok (.bipush 40, 2) := by decide +kernel
theorem dX3_setLayers_76 : decode cX3_setLayers 76 = .ok (.if_icmp .ge 30, 3) := by decide +kernel
theorem dX3_setLayers_79 : decode cX3_setLayers 79 = .ok (.aload_n 0, 1) := by decide +kernel
theorem dX3_setLayers_80 : decode cX3_setLayers 80 = .ok (.aload_n 0, 1) := by decide +kernel
theorem dX3_setLayers_81 : decode cX3_setLayers 81 = .ok (.getfield 72, 3) := by decide +kernel
theorem dX3_setLayers_84 : decode cX3_setLayers 84 = .ok (.aload_n 0, 1) := by decide +kernel
theorem dX3_setLayers_85 : decode cX3_setLayers 85 = .ok (.getfield 18, 3) := by decide +kernel
theorem dX3_setLayers_88 : decode cX3_setLayers 88 = .ok (.iload_n 2, 1) := by decide +kernel
theorem dX3_setLayers_89 : decode cX3_setLayers 89 = .ok (.invokestatic 95, 3) := by decide +kernel
theorem dX3_setLayers_92 : decode cX3_setLayers 92 = .ok (.iconst 1, 1) := by decide +kernel
theorem dX3_setLayers_93 : decode cX3_setLayers 93 = .ok (.iadd, 1) := by decide +kernel
theorem dX3_setLayers_94 : decode cX3_setLayers 94 = .ok (.invokestatic 99, 3) := by decide +kernel
theorem dX3_setLayers_97 : decode cX3_setLayers 97 = .ok (.putfield 72, 3) := by decide +kernel
theorem dX3_setLayers_100 : decode cX3_setLayers 100 = .ok (.iinc 2 1, 3) := by decide +kernel
theorem dX3_setLayers_103 : decode cX3_setLayers 103 = .ok (.goto (-30), 3) := by decide +kernel
theorem dX3_setLayers_106 : decode cX3_setLayers 106 = .ok (.return_, 1) := by decide +kernel
theorem dX3_bendCount_0 : decode cX3_bendCount 0 = .ok (.aload_n 0, 1) := by decide +kernel
theorem dX3_bendCount_1 : decode cX3_bendCount 1 = .ok (.getfield 12, 3) := by decide +kernel
theorem dX3_bendCount_4 : decode cX3_bendCount 4 = .ok (.iload_n 1, 1) := by decide +kernel
theorem dX3_bendCount_5 : decode cX3_bendCount 5 = .ok (.invokevirtual 104, 3) := by decide +kernel
theorem dX3_bendCount_8 : decode cX3_bendCount 8 = .ok (.ifCond .eq 19, 3) := by decide +kernel
theorem dX3_bendCount_11 : decode cX3_bendCount 11 = .ok (.aload_n 0, 1) := by decide +kernel
theorem dX3_bendCount_12 : decode cX3_bendCount 12 = .ok (.iload_n 1, 1) := by decide +kernel
theorem dX3_bendCount_13 : decode cX3_bendCount 13 = .ok (.invokevirtual 131, 3) := by decide +kernel
theorem dX3_bendCount_16 : decode cX3_bendCount 16 = .ok (.aload_n 0, 1) := by decide +kernel
theorem dX3_bendCount_17 : decode cX3_bendCount 17 = .ok (.iload_n 1, 1) := by decide +kernel
theorem dX3_bendCount_18 : decode cX3_bendCount 18 = .ok (.invokevirtual 111, 3) := by decide +kernel
theorem dX3_bendCount_21 : decode cX3_bendCount 21 = .ok (.isub, 1) := by decide +kernel
theorem dX3_bendCount_22 : decode cX3_bendCount 22 = .ok (.iconst 1, 1) := by decide +kernel
theorem dX3_bendCount_23 : decode cX3_bendCount 23 = .ok (.isub, 1) := by decide +kernel
theorem dX3_bendCount_24 : decode cX3_bendCount 24 = .ok (.goto 4, 3) := by decide +kernel
theorem dX3_bendCount_27 : decode cX3_bendCount 27 = .ok (.iconst (-1), 1) := by decide +kernel
theorem dX3_bendCount_28 : decode cX3_bendCount 28 = .ok (.ireturn, 1) := by decide +kernel
theorem dX3_numberBends_0 : decode cX3_numberBends 0 = .ok (.bipush 40, 2) := by decide +kernel
theorem dX3_numberBends_2 : decode cX3_numberBends 2 = .ok (.istore_n 1, 1) := by decide +kernel
theorem dX3_numberBends_3 : decode cX3_numberBends 3 = .ok (.iconst 0, 1) := by decide +kernel
theorem dX3_numberBends_4 : decode cX3_numberBends 4 = .ok (.istore_n 2, 1) := by decide +kernel
theorem dX3_numberBends_5 : decode cX3_numberBends 5 = .ok (.iload_n 2, 1) := by decide +kernel
theorem dX3_numberBends_6 : decode cX3_numberBends 6 = .ok (.aload_n 0, 1) := by decide +kernel
theorem dX3_numberBends_7 : decode cX3_numberBends 7 = .ok (.getfield 58, 3) := by decide +kernel
theorem dX3_numberBends_10 : decode cX3_numberBends 10 = .ok (.if_icmp .ge 51, 3) := by decide +kernel
theorem dX3_numberBends_13 : decode cX3_numberBends 13 = .ok (.aload_n 0, 1) := by decide +kernel
theorem dX3_numberBends_14 : decode cX3_numberBends 14 = .ok (.getfield 25, 3) := by decide +kernel
theorem dX3_numberBends_17 : decode cX3_numberBends 17 = .ok (.iload_n 2, 1) := by decide +kernel
theorem dX3_numberBends_18 : decode cX3_numberBends 18 = .ok (.iload_n 1, 1) := by decide +kernel
theorem dX3_numberBends_19 : decode cX3_numberBends 19 = .ok (.invokestatic 75, 3) := by decide +kernel
theorem dX3_numberBends_22 : decode cX3_numberBends 22 = .ok (.aload_n 0, 1) := by decide +kernel
theorem dX3_numberBends_23 : decode cX3_numberBends 23 = .ok (.iload_n 2, 1) := by decide +kernel
theorem dX3_numberBends_24 : decode cX3_numberBends 24 = .ok (.invokevirtual 118, 3) := by decide +kernel
theorem dX3_numberBends_27 : decode cX3_numberBends 27 = .ok (.istore_n 3, 1) := by decide +kernel
theorem dX3_numberBends_28 : decode cX3_numberBends 28 = .ok (.iconst 0, 1) := by decide +kernel
theorem dX3_numberBends_29 : decode cX3_numberBends 29 = .ok (.istore 4, 2) := by decide +kernel
theorem dX3_numberBends_31 : decode cX3_numberBends 31 = .ok (.iload 4, 2) := by decide +kernel
theorem dX3_numberBends_33 : decode cX3_numberBends 33 = .ok (.iload_n 3, 1) := by decide +kernel
theorem dX3_numberBends_34 : decode cX3_numberBends 34 = .ok (.if_icmp .ge 21, 3) := by decide +kernel
theorem dX3_numberBends_37 : decode cX3_numberBends 37 = .ok (.aload_n 0, 1) := by decide +kernel
theorem dX3_numberBends_38 : decode cX3_numberBends 38 = .ok (.getfield 28, 3) := by decide +kernel
theorem dX3_numberBends_41 : decode cX3_numberBends 41 = .ok (.iload_n 1, 1) := by decide +kernel
theorem dX3_numberBends_42 : decode cX3_numberBends 42 = .ok (.iload_n 2, 1) := by decide +kernel
theorem dX3_numberBends_43 : decode cX3_numberBends 43 = .ok (.invokestatic 75, 3) := by decide +kernel
theorem dX3_numberBends_46 : decode cX3_numberBends 46 = .ok (.iinc 1 1, 3) := by decide +kernel
theorem dX3_numberBends_49 : decode cX3_numberBends 49 = .ok (.iinc 4 1, 3) := by decide +kernel
theorem dX3_numberBends_52 : decode cX3_numberBends 52 = .ok (.goto (-21), 3) := by decide +kernel
theorem dX3_numberBends_55 : decode cX3_numberBends 55 = .ok (.iinc 2 1, 3) := by decide +kernel
theorem dX3_numberBends_58 : decode cX3_numberBends 58 = .ok (.goto (-53), 3) := by decide +kernel
theorem dX3_numberBends_61 : decode cX3_numberBends 61 = .ok (.return_, 1) := by decide +kernel
theorem dX3_putPoint_0 : decode cX3_putPoint 0 = .ok (.aload_n 0, 1) := by decide +kernel
theorem dX3_putPoint_1 : decode cX3_putPoint 1 = .ok (.getfield 31, 3) := by decide +kernel
theorem dX3_putPoint_4 : decode cX3_putPoint 4 = .ok (.iload_n 2, 1) := by decide +kernel
theorem dX3_putPoint_5 : decode cX3_putPoint 5 = .ok (.iload_n 3, 1) := by decide +kernel
theorem dX3_putPoint_6 : decode cX3_putPoint 6 = .ok (.invokestatic 75, 3) := by decide +kernel
theorem dX3_putPoint_9 : decode cX3_putPoint 9 = .ok (.aload_n 0, 1) := by decide +kernel
theorem dX3_putPoint_10 : decode cX3_putPoint 10 = .ok (.getfield 34, 3) := by decide +kernel
theorem dX3_putPoint_13 : decode cX3_putPoint 13 = .ok (.iload_n 3, 1) := by decide +kernel
theorem dX3_putPoint_14 : decode cX3_putPoint 14 = .ok (.iload_n 2, 1) := by decide +kernel
theorem dX3_putPoint_15 : decode cX3_putPoint 15 = .ok (.aload_n 0, 1) := by decide +kernel
theorem dX3_putPoint_16 : decode cX3_putPoint 16 = .ok (.getfield 22, 3) := by decide +kernel
theorem dX3_putPoint_19 : decode cX3_putPoint 19 = .ok (.iload_n 1, 1) := by decide +kernel
theorem dX3_putPoint_20 : decode cX3_putPoint 20 = .ok (.invokestatic 95, 3) := by decide +kernel
theorem dX3_putPoint_23 : decode cX3_putPoint 23 = .ok (.isub, 1) := by decide +kernel
theorem dX3_putPoint_24 : decode cX3_putPoint 24 = .ok (.invokestatic 75, 3) := by decide +kernel
theorem dX3_putPoint_27 : decode cX3_putPoint 27 = .ok (.return_, 1) := by decide +kernel
theorem dX3_pointOn_0 : decode cX3_pointOn 0 = .ok (.iload_n 2, 1) := by decide +kernel
theorem dX3_pointOn_1 : decode cX3_pointOn 1 = .ok (.aload_n 0, 1) := by decide +kernel
theorem dX3_pointOn_2 : decode cX3_pointOn 2 = .ok (.iload_n 1, 1) := by decide +kernel
theorem dX3_pointOn_3 : decode cX3_pointOn 3 = .ok (.invokevirtual 111, 3) := by decide +kernel
theorem dX3_pointOn_6 : decode cX3_pointOn 6 = .ok (.if_icmp .ne 15, 3) := by decide +kernel
theorem dX3_pointOn_9 : decode cX3_pointOn 9 = .ok (.aload_n 0, 1) := by decide +kernel
theorem dX3_pointOn_10 : decode cX3_pointOn 10 = .ok (.getfield 12, 3) := by decide +kernel
theorem dX3_pointOn_13 : decode cX3_pointOn 13 = .ok (.getfield 115, 3) := by decide +kernel
theorem dX3_pointOn_16 : decode cX3_pointOn 16 = .ok (.iload_n 1, 1) := by decide +kernel
theorem dX3_pointOn_17 : decode cX3_pointOn 17 = .ok (.invokestatic 95, 3) := by decide +kernel
theorem dX3_pointOn_20 : decode cX3_pointOn 20 = .ok (.ireturn, 1) := by decide +kernel
theorem dX3_pointOn_21 : decode cX3_pointOn 21 = .ok (.iload_n 2, 1) := by decide +kernel
theorem dX3_pointOn_22 : decode cX3_pointOn 22 = .ok (.aload_n 0, 1) := by decide +kernel
theorem dX3_pointOn_23 : decode cX3_pointOn 23 = .ok (.iload_n 1, 1) := by decide +kernel
theorem dX3_pointOn_24 : decode cX3_pointOn 24 = .ok (.invokevirtual 131, 3) := by decide +kernel
theorem dX3_pointOn_27 : decode cX3_pointOn 27 = .ok (.if_icmp .ne 15, 3) := by decide +kernel
theorem dX3_pointOn_30 : decode cX3_pointOn 30 = .ok (.aload_n 0, 1) := by decide +kernel
theorem dX3_pointOn_31 : decode cX3_pointOn 31 = .ok (.getfield 12, 3) := by decide +kernel
theorem dX3_pointOn_34 : decode cX3_pointOn 34 = .ok (.getfield 108, 3) := by decide +kernel
theorem dX3_pointOn_37 : decode cX3_pointOn 37 = .ok (.iload_n 1, 1) := by decide +kernel
theorem dX3_pointOn_38 : decode cX3_pointOn 38 = .ok (.invokestatic 95, 3) := by decide +kernel
theorem dX3_pointOn_41 : decode cX3_pointOn 41 = .ok (.ireturn, 1) := by decide +kernel
theorem dX3_pointOn_42 : decode cX3_pointOn 42 = .ok (.aload_n 0, 1) := by decide +kernel
theorem dX3_pointOn_43 : decode cX3_pointOn 43 = .ok (.getfield 25, 3) := by decide +kernel
theorem dX3_pointOn_46 : decode cX3_pointOn 46 = .ok (.iload_n 1, 1) := by decide +kernel
theorem dX3_pointOn_47 : decode cX3_pointOn 47 = .ok (.invokestatic 95, 3) := by decide +kernel
theorem dX3_pointOn_50 : decode cX3_pointOn 50 = .ok (.iload_n 2, 1) := by decide +kernel
theorem dX3_pointOn_51 : decode cX3_pointOn 51 = .ok (.iadd, 1) := by decide +kernel
theorem dX3_pointOn_52 : decode cX3_pointOn 52 = .ok (.aload_n 0, 1) := by decide +kernel
theorem dX3_pointOn_53 : decode cX3_pointOn 53 = .ok (.iload_n 1, 1) := by decide +kernel
theorem dX3_pointOn_54 : decode cX3_pointOn 54 = .ok (.invokevirtual 111, 3) := by decide +kernel
theorem dX3_pointOn_57 : decode cX3_pointOn 57 = .ok (.isub, 1) := by decide +kernel
theorem dX3_pointOn_58 : decode cX3_pointOn 58 = .ok (.iconst 1, 1) := by decide +kernel
theorem dX3_pointOn_59 : decode cX3_pointOn 59 = .ok (.isub, 1) := by decide +kernel
theorem dX3_pointOn_60 : decode cX3_pointOn 60 = .ok (.ireturn, 1) := by decide +kernel
theorem dX3_fill_0 : decode cX3_fill 0 = .ok (.iload_n 2, 1) := by decide +kernel
theorem dX3_fill_1 : decode cX3_fill 1 = .ok (.istore_n 3, 1) := by decide +kernel
theorem dX3_fill_2 : decode cX3_fill 2 = .ok (.iconst 0, 1) := by decide +kernel
theorem dX3_fill_3 : decode cX3_fill 3 = .ok (.istore 4, 2) := by decide +kernel
theorem dX3_fill_5 : decode cX3_fill 5 = .ok (.iload 4, 2) := by decide +kernel
theorem dX3_fill_7 : decode cX3_fill 7 = .ok (.aload_n 0, 1) := by decide +kernel
theorem dX3_fill_8 : decode cX3_fill 8 = .ok (.getfield 12, 3) := by decide +kernel
theorem dX3_fill_11 : decode cX3_fill 11 = .ok (.getfield 121, 3) := by decide +kernel
theorem dX3_fill_14 : decode cX3_fill 14 = .ok (.if_icmp .ge 47, 3) := by decide +kernel
theorem dX3_fill_17 : decode cX3_fill 17 = .ok (.aload_n 0, 1) := by decide +kernel
theorem dX3_fill_18 : decode cX3_fill 18 = .ok (.getfield 12, 3) := by decide +kernel
theorem dX3_fill_21 : decode cX3_fill 21 = .ok (.getfield 124, 3) := by decide +kernel
theorem dX3_fill_24 : decode cX3_fill 24 = .ok (.iload 4, 2) := by decide +kernel
theorem dX3_fill_26 : decode cX3_fill 26 = .ok (.invokestatic 95, 3) := by decide +kernel
theorem dX3_fill_29 : decode cX3_fill 29 = .ok (.istore 5, 2) := by decide +kernel
theorem dX3_fill_31 : decode cX3_fill 31 = .ok (.aload_n 0, 1) := by decide +kernel
theorem dX3_fill_32 : decode cX3_fill 32 = .ok (.getfield 18, 3) := by decide +kernel
theorem dX3_fill_35 : decode cX3_fill 35 = .ok (.iload 5, 2) := by decide +kernel
theorem dX3_fill_37 : decode cX3_fill 37 = .ok (.invokestatic 95, 3) := by decide +kernel
theorem dX3_fill_40 : decode cX3_fill 40 = .ok (.iload_n 1, 1) := by decide +kernel
theorem dX3_fill_41 : decode cX3_fill 41 = .ok (.if_icmp .ne 14, 3) := by decide +kernel
theorem dX3_fill_44 : decode cX3_fill 44 = .ok (.aload_n 0, 1) := by decide +kernel
theorem dX3_fill_45 : decode cX3_fill 45 = .ok (.iload_n 1, 1) := by decide +kernel
theorem dX3_fill_46 : decode cX3_fill 46 = .ok (.iload_n 3, 1) := by decide +kernel
theorem dX3_fill_47 : decode cX3_fill 47 = .ok (.iload 5, 2) := by decide +kernel
theorem dX3_fill_49 : decode cX3_fill 49 = .ok (.invokevirtual 127, 3) := by decide +kernel
theorem dX3_fill_52 : decode cX3_fill 52 = .ok (.iinc 3 1, 3) := by decide +kernel
theorem dX3_fill_55 : decode cX3_fill 55 = .ok (.iinc 4 1, 3) := by decide +kernel
theorem dX3_fill_58 : decode cX3_fill 58 = .ok (.goto (-53), 3) := by decide +kernel
theorem dX3_fill_61 : decode cX3_fill 61 = .ok (.iconst 0, 1) := by decide +kernel
theorem dX3_fill_62 : decode cX3_fill 62 = .ok (.istore 4, 2) := by decide +kernel
theorem dX3_fill_64 : decode cX3_fill 64 = .ok (.iload 4, 2) := by decide +kernel
theorem dX3_fill_66 : decode cX3_fill 66 = .ok (.aload_n 0, 1) := by decide +kernel
theorem dX3_fill_67 : decode cX3_fill 67 = .ok (.getfield 58, 3) := by decide +kernel
theorem dX3_fill_70 : decode cX3_fill 70 = .ok (.if_icmp .ge 57, 3) := by decide +kernel
theorem dX3_fill_73 : decode cX3_fill 73 = .ok (.aload_n 0, 1) := by decide +kernel
theorem dX3_fill_74 : decode cX3_fill 74 = .ok (.getfield 12, 3) := by decide +kernel
theorem dX3_fill_77 : decode cX3_fill 77 = .ok (.iload 4, 2) := by decide +kernel
theorem dX3_fill_79 : decode cX3_fill 79 = .ok (.invokevirtual 104, 3) := by decide +kernel
theorem dX3_fill_82 : decode cX3_fill 82 = .ok (.ifCond .eq 39, 3) := by decide +kernel
theorem dX3_fill_85 : decode cX3_fill 85 = .ok (.aload_n 0, 1) := by decide +kernel
theorem dX3_fill_86 : decode cX3_fill 86 = .ok (.iload 4, 2) := by decide +kernel
theorem dX3_fill_88 : decode cX3_fill 88 = .ok (.invokevirtual 111, 3) := by decide +kernel
theorem dX3_fill_91 : decode cX3_fill 91 = .ok (.iload_n 1, 1) := by decide +kernel
theorem dX3_fill_92 : decode cX3_fill 92 = .ok (.if_icmp .ge 29, 3) := by decide +kernel
theorem dX3_fill_95 : decode cX3_fill 95 = .ok (.iload_n 1, 1) := by decide +kernel
theorem dX3_fill_96 : decode cX3_fill 96 = .ok (.aload_n 0, 1) := by decide +kernel
theorem dX3_fill_97 : decode cX3_fill 97 = .ok (.iload 4, 2) := by decide +kernel
theorem dX3_fill_99 : decode cX3_fill 99 = .ok (.invokevirtual 131, 3) := by decide +kernel
theorem dX3_fill_102 : decode cX3_fill 102 = .ok (.if_icmp .ge 19, 3) := by decide +kernel
theorem dX3_fill_105 : decode cX3_fill 105 = .ok (.aload_n 0, 1) := by decide +kernel
theorem dX3_fill_106 : decode cX3_fill 106 = .ok (.iload_n 1, 1) := by decide +kernel
theorem dX3_fill_107 : decode cX3_fill 107 = .ok (.iload_n 3, 1) := by decide +kernel
theorem dX3_fill_108 : decode cX3_fill 108 = .ok (.aload_n 0, 1) := by decide +kernel
theorem dX3_fill_109 : decode cX3_fill 109 = .ok (.iload 4, 2) := by decide +kernel
theorem dX3_fill_111 : decode cX3_fill 111 = .ok (.iload_n 1, 1) := by decide +kernel
theorem dX3_fill_112 : decode cX3_fill 112 = .ok (.invokevirtual 134, 3) := by decide +kernel
theorem dX3_fill_115 : decode cX3_fill 115 = .ok (.invokevirtual 127, 3) := by decide +kernel
theorem dX3_fill_118 : decode cX3_fill 118 = .ok (.iinc 3 1, 3) := by decide +kernel
theorem dX3_fill_121 : decode cX3_fill 121 = .ok (.iinc 4 1, 3) := by decide +kernel
theorem dX3_fill_124 : decode cX3_fill 124 = .ok (.goto (-60), 3) := by decide +kernel
theorem dX3_fill_127 : decode cX3_fill 127 = .ok (.iload_n 3, 1) := by decide +kernel
theorem dX3_fill_128 : decode cX3_fill 128 = .ok (.ireturn, 1) := by decide +kernel
theorem dX3_draw_0 : decode cX3_draw 0 = .ok (.aload_n 0, 1) := by decide +kernel
theorem dX3_draw_1 : decode cX3_draw 1 = .ok (.aload_n 1, 1) := by decide +kernel
theorem dX3_draw_2 : decode cX3_draw 2 = .ok (.getfield 52, 3) := by decide +kernel
theorem dX3_draw_5 : decode cX3_draw 5 = .ok (.putfield 58, 3) := by decide +kernel
theorem dX3_draw_8 : decode cX3_draw 8 = .ok (.aload_n 0, 1) := by decide +kernel
theorem dX3_draw_9 : decode cX3_draw 9 = .ok (.iconst 0, 1) := by decide +kernel
theorem dX3_draw_10 : decode cX3_draw 10 = .ok (.putfield 59, 3) := by decide +kernel
theorem dX3_draw_13 : decode cX3_draw 13 = .ok (.aload_n 0, 1) := by decide +kernel
theorem dX3_draw_14 : decode cX3_draw 14 = .ok (.getfield 12, 3) := by decide +kernel
theorem dX3_draw_17 : decode cX3_draw 17 = .ok (.aload_n 1, 1) := by decide +kernel
theorem dX3_draw_18 : decode cX3_draw 18 = .ok (.invokevirtual 62, 3) := by decide +kernel
theorem dX3_draw_21 : decode cX3_draw 21 = .ok (.aload_n 0, 1) := by decide +kernel
theorem dX3_draw_22 : decode cX3_draw 22 = .ok (.invokevirtual 66, 3) := by decide +kernel
theorem dX3_draw_25 : decode cX3_draw 25 = .ok (.aload_n 0, 1) := by decide +kernel
theorem dX3_draw_26 : decode cX3_draw 26 = .ok (.invokevirtual 69, 3) := by decide +kernel
theorem dX3_draw_29 : decode cX3_draw 29 = .ok (.iconst 0, 1) := by decide +kernel
theorem dX3_draw_30 : decode cX3_draw 30 = .ok (.istore_n 2, 1) := by decide +kernel
theorem dX3_draw_31 : decode cX3_draw 31 = .ok (.iconst 0, 1) := by decide +kernel
theorem dX3_draw_32 : decode cX3_draw 32 = .ok (.istore_n 3, 1) := by decide +kernel
theorem dX3_draw_33 : decode cX3_draw 33 = .ok (.iload_n 3, 1) := by decide +kernel
theorem dX3_draw_34 : decode cX3_draw 34 = .ok (.aload_n 0, 1) := by decide +kernel
theorem dX3_draw_35 : decode cX3_draw 35 = .ok (.getfield 72, 3) := by decide +kernel
theorem dX3_draw_38 : decode cX3_draw 38 = .ok (.if_icmp .ge 25, 3) := by decide +kernel
theorem dX3_draw_41 : decode cX3_draw 41 = .ok (.aload_n 0, 1) := by decide +kernel
theorem dX3_draw_42 : decode cX3_draw 42 = .ok (.getfield 22, 3) := by decide +kernel
theorem dX3_draw_45 : decode cX3_draw 45 = .ok (.iload_n 3, 1) := by decide +kernel
theorem dX3_draw_46 : decode cX3_draw 46 = .ok (.iload_n 2, 1) := by decide +kernel
theorem dX3_draw_47 : decode cX3_draw 47 = .ok (.invokestatic 75, 3) := by decide +kernel
theorem dX3_draw_50 : decode cX3_draw 50 = .ok (.aload_n 0, 1) := by decide +kernel
theorem dX3_draw_51 : decode cX3_draw 51 = .ok (.iload_n 3, 1) := by decide +kernel
theorem dX3_draw_52 : decode cX3_draw 52 = .ok (.iload_n 2, 1) := by decide +kernel
theorem dX3_draw_53 : decode cX3_draw 53 = .ok (.invokevirtual 79, 3) := by decide +kernel
theorem dX3_draw_56 : decode cX3_draw 56 = .ok (.istore_n 2, 1) := by decide +kernel
theorem dX3_draw_57 : decode cX3_draw 57 = .ok (.iinc 3 1, 3) := by decide +kernel
theorem dX3_draw_60 : decode cX3_draw 60 = .ok (.goto (-27), 3) := by decide +kernel
theorem dX3_draw_63 : decode cX3_draw 63 = .ok (.aload_n 0, 1) := by decide +kernel
theorem dX3_draw_64 : decode cX3_draw 64 = .ok (.getfield 22, 3) := by decide +kernel
theorem dX3_draw_67 : decode cX3_draw 67 = .ok (.aload_n 0, 1) := by decide +kernel
theorem dX3_draw_68 : decode cX3_draw 68 = .ok (.getfield 72, 3) := by decide +kernel
theorem dX3_draw_71 : decode cX3_draw 71 = .ok (.iload_n 2, 1) := by decide +kernel
theorem dX3_draw_72 : decode cX3_draw 72 = .ok (.invokestatic 75, 3) := by decide +kernel
theorem dX3_draw_75 : decode cX3_draw 75 = .ok (.return_, 1) := by decide +kernel
theorem dX3_sizeOf_0 : decode cX3_sizeOf 0 = .ok (.aload_n 0, 1) := by decide +kernel
theorem dX3_sizeOf_1 : decode cX3_sizeOf 1 = .ok (.getfield 22, 3) := by decide +kernel
theorem dX3_sizeOf_4 : decode cX3_sizeOf 4 = .ok (.iload_n 1, 1) := by decide +kernel
theorem dX3_sizeOf_5 : decode cX3_sizeOf 5 = .ok (.iconst 1, 1) := by decide +kernel
theorem dX3_sizeOf_6 : decode cX3_sizeOf 6 = .ok (.iadd, 1) := by decide +kernel
theorem dX3_sizeOf_7 : decode cX3_sizeOf 7 = .ok (.invokestatic 95, 3) := by decide +kernel
theorem dX3_sizeOf_10 : decode cX3_sizeOf 10 = .ok (.aload_n 0, 1) := by decide +kernel
theorem dX3_sizeOf_11 : decode cX3_sizeOf 11 = .ok (.getfield 22, 3) := by decide +kernel
theorem dX3_sizeOf_14 : decode cX3_sizeOf 14 = .ok (.iload_n 1, 1) := by decide +kernel
theorem dX3_sizeOf_15 : decode cX3_sizeOf 15 = .ok (.invokestatic 95, 3) := by decide +kernel
theorem dX3_sizeOf_18 : decode cX3_sizeOf 18 = .ok (.isub, 1) := by decide +kernel
theorem dX3_sizeOf_19 : decode cX3_sizeOf 19 = .ok (.ireturn, 1) := by decide +kernel
theorem dX3_shownAt_0 : decode cX3_shownAt 0 = .ok (.aload_n 0, 1) := by decide +kernel
theorem dX3_shownAt_1 : decode cX3_shownAt 1 = .ok (.getfield 31, 3) := by decide +kernel
theorem dX3_shownAt_4 : decode cX3_shownAt 4 = .ok (.aload_n 0, 1) := by decide +kernel
theorem dX3_shownAt_5 : decode cX3_shownAt 5 = .ok (.getfield 22, 3) := by decide +kernel
theorem dX3_shownAt_8 : decode cX3_shownAt 8 = .ok (.iload_n 1, 1) := by decide +kernel
theorem dX3_shownAt_9 : decode cX3_shownAt 9 = .ok (.invokestatic 95, 3) := by decide +kernel
theorem dX3_shownAt_12 : decode cX3_shownAt 12 = .ok (.iload_n 2, 1) := by decide +kernel
theorem dX3_shownAt_13 : decode cX3_shownAt 13 = .ok (.iadd, 1) := by decide +kernel
theorem dX3_shownAt_14 : decode cX3_shownAt 14 = .ok (.invokestatic 95, 3) := by decide +kernel
theorem dX3_shownAt_17 : decode cX3_shownAt 17 = .ok (.istore_n 3, 1) := by decide +kernel
theorem dX3_shownAt_18 : decode cX3_shownAt 18 = .ok (.iload_n 3, 1) := by decide +kernel
theorem dX3_shownAt_19 : decode cX3_shownAt 19 = .ok (.bipush 40, 2) := by decide +kernel
theorem dX3_shownAt_21 : decode cX3_shownAt 21 = .ok (.if_icmp .ge 7, 3) := by decide +kernel
theorem dX3_shownAt_24 : decode cX3_shownAt 24 = .ok (.iload_n 3, 1) := by decide +kernel
theorem dX3_shownAt_25 : decode cX3_shownAt 25 = .ok (.goto 13, 3) := by decide +kernel
theorem dX3_shownAt_28 : decode cX3_shownAt 28 = .ok (.iconst (-1), 1) := by decide +kernel
theorem dX3_shownAt_29 : decode cX3_shownAt 29 = .ok (.aload_n 0, 1) := by decide +kernel
theorem dX3_shownAt_30 : decode cX3_shownAt 30 = .ok (.getfield 28, 3) := by decide +kernel
theorem dX3_shownAt_33 : decode cX3_shownAt 33 = .ok (.iload_n 3, 1) := by decide +kernel
theorem dX3_shownAt_34 : decode cX3_shownAt 34 = .ok (.invokestatic 95, 3) := by decide +kernel
theorem dX3_shownAt_37 : decode cX3_shownAt 37 = .ok (.isub, 1) := by decide +kernel
theorem dX3_shownAt_38 : decode cX3_shownAt 38 = .ok (.ireturn, 1) := by decide +kernel
theorem dX3_placeOfBlock_0 : decode cX3_placeOfBlock 0 = .ok (.aload_n 0, 1) := by decide +kernel
theorem dX3_placeOfBlock_1 : decode cX3_placeOfBlock 1 = .ok (.getfield 18, 3) := by decide +kernel
theorem dX3_placeOfBlock_4 : decode cX3_placeOfBlock 4 = .ok (.iload_n 1, 1) := by decide +kernel
theorem dX3_placeOfBlock_5 : decode cX3_placeOfBlock 5 = .ok (.invokestatic 95, 3) := by decide +kernel
theorem dX3_placeOfBlock_8 : decode cX3_placeOfBlock 8 = .ok (.ifCond .ge 7, 3) := by decide +kernel
theorem dX3_placeOfBlock_11 : decode cX3_placeOfBlock 11 = .ok (.iconst (-1), 1) := by decide +kernel
theorem dX3_placeOfBlock_12 : decode cX3_placeOfBlock 12 = .ok (.goto 11, 3) := by decide +kernel
theorem dX3_placeOfBlock_15 : decode cX3_placeOfBlock 15 = .ok (.aload_n 0, 1) := by decide +kernel
theorem dX3_placeOfBlock_16 : decode cX3_placeOfBlock 16 = .ok (.getfield 34, 3) := by decide +kernel
theorem dX3_placeOfBlock_19 : decode cX3_placeOfBlock 19 = .ok (.iload_n 1, 1) := by decide +kernel
theorem dX3_placeOfBlock_20 : decode cX3_placeOfBlock 20 = .ok (.invokestatic 95, 3) := by decide +kernel
theorem dX3_placeOfBlock_23 : decode cX3_placeOfBlock 23 = .ok (.ireturn, 1) := by decide +kernel
theorem dX3_placeOfBend_0 : decode cX3_placeOfBend 0 = .ok (.aload_n 0, 1) := by decide +kernel
theorem dX3_placeOfBend_1 : decode cX3_placeOfBend 1 = .ok (.getfield 34, 3) := by decide +kernel
theorem dX3_placeOfBend_4 : decode cX3_placeOfBend 4 = .ok (.aload_n 0, 1) := by decide +kernel
theorem dX3_placeOfBend_5 : decode cX3_placeOfBend 5 = .ok (.getfield 25, 3) := by decide +kernel
theorem dX3_placeOfBend_8 : decode cX3_placeOfBend 8 = .ok (.iload_n 1, 1) := by decide +kernel
theorem dX3_placeOfBend_9 : decode cX3_placeOfBend 9 = .ok (.invokestatic 95, 3) := by decide +kernel
theorem dX3_placeOfBend_12 : decode cX3_placeOfBend 12 = .ok (.iload_n 2, 1) := by decide +kernel
theorem dX3_placeOfBend_13 : decode cX3_placeOfBend 13 = .ok (.iadd, 1) := by decide +kernel
theorem dX3_placeOfBend_14 : decode cX3_placeOfBend 14 = .ok (.invokestatic 95, 3) := by decide +kernel
theorem dX3_placeOfBend_17 : decode cX3_placeOfBend 17 = .ok (.ireturn, 1) := by decide +kernel
theorem dX3_leaves_0 : decode cX3_leaves 0 = .ok (.aload_n 0, 1) := by decide +kernel
theorem dX3_leaves_1 : decode cX3_leaves 1 = .ok (.getfield 12, 3) := by decide +kernel
theorem dX3_leaves_4 : decode cX3_leaves 4 = .ok (.iload_n 1, 1) := by decide +kernel
theorem dX3_leaves_5 : decode cX3_leaves 5 = .ok (.invokevirtual 104, 3) := by decide +kernel
theorem dX3_leaves_8 : decode cX3_leaves 8 = .ok (.ifCond .eq 25, 3) := by decide +kernel
theorem dX3_leaves_11 : decode cX3_leaves 11 = .ok (.aload_n 0, 1) := by decide +kernel
theorem dX3_leaves_12 : decode cX3_leaves 12 = .ok (.iload_n 1, 1) := by decide +kernel
theorem dX3_leaves_13 : decode cX3_leaves 13 = .ok (.invokevirtual 111, 3) := by decide +kernel
theorem dX3_leaves_16 : decode cX3_leaves 16 = .ok (.iload_n 2, 1) := by decide +kernel
theorem dX3_leaves_17 : decode cX3_leaves 17 = .ok (.if_icmp .gt 16, 3) := by decide +kernel
theorem dX3_leaves_20 : decode cX3_leaves 20 = .ok (.iload_n 2, 1) := by decide +kernel
theorem dX3_leaves_21 : decode cX3_leaves 21 = .ok (.aload_n 0, 1) := by decide +kernel
theorem dX3_leaves_22 : decode cX3_leaves 22 = .ok (.iload_n 1, 1) := by decide +kernel
theorem dX3_leaves_23 : decode cX3_leaves 23 = .ok (.invokevirtual 131, 3) := by decide +kernel
theorem dX3_leaves_26 : decode cX3_leaves 26 = .ok (.if_icmp .ge 7, 3) := by decide +kernel
theorem dX3_leaves_29 : decode cX3_leaves 29 = .ok (.iconst 1, 1) := by decide +kernel
theorem dX3_leaves_30 : decode cX3_leaves 30 = .ok (.goto 4, 3) := by decide +kernel
theorem dX3_leaves_33 : decode cX3_leaves 33 = .ok (.iconst 0, 1) := by decide +kernel
theorem dX3_leaves_34 : decode cX3_leaves 34 = .ok (.ireturn, 1) := by decide +kernel
theorem mw_226 : Cond.fieldLink RX3 18 "OrielChart$Picture" "layer" "[I" ∈ GW := gw_mem (inT2 _ (List.mem_of_getElem? (i := 15) rfl)) rfl
theorem mw_227 : Cond.fieldLink RX3 12 "OrielChart$Picture" "walk" "LOrielChart$Walk;" ∈ GW := gw_mem (inT2 _ (List.mem_of_getElem? (i := 13) rfl)) rfl
theorem mw_228 : Cond.fieldLink RX3 58 "OrielChart$Picture" "edgeCount" "I" ∈ GW := gw_mem (inT2 _ (List.mem_of_getElem? (i := 27) rfl)) rfl
theorem mw_229 : Cond.methodLink RX3 104 yX6_draws ∈ GW := gw_mem (inT3 _ (List.mem_of_getElem? (i := 45) rfl)) rfl
theorem mw_230 : Cond.code yX3_top cX3_top 2 (some Jvm.ClassFile.FieldType.int) ∈ GW := gw_mem (inT3 _ (List.mem_of_getElem? (i := 53) rfl)) rfl
theorem mw_231 : Cond.methodLink RX3 111 yX3_top ∈ GW := gw_mem (inT3 _ (List.mem_of_getElem? (i := 50) rfl)) rfl
theorem mw_232 : Cond.instanceMethod yX3_top ∈ GW := gw_mem (inT3 _ (List.mem_of_getElem? (i := 52) rfl)) rfl
theorem mw_233 : Cond.selects RX3 yX3_top yX3_top ∈ GW := gw_mem (inTp (q := (yX3_top, 16)) (List.mem_of_getElem? (i := 24) rfl)) rfl
theorem mw_234 : Cond.initialized RX3 ∈ GW := gw_mem (inT1 _ (List.mem_of_getElem? (i := 7) rfl)) rfl
theorem mw_235 : Cond.fieldLink RX3 72 "OrielChart$Picture" "layerCount" "I" ∈ GW := gw_mem (inT2 _ (List.mem_of_getElem? (i := 28) rfl)) rfl
theorem mw_236 : Cond.methodLink RX3 99 Lib.Math.max.name ∈ GW := gw_mem (inT3 _ (List.mem_of_getElem? (i := 54) rfl)) rfl
theorem mw_237 : Cond.static Lib.Math.max.name ∈ GW := gw_mem (inT3 _ (List.mem_of_getElem? (i := 55) rfl)) rfl
theorem mw_238 : Cond.initialized "java/lang/Math" ∈ GW := gw_mem (inT1 _ (List.mem_of_getElem? (i := 10) rfl)) rfl
theorem mw_239 : Cond.code Lib.Math.max.name Lib.Math.max.code 2 (some .int) ∈ GW := gw_mem (inT3 _ (List.mem_of_getElem? (i := 56) rfl)) rfl
theorem mw_240 : Cond.code yX3_pushDown cX3_pushDown 3 (some Jvm.ClassFile.FieldType.boolean) ∈ GW := gw_mem (inT3 _ (List.mem_of_getElem? (i := 44) rfl)) rfl
theorem mw_241 : Cond.methodLink RX3 91 yX3_pushDown ∈ GW := gw_mem (inT3 _ (List.mem_of_getElem? (i := 41) rfl)) rfl
theorem mw_242 : Cond.instanceMethod yX3_pushDown ∈ GW := gw_mem (inT3 _ (List.mem_of_getElem? (i := 43) rfl)) rfl
theorem mw_243 : Cond.selects RX3 yX3_pushDown yX3_pushDown ∈ GW := gw_mem (inTp (q := (yX3_pushDown, 16)) (List.mem_of_getElem? (i := 23) rfl)) rfl
theorem mw_244 : Cond.code yX3_bottom cX3_bottom 2 (some Jvm.ClassFile.FieldType.int) ∈ GW := gw_mem (inT3 _ (List.mem_of_getElem? (i := 68) rfl)) rfl
theorem mw_245 : Cond.methodLink RX3 131 yX3_bottom ∈ GW := gw_mem (inT3 _ (List.mem_of_getElem? (i := 65) rfl)) rfl
theorem mw_246 : Cond.instanceMethod yX3_bottom ∈ GW := gw_mem (inT3 _ (List.mem_of_getElem? (i := 67) rfl)) rfl
theorem mw_247 : Cond.selects RX3 yX3_bottom yX3_bottom ∈ GW := gw_mem (inTp (q := (yX3_bottom, 16)) (List.mem_of_getElem? (i := 26) rfl)) rfl
theorem mw_248 : Cond.fieldLink RX3 25 "OrielChart$Picture" "firstBend" "[I" ∈ GW := gw_mem (inT2 _ (List.mem_of_getElem? (i := 18) rfl)) rfl
theorem mw_249 : Cond.code yX3_bendCount cX3_bendCount 2 (some Jvm.ClassFile.FieldType.int) ∈ GW := gw_mem (inT3 _ (List.mem_of_getElem? (i := 64) rfl)) rfl
theorem mw_250 : Cond.methodLink RX3 118 yX3_bendCount ∈ GW := gw_mem (inT3 _ (List.mem_of_getElem? (i := 61) rfl)) rfl
theorem mw_251 : Cond.instanceMethod yX3_bendCount ∈ GW := gw_mem (inT3 _ (List.mem_of_getElem? (i := 62) rfl)) rfl
theorem mw_252 : Cond.selects RX3 yX3_bendCount yX3_bendCount ∈ GW := gw_mem (inT3 _ (List.mem_of_getElem? (i := 63) rfl)) rfl
theorem mw_253 : Cond.fieldLink RX3 28 "OrielChart$Picture" "edgeOf" "[I" ∈ GW := gw_mem (inT2 _ (List.mem_of_getElem? (i := 19) rfl)) rfl
theorem mw_254 : Cond.fieldLink RX3 31 "OrielChart$Picture" "order" "[I" ∈ GW := gw_mem (inT2 _ (List.mem_of_getElem? (i := 20) rfl)) rfl
theorem mw_255 : Cond.fieldLink RX3 34 "OrielChart$Picture" "place" "[I" ∈ GW := gw_mem (inT2 _ (List.mem_of_getElem? (i := 21) rfl)) rfl
theorem mw_256 : Cond.fieldLink RX3 22 "OrielChart$Picture" "start" "[I" ∈ GW := gw_mem (inT2 _ (List.mem_of_getElem? (i := 17) rfl)) rfl
theorem mw_257 : Cond.code yX3_pointOn cX3_pointOn 3 (some Jvm.ClassFile.FieldType.int) ∈ GW := gw_mem (inT3 _ (List.mem_of_getElem? (i := 80) rfl)) rfl
theorem mw_258 : Cond.methodLink RX3 134 yX3_pointOn ∈ GW := gw_mem (inT3 _ (List.mem_of_getElem? (i := 77) rfl)) rfl
theorem mw_259 : Cond.instanceMethod yX3_pointOn ∈ GW := gw_mem (inT3 _ (List.mem_of_getElem? (i := 79) rfl)) rfl
theorem mw_260 : Cond.selects RX3 yX3_pointOn yX3_pointOn ∈ GW := gw_mem (inTp (q := (yX3_pointOn, 16)) (List.mem_of_getElem? (i := 29) rfl)) rfl
theorem mw_261 : Cond.code yX3_putPoint cX3_putPoint 4 (none : Option FieldType) ∈ GW := gw_mem (inT3 _ (List.mem_of_getElem? (i := 76) rfl)) rfl
theorem mw_262 : Cond.methodLink RX3 127 yX3_putPoint ∈ GW := gw_mem (inT3 _ (List.mem_of_getElem? (i := 73) rfl)) rfl
theorem mw_263 : Cond.instanceMethod yX3_putPoint ∈ GW := gw_mem (inT3 _ (List.mem_of_getElem? (i := 75) rfl)) rfl
theorem mw_264 : Cond.selects RX3 yX3_putPoint yX3_putPoint ∈ GW := gw_mem (inTp (q := (yX3_putPoint, 16)) (List.mem_of_getElem? (i := 28) rfl)) rfl
theorem mw_265 : Cond.fieldLink RX3 59 "OrielChart$Picture" "sweeps" "I" ∈ GW := gw_mem (inT2 _ (List.mem_of_getElem? (i := 30) rfl)) rfl
theorem mw_266 : Cond.code yX6_goThrough cX6_goThrough 3 (none : Option FieldType) ∈ GW := gw_mem (inT3 _ (List.mem_of_getElem? (i := 21) rfl)) rfl
theorem mw_267 : Cond.methodLink RX3 62 yX6_goThrough ∈ GW := gw_mem (inT3 _ (List.mem_of_getElem? (i := 18) rfl)) rfl
theorem mw_268 : Cond.instanceMethod yX6_goThrough ∈ GW := gw_mem (inT3 _ (List.mem_of_getElem? (i := 19) rfl)) rfl
theorem mw_269 : Cond.selects RX6 yX6_goThrough yX6_goThrough ∈ GW := gw_mem (inT3 _ (List.mem_of_getElem? (i := 20) rfl)) rfl
theorem mw_270 : Cond.code yX3_setLayers cX3_setLayers 3 (none : Option FieldType) ∈ GW := gw_mem (inT3 _ (List.mem_of_getElem? (i := 38) rfl)) rfl
theorem mw_271 : Cond.methodLink RX3 66 yX3_setLayers ∈ GW := gw_mem (inT3 _ (List.mem_of_getElem? (i := 35) rfl)) rfl
theorem mw_272 : Cond.instanceMethod yX3_setLayers ∈ GW := gw_mem (inT3 _ (List.mem_of_getElem? (i := 37) rfl)) rfl
theorem mw_273 : Cond.selects RX3 yX3_setLayers yX3_setLayers ∈ GW := gw_mem (inTp (q := (yX3_setLayers, 16)) (List.mem_of_getElem? (i := 22) rfl)) rfl
theorem mw_274 : Cond.code yX3_numberBends cX3_numberBends 5 (none : Option FieldType) ∈ GW := gw_mem (inT3 _ (List.mem_of_getElem? (i := 60) rfl)) rfl
theorem mw_275 : Cond.methodLink RX3 69 yX3_numberBends ∈ GW := gw_mem (inT3 _ (List.mem_of_getElem? (i := 57) rfl)) rfl
theorem mw_276 : Cond.instanceMethod yX3_numberBends ∈ GW := gw_mem (inT3 _ (List.mem_of_getElem? (i := 59) rfl)) rfl
theorem mw_277 : Cond.selects RX3 yX3_numberBends yX3_numberBends ∈ GW := gw_mem (inTp (q := (yX3_numberBends, 16)) (List.mem_of_getElem? (i := 25) rfl)) rfl
theorem mw_278 : Cond.code yX3_fill cX3_fill 6 (some Jvm.ClassFile.FieldType.int) ∈ GW := gw_mem (inT3 _ (List.mem_of_getElem? (i := 72) rfl)) rfl
theorem mw_279 : Cond.methodLink RX3 79 yX3_fill ∈ GW := gw_mem (inT3 _ (List.mem_of_getElem? (i := 69) rfl)) rfl
theorem mw_280 : Cond.instanceMethod yX3_fill ∈ GW := gw_mem (inT3 _ (List.mem_of_getElem? (i := 71) rfl)) rfl
theorem mw_281 : Cond.selects RX3 yX3_fill yX3_fill ∈ GW := gw_mem (inTp (q := (yX3_fill, 16)) (List.mem_of_getElem? (i := 27) rfl)) rfl
theorem pdv_X3_top : yX3_top.cls = RX3 ∧ yX3_top.cls ≠ "java/lang/invoke/MethodHandle" ∧ yX3_top.cls ≠ "java/lang/invoke/VarHandle" ∧ (parseMethodDescriptor yX3_top.desc).map (fun d => d.parameters.length) = some 1 := by decide +kernel
theorem pdv_X3_pushDown : yX3_pushDown.cls = RX3 ∧ yX3_pushDown.cls ≠ "java/lang/invoke/MethodHandle" ∧ yX3_pushDown.cls ≠ "java/lang/invoke/VarHandle" ∧ (parseMethodDescriptor yX3_pushDown.desc).map (fun d => d.parameters.length) = some 0 := by decide +kernel
theorem pdv_X3_bottom : yX3_bottom.cls = RX3 ∧ yX3_bottom.cls ≠ "java/lang/invoke/MethodHandle" ∧ yX3_bottom.cls ≠ "java/lang/invoke/VarHandle" ∧ (parseMethodDescriptor yX3_bottom.desc).map (fun d => d.parameters.length) = some 1 := by decide +kernel
theorem pdv_X3_bendCount : yX3_bendCount.cls = RX3 ∧ yX3_bendCount.cls ≠ "java/lang/invoke/MethodHandle" ∧ yX3_bendCount.cls ≠ "java/lang/invoke/VarHandle" ∧ (parseMethodDescriptor yX3_bendCount.desc).map (fun d => d.parameters.length) = some 1 := by decide +kernel
theorem pdv_X3_pointOn : yX3_pointOn.cls = RX3 ∧ yX3_pointOn.cls ≠ "java/lang/invoke/MethodHandle" ∧ yX3_pointOn.cls ≠ "java/lang/invoke/VarHandle" ∧ (parseMethodDescriptor yX3_pointOn.desc).map (fun d => d.parameters.length) = some 2 := by decide +kernel
theorem pdv_X3_putPoint : yX3_putPoint.cls = RX3 ∧ yX3_putPoint.cls ≠ "java/lang/invoke/MethodHandle" ∧ yX3_putPoint.cls ≠ "java/lang/invoke/VarHandle" ∧ (parseMethodDescriptor yX3_putPoint.desc).map (fun d => d.parameters.length) = some 3 := by decide +kernel
theorem pdv_X6_goThrough : yX6_goThrough.cls = RX6 ∧ yX6_goThrough.cls ≠ "java/lang/invoke/MethodHandle" ∧ yX6_goThrough.cls ≠ "java/lang/invoke/VarHandle" ∧ (parseMethodDescriptor yX6_goThrough.desc).map (fun d => d.parameters.length) = some 1 := by decide +kernel
theorem pdv_X3_setLayers : yX3_setLayers.cls = RX3 ∧ yX3_setLayers.cls ≠ "java/lang/invoke/MethodHandle" ∧ yX3_setLayers.cls ≠ "java/lang/invoke/VarHandle" ∧ (parseMethodDescriptor yX3_setLayers.desc).map (fun d => d.parameters.length) = some 0 := by decide +kernel
theorem pdv_X3_numberBends : yX3_numberBends.cls = RX3 ∧ yX3_numberBends.cls ≠ "java/lang/invoke/MethodHandle" ∧ yX3_numberBends.cls ≠ "java/lang/invoke/VarHandle" ∧ (parseMethodDescriptor yX3_numberBends.desc).map (fun d => d.parameters.length) = some 0 := by decide +kernel
theorem pdv_X3_fill : yX3_fill.cls = RX3 ∧ yX3_fill.cls ≠ "java/lang/invoke/MethodHandle" ∧ yX3_fill.cls ≠ "java/lang/invoke/VarHandle" ∧ (parseMethodDescriptor yX3_fill.desc).map (fun d => d.parameters.length) = some 2 := by decide +kernel
set_option maxHeartbeats 4000000 in
set_option maxRecDepth 100000 in
theorem c_top (l : Launch) (D : va_G) (cI cJ : ClassId) (ad : Nat → Nat) (co fl ra li re wa pi : Ob) (k1 : Int32) : CT l D (TY cI cJ) yX3_top (.code yX3_top cX3_top 2 (some Jvm.ClassFile.FieldType.int)) 1 0 0 (XW ad cI cJ co fl ra li re wa pi) [.ref (ad 6), .int k1] (QI D (TY cI cJ) (fun r u => r = (topE wa pi k1) ∧ u = (XW ad cI cJ co fl ra li re wa pi))) := by
  refine ent (by decide) (Nat.le_of_ble_eq_true rfl) ?_
  intro p e s m below meth c ls A hx hb hr hg hown hml hlocks hnm hP hK hD hS hA hN hl
  have hl : lv_has ls 2 [(0, .ref (ad 6)), (1, .int k1)] := hl
  refine lv_aload_n hx hb dX3_top_0 rfl (lv_at hl 0 rfl) ?_
  refine va_get (D := D) (ci := 3) (v := .ref (ad 34)) (C := RX3) (T := TX3) (N := 16) hx hb hg inGX3 hown hK hP 6 rfl rfl 1 (by decide) (hg _ mw_226) (fun _ h9 => h9) rfl dX3_top_1 ?_
  refine lv_aload_n hx hb dX3_top_4 rfl (lv_at hl 0 rfl) ?_
  refine va_get (D := D) (ci := 3) (v := .ref (ad 7)) (C := RX3) (T := TX3) (N := 16) hx hb hg inGX3 hown hK hP 6 rfl rfl 0 (by decide) (hg _ mw_227) (fun _ h9 => h9) rfl dX3_top_5 ?_
  refine va_getN (D := D) (ci := 6) (v := .ref (ad 30)) (C := RX6) (T := TX6) (N := 9) hx hb hg inGX6 hown hK hP 7 rfl rfl 1 (by decide) (hN.use nw_56) (fun _ h9 => h9) rfl dX3_top_8 ?_
  refine lv_iload_n hx hb dX3_top_11 rfl (lv_at hl 1 rfl) ?_
  refine kI (rSN hx hb hml hown hg hN hK hP hD (c_at l D cI cJ (XW ad cI cJ co fl ra li re wa pi) 30 (ad 30) 80 (gA wa 1) k1 rfl (by decide)) mw_84 nw_96 mw_85 mw_77 pd_X7_at ⟨Nat.le_of_ble_eq_true rfl, Nat.le_of_ble_eq_true rfl⟩ rfl hl.1 rfl (Nat.le_of_ble_eq_true rfl) dX3_top_12 ⟨Nat.le_of_ble_eq_true rfl, Nat.le_of_ble_eq_true rfl⟩) hD hS hA (fun r_1 u_1 H locs hp hP hD hS => ?_)
  obtain ⟨er, eu⟩ := hp
  obtain rfl := er.symm
  obtain rfl := eu.symm
  refine kI (rSN hx hb hml hown hg hN hK hP hD (c_at l D cI cJ (XW ad cI cJ co fl ra li re wa pi) 34 (ad 34) 40 (gA pi 0) (rd (gA wa 1) 80 k1) rfl (by decide)) mw_84 nw_96 mw_85 mw_77 pd_X7_at ⟨Nat.le_of_ble_eq_true rfl, Nat.le_of_ble_eq_true rfl⟩ rfl hl.1 rfl (Nat.le_of_ble_eq_true rfl) dX3_top_15 ⟨Nat.le_of_ble_eq_true rfl, Nat.le_of_ble_eq_true rfl⟩) hD hS hA (fun r_2 u_2 H locs hp hP hD hS => ?_)
  obtain ⟨er, eu⟩ := hp
  obtain rfl := er.symm
  obtain rfl := eu.symm
  exact W.iret (v := (rd (gA pi 0) 40 (rd (gA wa 1) 80 k1))) hx hb hr (fun t ht hW => ⟨⟨(rd (gA pi 0) 40 (rd (gA wa 1) 80 k1)), (XW ad cI cJ co fl ra li re wa pi), rfl, ⟨(show ((rd (gA pi 0) 40 (rd (gA wa 1) 80 k1)) : Int32) = (topE wa pi k1) from (by first | with_reducible rfl | (simp only [topE, gi_sl, gi_sA, gi_sB, gi_si_s, gi_si_n, gl_si, gl_sA, gl_sB, gl_sl_s, gl_sl_n, gA_si, gA_sl, gA_sB, gA_sA_s, gA_sA_n, gB_si, gB_sl, gB_sA, gB_sB_s, gB_sB_n, Nat.reduceBEq, if_true, if_false, eq_self, Bool.false_eq_true, reduceCtorEq, not_true_eq_false, not_false_eq_true, decide_true, decide_false, cond_true, cond_false, Bool.true_and, Bool.false_and, Bool.and_true, Bool.and_false, Bool.true_or, Bool.false_or, Bool.or_true, Bool.or_false, b2i_tt, b2i_ff]; done) | rfl)), xw_eq rfl rfl rfl rfl rfl rfl rfl⟩, ⟨by rw [ht]; exact hP, va_K.moved hW.alike hK, hD⟩⟩, hS.F ht⟩) hS.2.2 dX3_top_18
set_option maxHeartbeats 4000000 in
set_option maxRecDepth 100000 in
theorem c_bottom (l : Launch) (D : va_G) (cI cJ : ClassId) (ad : Nat → Nat) (co fl ra li re wa pi : Ob) (k1 : Int32) : CT l D (TY cI cJ) yX3_bottom (.code yX3_bottom cX3_bottom 2 (some Jvm.ClassFile.FieldType.int)) 1 0 0 (XW ad cI cJ co fl ra li re wa pi) [.ref (ad 6), .int k1] (QI D (TY cI cJ) (fun r u => r = (botE wa pi k1) ∧ u = (XW ad cI cJ co fl ra li re wa pi))) := by
  refine ent (by decide) (Nat.le_of_ble_eq_true rfl) ?_
  intro p e s m below meth c ls A hx hb hr hg hown hml hlocks hnm hP hK hD hS hA hN hl
  have hl : lv_has ls 2 [(0, .ref (ad 6)), (1, .int k1)] := hl
  refine lv_aload_n hx hb dX3_bottom_0 rfl (lv_at hl 0 rfl) ?_
  refine va_get (D := D) (ci := 3) (v := .ref (ad 34)) (C := RX3) (T := TX3) (N := 16) hx hb hg inGX3 hown hK hP 6 rfl rfl 1 (by decide) (hg _ mw_226) (fun _ h9 => h9) rfl dX3_bottom_1 ?_
  refine lv_aload_n hx hb dX3_bottom_4 rfl (lv_at hl 0 rfl) ?_
  refine va_get (D := D) (ci := 3) (v := .ref (ad 7)) (C := RX3) (T := TX3) (N := 16) hx hb hg inGX3 hown hK hP 6 rfl rfl 0 (by decide) (hg _ mw_227) (fun _ h9 => h9) rfl dX3_bottom_5 ?_
  refine va_getN (D := D) (ci := 6) (v := .ref (ad 31)) (C := RX6) (T := TX6) (N := 9) hx hb hg inGX6 hown hK hP 7 rfl rfl 2 (by decide) (hN.use nw_57) (fun _ h9 => h9) rfl dX3_bottom_8 ?_
  refine lv_iload_n hx hb dX3_bottom_11 rfl (lv_at hl 1 rfl) ?_
  refine kI (rSN hx hb hml hown hg hN hK hP hD (c_at l D cI cJ (XW ad cI cJ co fl ra li re wa pi) 31 (ad 31) 80 (gA wa 2) k1 rfl (by decide)) mw_84 nw_96 mw_85 mw_77 pd_X7_at ⟨Nat.le_of_ble_eq_true rfl, Nat.le_of_ble_eq_true rfl⟩ rfl hl.1 rfl (Nat.le_of_ble_eq_true rfl) dX3_bottom_12 ⟨Nat.le_of_ble_eq_true rfl, Nat.le_of_ble_eq_true rfl⟩) hD hS hA (fun r_1 u_1 H locs hp hP hD hS => ?_)
  obtain ⟨er, eu⟩ := hp
  obtain rfl := er.symm
  obtain rfl := eu.symm
  refine kI (rSN hx hb hml hown hg hN hK hP hD (c_at l D cI cJ (XW ad cI cJ co fl ra li re wa pi) 34 (ad 34) 40 (gA pi 0) (rd (gA wa 2) 80 k1) rfl (by decide)) mw_84 nw_96 mw_85 mw_77 pd_X7_at ⟨Nat.le_of_ble_eq_true rfl, Nat.le_of_ble_eq_true rfl⟩ rfl hl.1 rfl (Nat.le_of_ble_eq_true rfl) dX3_bottom_15 ⟨Nat.le_of_ble_eq_true rfl, Nat.le_of_ble_eq_true rfl⟩) hD hS hA (fun r_2 u_2 H locs hp hP hD hS => ?_)
  obtain ⟨er, eu⟩ := hp
  obtain rfl := er.symm
  obtain rfl := eu.symm
  exact W.iret (v := (rd (gA pi 0) 40 (rd (gA wa 2) 80 k1))) hx hb hr (fun t ht hW => ⟨⟨(rd (gA pi 0) 40 (rd (gA wa 2) 80 k1)), (XW ad cI cJ co fl ra li re wa pi), rfl, ⟨(show ((rd (gA pi 0) 40 (rd (gA wa 2) 80 k1)) : Int32) = (botE wa pi k1) from (by first | with_reducible rfl | (simp only [botE, gi_sl, gi_sA, gi_sB, gi_si_s, gi_si_n, gl_si, gl_sA, gl_sB, gl_sl_s, gl_sl_n, gA_si, gA_sl, gA_sB, gA_sA_s, gA_sA_n, gB_si, gB_sl, gB_sA, gB_sB_s, gB_sB_n, Nat.reduceBEq, if_true, if_false, eq_self, Bool.false_eq_true, reduceCtorEq, not_true_eq_false, not_false_eq_true, decide_true, decide_false, cond_true, cond_false, Bool.true_and, Bool.false_and, Bool.and_true, Bool.and_false, Bool.true_or, Bool.false_or, Bool.or_true, Bool.or_false, b2i_tt, b2i_ff]; done) | rfl)), xw_eq rfl rfl rfl rfl rfl rfl rfl⟩, ⟨by rw [ht]; exact hP, va_K.moved hW.alike hK, hD⟩⟩, hS.F ht⟩) hS.2.2 dX3_bottom_18
set_option maxHeartbeats 4000000 in
set_option maxRecDepth 100000 in
theorem c_pushDown (l : Launch) (D : va_G) (cI cJ : ClassId) (ad : Nat → Nat) (co fl ra li re wa pi : Ob) : CT l D (TY cI cJ) yX3_pushDown (.code yX3_pushDown cX3_pushDown 3 (some Jvm.ClassFile.FieldType.boolean)) 2 0 0 (XW ad cI cJ co fl ra li re wa pi) [.ref (ad 6)] (QI D (TY cI cJ) (fun r u => r = (b2i (pushDown wa pi).2) ∧ u = (XW ad cI cJ co fl ra li re wa (pushDown wa pi).1))) := by
  refine ent (by decide) (Nat.le_of_ble_eq_true rfl) ?_
  intro p e s m below meth c ls A hx hb hr hg hown hml hlocks hnm hP hK hD hS hA hN hl
  have hl : lv_has ls 3 [(0, .ref (ad 6))] := hl
  refine lv_iconst (v := 0) hx hb dX3_pushDown_0 (by decide) ?_
  refine lv_istore_n (lv' := [(1, .int 0), (0, .ref (ad 6))]) hx hb dX3_pushDown_1 rfl hl (by decide) rfl (fun ls hl => ?_)
  refine lv_iconst (v := 0) hx hb dX3_pushDown_2 (by decide) ?_
  refine lv_istore_n (lv' := [(2, .int 0), (1, .int 0), (0, .ref (ad 6))]) hx hb dX3_pushDown_3 rfl hl (by decide) rfl (fun ls hl => ?_)
  refine w_loop (σ := Ob × Bool) (fun (i_1 : Nat) (p_1 : Ob × Bool) (H : Heap) (locs : List Loc) (ls : Array Slot) => p_1 = (lp (pdStep wa) i_1 (pi, false)) ∧ va_P D vwCl (XW ad cI cJ co fl ra li re wa p_1.1) H ∧ va_D A (XW ad cI cJ co fl ra li re wa p_1.1) ∧ va_S A s.heap H locs ∧ lv_has ls 3 [(0, .ref (ad 6)), (1, .int (b2i p_1.2)), (2, .int (nI i_1))]) (nN (gi pi 0)) (fun p_1 H locs ls hI => ?_) (fun i_1 p_1 H locs ls hi_1 hI ih_1 => ?_) 0 (pi, false) (Nat.zero_le _) ⟨rfl, hP, hD, hS, (by rw [nI_0]; exact lv_sub hl [2, 1, 0] rfl)⟩
  · obtain ⟨h_1, hP, hD, hS, hl⟩ := hI
    have h_1 := h_1.symm
    subst h_1
    have hP : va_P D vwCl (XW ad cI cJ co fl ra li re wa ((lp (pdStep wa) (nN (gi pi 0)) (pi, false)).1)) H := hP
    have hD : va_D A (XW ad cI cJ co fl ra li re wa ((lp (pdStep wa) (nN (gi pi 0)) (pi, false)).1)) := hD
    have hl : lv_has ls 3 [(0, .ref (ad 6)), (1, .int (b2i (lp (pdStep wa) (nN (gi pi 0)) (pi, false)).2)), (2, .int (nI ((nN (gi pi 0)))))] := hl
    refine lv_iload_n hx hb dX3_pushDown_4 rfl (lv_at hl 2 rfl) ?_
    refine lv_aload_n hx hb dX3_pushDown_5 rfl (lv_at hl 0 rfl) ?_
    refine va_get (D := D) (ci := 3) (v := .int (gi ((lp (pdStep wa) (nN (gi pi 0)) (pi, false)).1) 0)) (C := RX3) (T := TX3) (N := 16) hx hb hg inGX3 hown hK hP 6 rfl rfl 12 (by decide) (hg _ mw_228) (fun _ h9 => h9) rfl dX3_pushDown_6 ?_
    refine lv_icmp_ge (tgt := 82) hx hb dX3_pushDown_9 (by decide) (fun _ => ?_) (fun c_9 => absurd (by rw [k_pdL]; exact lp_out _) c_9)
    refine lv_iload_n hx hb dX3_pushDown_82 rfl (lv_at hl 1 rfl) ?_
    exact W.zret (v := (b2i (lp (pdStep wa) (nN (gi pi 0)) (pi, false)).2)) hx hb hr nar_b2i (fun t ht hW => ⟨⟨(b2i (lp (pdStep wa) (nN (gi pi 0)) (pi, false)).2), (XW ad cI cJ co fl ra li re wa ((lp (pdStep wa) (nN (gi pi 0)) (pi, false)).1)), rfl, ⟨(show ((b2i (lp (pdStep wa) (nN (gi pi 0)) (pi, false)).2) : Int32) = (b2i (pushDown wa pi).2) from (by first | with_reducible rfl | (simp only [pushDown, gi_sl, gi_sA, gi_sB, gi_si_s, gi_si_n, gl_si, gl_sA, gl_sB, gl_sl_s, gl_sl_n, gA_si, gA_sl, gA_sB, gA_sA_s, gA_sA_n, gB_si, gB_sl, gB_sA, gB_sB_s, gB_sB_n, Nat.reduceBEq, if_true, if_false, eq_self, Bool.false_eq_true, reduceCtorEq, not_true_eq_false, not_false_eq_true, decide_true, decide_false, cond_true, cond_false, Bool.true_and, Bool.false_and, Bool.and_true, Bool.and_false, Bool.true_or, Bool.false_or, Bool.or_true, Bool.or_false, b2i_tt, b2i_ff]; done) | rfl)), xw_eq rfl rfl rfl rfl rfl rfl (show ((lp (pdStep wa) (nN (gi pi 0)) (pi, false)).1) = (pushDown wa pi).1 from (by first | with_reducible rfl | (simp only [pushDown, gi_sl, gi_sA, gi_sB, gi_si_s, gi_si_n, gl_si, gl_sA, gl_sB, gl_sl_s, gl_sl_n, gA_si, gA_sl, gA_sB, gA_sA_s, gA_sA_n, gB_si, gB_sl, gB_sA, gB_sB_s, gB_sB_n, Nat.reduceBEq, if_true, if_false, eq_self, Bool.false_eq_true, reduceCtorEq, not_true_eq_false, not_false_eq_true, decide_true, decide_false, cond_true, cond_false, Bool.true_and, Bool.false_and, Bool.and_true, Bool.and_false, Bool.true_or, Bool.false_or, Bool.or_true, Bool.or_false, b2i_tt, b2i_ff]; done) | rfl))⟩, ⟨by rw [ht]; exact hP, va_K.moved hW.alike hK, hD⟩⟩, hS.F ht⟩) hS.2.2 dX3_pushDown_83
  · obtain ⟨h_1, hP, hD, hS, hl⟩ := hI
    have hP : va_P D vwCl (XW ad cI cJ co fl ra li re wa p_1.1) H := hP
    have hD : va_D A (XW ad cI cJ co fl ra li re wa p_1.1) := hD
    have hl : lv_has ls 3 [(0, .ref (ad 6)), (1, .int (b2i p_1.2)), (2, .int (nI i_1))] := hl
    refine lv_iload_n hx hb dX3_pushDown_4 rfl (lv_at hl 2 rfl) ?_
    refine lv_aload_n hx hb dX3_pushDown_5 rfl (lv_at hl 0 rfl) ?_
    refine va_get (D := D) (ci := 3) (v := .int (gi p_1.1 0)) (C := RX3) (T := TX3) (N := 16) hx hb hg inGX3 hown hK hP 6 rfl rfl 12 (by decide) (hg _ mw_228) (fun _ h9 => h9) rfl dX3_pushDown_6 ?_
    refine lv_icmp_ge (tgt := 82) hx hb dX3_pushDown_9 (by decide) (fun c_9 => absurd c_9 (by rw [h_1, k_pdL]; exact lp_in hi_1)) (fun _ => ?_)
    refine lv_aload_n hx hb dX3_pushDown_12 rfl (lv_at hl 0 rfl) ?_
    refine va_get (D := D) (ci := 3) (v := .ref (ad 7)) (C := RX3) (T := TX3) (N := 16) hx hb hg inGX3 hown hK hP 6 rfl rfl 0 (by decide) (hg _ mw_227) (fun _ h9 => h9) rfl dX3_pushDown_13 ?_
    refine lv_iload_n hx hb dX3_pushDown_16 rfl (lv_at hl 2 rfl) ?_
    refine kI (rV (q0 := 7) (ci := 6) hx hb hml hown hg hN hK hP hD (c_draws l D cI cJ ad co fl ra li re wa p_1.1 (nI i_1)) mw_204 mw_229 mw_206 mw_207 mw_208 pdv_X6_draws ⟨Nat.le_of_ble_eq_true rfl, Nat.le_of_ble_eq_true rfl⟩ rfl rfl rfl hl.1 rfl (Nat.le_of_ble_eq_true rfl) dX3_pushDown_17 ⟨Nat.le_of_ble_eq_true rfl, Nat.le_of_ble_eq_true rfl⟩) hD hS hA (fun r_2 u_2 H locs hp hP hD hS => ?_)
    obtain ⟨er, eu⟩ := hp
    obtain rfl := er.symm
    obtain rfl := eu.symm
    refine lv_if_eq (tgt := 76) hx hb dX3_pushDown_20 (by decide) (fun c_20 => ?_) (fun c_20 => ?_)
    · have c_20 : ¬ (draws wa (nI i_1)) = true := b2i_0 c_20
      refine lv_iinc (v := (nI (i_1 + 1))) (lv' := [(2, .int (nI (i_1 + 1))), (0, .ref (ad 6)), (1, .int (b2i p_1.2))]) hx hb dX3_pushDown_76 hl (k := 2) rfl (nI_1 i_1) (by decide) rfl (fun ls hl => ?_)
      refine lv_goto (tgt := 4) hx hb dX3_pushDown_79 (by decide) ?_
      exact ih_1 (p_1.1, p_1.2) H locs ls ⟨((show (p_1.1, p_1.2) = (pdStep wa) i_1 p_1 from (by first | (simp only [pdStep, pdPut, botE, if_neg c_20, bf_of c_20, gi_sl, gi_sA, gi_sB, gi_si_s, gi_si_n, gl_si, gl_sA, gl_sB, gl_sl_s, gl_sl_n, gA_si, gA_sl, gA_sB, gA_sA_s, gA_sA_n, gB_si, gB_sl, gB_sA, gB_sB_s, gB_sB_n, Nat.reduceBEq, if_true, if_false, eq_self, Bool.false_eq_true, reduceCtorEq, not_true_eq_false, not_false_eq_true, decide_true, decide_false, cond_true, cond_false, Bool.true_and, Bool.false_and, Bool.and_true, Bool.and_false, Bool.true_or, Bool.false_or, Bool.or_true, Bool.or_false, b2i_tt, b2i_ff]; done) | (simp only [pdStep, pdPut, botE, if_neg c_20, bf_of c_20, gi_sl, gi_sA, gi_sB, gi_si_s, gi_si_n, gl_si, gl_sA, gl_sB, gl_sl_s, gl_sl_n, gA_si, gA_sl, gA_sB, gA_sA_s, gA_sA_n, gB_si, gB_sl, gB_sA, gB_sB_s, gB_sB_n, Nat.reduceBEq, if_true, if_false, eq_self, Bool.false_eq_true, reduceCtorEq, not_true_eq_false, not_false_eq_true, decide_true, decide_false, cond_true, cond_false, Bool.true_and, Bool.false_and, Bool.and_true, Bool.and_false, Bool.true_or, Bool.false_or, Bool.or_true, Bool.or_false, b2i_tt, b2i_ff]; rfl) | (simp [pdStep, pdPut, botE, c_20, gi_sl, gi_sA, gi_sB, gi_si_s, gi_si_n, gl_si, gl_sA, gl_sB, gl_sl_s, gl_sl_n, gA_si, gA_sl, gA_sB, gA_sA_s, gA_sA_n, gB_si, gB_sl, gB_sA, gB_sB_s, gB_sB_n, Nat.reduceBEq]; done))).trans (lp_go h_1)), hP, hD, hS, lv_sub hl [1, 2, 0] rfl⟩
    · have c_20 : (draws wa (nI i_1)) = true := b2i_1 c_20
      refine lv_aload_n hx hb dX3_pushDown_23 rfl (lv_at hl 0 rfl) ?_
      refine va_get (D := D) (ci := 3) (v := .ref (ad 34)) (C := RX3) (T := TX3) (N := 16) hx hb hg inGX3 hown hK hP 6 rfl rfl 1 (by decide) (hg _ mw_226) (fun _ h9 => h9) rfl dX3_pushDown_24 ?_
      refine lv_aload_n hx hb dX3_pushDown_27 rfl (lv_at hl 0 rfl) ?_
      refine va_get (D := D) (ci := 3) (v := .ref (ad 7)) (C := RX3) (T := TX3) (N := 16) hx hb hg inGX3 hown hK hP 6 rfl rfl 0 (by decide) (hg _ mw_227) (fun _ h9 => h9) rfl dX3_pushDown_28 ?_
      refine va_getN (D := D) (ci := 6) (v := .ref (ad 31)) (C := RX6) (T := TX6) (N := 9) hx hb hg inGX6 hown hK hP 7 rfl rfl 2 (by decide) (hN.use nw_57) (fun _ h9 => h9) rfl dX3_pushDown_31 ?_
      refine lv_iload_n hx hb dX3_pushDown_34 rfl (lv_at hl 2 rfl) ?_
      refine kI (rSN hx hb hml hown hg hN hK hP hD (c_at l D cI cJ (XW ad cI cJ co fl ra li re wa p_1.1) 31 (ad 31) 80 (gA wa 2) (nI i_1) rfl (by decide)) mw_84 nw_96 mw_85 mw_77 pd_X7_at ⟨Nat.le_of_ble_eq_true rfl, Nat.le_of_ble_eq_true rfl⟩ rfl hl.1 rfl (Nat.le_of_ble_eq_true rfl) dX3_pushDown_35 ⟨Nat.le_of_ble_eq_true rfl, Nat.le_of_ble_eq_true rfl⟩) hD hS hA (fun r_3 u_3 H locs hp hP hD hS => ?_)
      obtain ⟨er, eu⟩ := hp
      obtain rfl := er.symm
      obtain rfl := eu.symm
      refine kI (rSN hx hb hml hown hg hN hK hP hD (c_at l D cI cJ (XW ad cI cJ co fl ra li re wa p_1.1) 34 (ad 34) 40 (gA p_1.1 0) (rd (gA wa 2) 80 (nI i_1)) rfl (by decide)) mw_84 nw_96 mw_85 mw_77 pd_X7_at ⟨Nat.le_of_ble_eq_true rfl, Nat.le_of_ble_eq_true rfl⟩ rfl hl.1 rfl (Nat.le_of_ble_eq_true rfl) dX3_pushDown_38 ⟨Nat.le_of_ble_eq_true rfl, Nat.le_of_ble_eq_true rfl⟩) hD hS hA (fun r_4 u_4 H locs hp hP hD hS => ?_)
      obtain ⟨er, eu⟩ := hp
      obtain rfl := er.symm
      obtain rfl := eu.symm
      refine lv_aload_n hx hb dX3_pushDown_41 rfl (lv_at hl 0 rfl) ?_
      refine lv_iload_n hx hb dX3_pushDown_42 rfl (lv_at hl 2 rfl) ?_
      refine kI (rV (q0 := 6) (ci := 3) hx hb hml hown hg hN hK hP hD (c_top l D cI cJ ad co fl ra li re wa p_1.1 (nI i_1)) mw_230 mw_231 mw_232 mw_233 mw_234 pdv_X3_top ⟨Nat.le_of_ble_eq_true rfl, Nat.le_of_ble_eq_true rfl⟩ rfl rfl rfl hl.1 rfl (Nat.le_of_ble_eq_true rfl) dX3_pushDown_43 ⟨Nat.le_of_ble_eq_true rfl, Nat.le_of_ble_eq_true rfl⟩) hD hS hA (fun r_5 u_5 H locs hp hP hD hS => ?_)
      obtain ⟨er, eu⟩ := hp
      obtain rfl := er.symm
      obtain rfl := eu.symm
      refine lv_icmp_gt (tgt := 76) hx hb dX3_pushDown_46 (by decide) (fun c_46 => ?_) (fun c_46 => ?_)
      · refine lv_iinc (v := (nI (i_1 + 1))) (lv' := [(2, .int (nI (i_1 + 1))), (0, .ref (ad 6)), (1, .int (b2i p_1.2))]) hx hb dX3_pushDown_76 hl (k := 2) rfl (nI_1 i_1) (by decide) rfl (fun ls hl => ?_)
        refine lv_goto (tgt := 4) hx hb dX3_pushDown_79 (by decide) ?_
        exact ih_1 (p_1.1, p_1.2) H locs ls ⟨((show (p_1.1, p_1.2) = (pdStep wa) i_1 p_1 from (by first | (simp only [pdStep, pdPut, botE, if_pos c_20, c_20, if_pos c_46, decide_eq_true c_46, decide_eq_false (not_not_intro c_46), gi_sl, gi_sA, gi_sB, gi_si_s, gi_si_n, gl_si, gl_sA, gl_sB, gl_sl_s, gl_sl_n, gA_si, gA_sl, gA_sB, gA_sA_s, gA_sA_n, gB_si, gB_sl, gB_sA, gB_sB_s, gB_sB_n, Nat.reduceBEq, if_true, if_false, eq_self, Bool.false_eq_true, reduceCtorEq, not_true_eq_false, not_false_eq_true, decide_true, decide_false, cond_true, cond_false, Bool.true_and, Bool.false_and, Bool.and_true, Bool.and_false, Bool.true_or, Bool.false_or, Bool.or_true, Bool.or_false, b2i_tt, b2i_ff]; done) | (simp only [pdStep, pdPut, botE, if_pos c_20, c_20, if_pos c_46, decide_eq_true c_46, decide_eq_false (not_not_intro c_46), gi_sl, gi_sA, gi_sB, gi_si_s, gi_si_n, gl_si, gl_sA, gl_sB, gl_sl_s, gl_sl_n, gA_si, gA_sl, gA_sB, gA_sA_s, gA_sA_n, gB_si, gB_sl, gB_sA, gB_sB_s, gB_sB_n, Nat.reduceBEq, if_true, if_false, eq_self, Bool.false_eq_true, reduceCtorEq, not_true_eq_false, not_false_eq_true, decide_true, decide_false, cond_true, cond_false, Bool.true_and, Bool.false_and, Bool.and_true, Bool.and_false, Bool.true_or, Bool.false_or, Bool.or_true, Bool.or_false, b2i_tt, b2i_ff]; rfl) | (simp [pdStep, pdPut, botE, c_20, c_46, gi_sl, gi_sA, gi_sB, gi_si_s, gi_si_n, gl_si, gl_sA, gl_sB, gl_sl_s, gl_sl_n, gA_si, gA_sl, gA_sB, gA_sA_s, gA_sA_n, gB_si, gB_sl, gB_sA, gB_sB_s, gB_sB_n, Nat.reduceBEq]; done))).trans (lp_go h_1)), hP, hD, hS, lv_sub hl [1, 2, 0] rfl⟩
      · refine lv_aload_n hx hb dX3_pushDown_49 rfl (lv_at hl 0 rfl) ?_
        refine va_get (D := D) (ci := 3) (v := .ref (ad 34)) (C := RX3) (T := TX3) (N := 16) hx hb hg inGX3 hown hK hP 6 rfl rfl 1 (by decide) (hg _ mw_226) (fun _ h9 => h9) rfl dX3_pushDown_50 ?_
        refine lv_aload_n hx hb dX3_pushDown_53 rfl (lv_at hl 0 rfl) ?_
        refine va_get (D := D) (ci := 3) (v := .ref (ad 7)) (C := RX3) (T := TX3) (N := 16) hx hb hg inGX3 hown hK hP 6 rfl rfl 0 (by decide) (hg _ mw_227) (fun _ h9 => h9) rfl dX3_pushDown_54 ?_
        refine va_getN (D := D) (ci := 6) (v := .ref (ad 31)) (C := RX6) (T := TX6) (N := 9) hx hb hg inGX6 hown hK hP 7 rfl rfl 2 (by decide) (hN.use nw_57) (fun _ h9 => h9) rfl dX3_pushDown_57 ?_
        refine lv_iload_n hx hb dX3_pushDown_60 rfl (lv_at hl 2 rfl) ?_
        refine kI (rSN hx hb hml hown hg hN hK hP hD (c_at l D cI cJ (XW ad cI cJ co fl ra li re wa p_1.1) 31 (ad 31) 80 (gA wa 2) (nI i_1) rfl (by decide)) mw_84 nw_96 mw_85 mw_77 pd_X7_at ⟨Nat.le_of_ble_eq_true rfl, Nat.le_of_ble_eq_true rfl⟩ rfl hl.1 rfl (Nat.le_of_ble_eq_true rfl) dX3_pushDown_61 ⟨Nat.le_of_ble_eq_true rfl, Nat.le_of_ble_eq_true rfl⟩) hD hS hA (fun r_6 u_6 H locs hp hP hD hS => ?_)
        obtain ⟨er, eu⟩ := hp
        obtain rfl := er.symm
        obtain rfl := eu.symm
        refine lv_aload_n hx hb dX3_pushDown_64 rfl (lv_at hl 0 rfl) ?_
        refine lv_iload_n hx hb dX3_pushDown_65 rfl (lv_at hl 2 rfl) ?_
        refine kI (rV (q0 := 6) (ci := 3) hx hb hml hown hg hN hK hP hD (c_top l D cI cJ ad co fl ra li re wa p_1.1 (nI i_1)) mw_230 mw_231 mw_232 mw_233 mw_234 pdv_X3_top ⟨Nat.le_of_ble_eq_true rfl, Nat.le_of_ble_eq_true rfl⟩ rfl rfl rfl hl.1 rfl (Nat.le_of_ble_eq_true rfl) dX3_pushDown_66 ⟨Nat.le_of_ble_eq_true rfl, Nat.le_of_ble_eq_true rfl⟩) hD hS hA (fun r_7 u_7 H locs hp hP hD hS => ?_)
        obtain ⟨er, eu⟩ := hp
        obtain rfl := er.symm
        obtain rfl := eu.symm
        refine lv_iconst (v := 1) hx hb dX3_pushDown_69 (by decide) ?_
        refine lv_iadd hx hb dX3_pushDown_70 ?_
        refine kV (rSN hx hb hml hown hg hN hK hP hD (c_put l D cI cJ (XW ad cI cJ co fl ra li re wa p_1.1) 34 (ad 34) 40 (gA p_1.1 0) (rd (gA wa 2) 80 (nI i_1)) ((topE wa p_1.1 (nI i_1)) + 1) rfl (by decide)) mw_92 nw_95 mw_93 mw_77 pd_X7_put ⟨Nat.le_of_ble_eq_true rfl, Nat.le_of_ble_eq_true rfl⟩ rfl hl.1 rfl (Nat.le_of_ble_eq_true rfl) dX3_pushDown_71 ⟨Nat.le_of_ble_eq_true rfl, Nat.le_of_ble_eq_true rfl⟩) hD hS hA (fun u_8 H locs hp hP hD hS => ?_)
        obtain rfl := hp.symm
        have hP : va_P D vwCl (XW ad cI cJ co fl ra li re wa (sA p_1.1 0 (wr (gA p_1.1 0) 40 (rd (gA wa 2) 80 (nI i_1)) ((topE wa p_1.1 (nI i_1)) + 1)))) H := hP
        have hD : va_D A (XW ad cI cJ co fl ra li re wa (sA p_1.1 0 (wr (gA p_1.1 0) 40 (rd (gA wa 2) 80 (nI i_1)) ((topE wa p_1.1 (nI i_1)) + 1)))) := hD
        refine lv_iconst (v := 1) hx hb dX3_pushDown_74 (by decide) ?_
        refine lv_istore_n (lv' := [(1, .int 1), (0, .ref (ad 6)), (2, .int (nI i_1))]) hx hb dX3_pushDown_75 rfl hl (by decide) rfl (fun ls hl => ?_)
        refine lv_iinc (v := (nI (i_1 + 1))) (lv' := [(2, .int (nI (i_1 + 1))), (1, .int 1), (0, .ref (ad 6))]) hx hb dX3_pushDown_76 hl (k := 2) rfl (nI_1 i_1) (by decide) rfl (fun ls hl => ?_)
        refine lv_goto (tgt := 4) hx hb dX3_pushDown_79 (by decide) ?_
        exact ih_1 ((sA p_1.1 0 (wr (gA p_1.1 0) 40 (rd (gA wa 2) 80 (nI i_1)) ((topE wa p_1.1 (nI i_1)) + 1))), true) H locs ls ⟨((show ((sA p_1.1 0 (wr (gA p_1.1 0) 40 (rd (gA wa 2) 80 (nI i_1)) ((topE wa p_1.1 (nI i_1)) + 1))), true) = (pdStep wa) i_1 p_1 from (by first | (simp only [pdStep, pdPut, botE, if_pos c_20, c_20, if_neg c_46, decide_eq_false c_46, decide_eq_true c_46, if_pos c_46, gi_sl, gi_sA, gi_sB, gi_si_s, gi_si_n, gl_si, gl_sA, gl_sB, gl_sl_s, gl_sl_n, gA_si, gA_sl, gA_sB, gA_sA_s, gA_sA_n, gB_si, gB_sl, gB_sA, gB_sB_s, gB_sB_n, Nat.reduceBEq, if_true, if_false, eq_self, Bool.false_eq_true, reduceCtorEq, not_true_eq_false, not_false_eq_true, decide_true, decide_false, cond_true, cond_false, Bool.true_and, Bool.false_and, Bool.and_true, Bool.and_false, Bool.true_or, Bool.false_or, Bool.or_true, Bool.or_false, b2i_tt, b2i_ff]; done) | (simp only [pdStep, pdPut, botE, if_pos c_20, c_20, if_neg c_46, decide_eq_false c_46, decide_eq_true c_46, if_pos c_46, gi_sl, gi_sA, gi_sB, gi_si_s, gi_si_n, gl_si, gl_sA, gl_sB, gl_sl_s, gl_sl_n, gA_si, gA_sl, gA_sB, gA_sA_s, gA_sA_n, gB_si, gB_sl, gB_sA, gB_sB_s, gB_sB_n, Nat.reduceBEq, if_true, if_false, eq_self, Bool.false_eq_true, reduceCtorEq, not_true_eq_false, not_false_eq_true, decide_true, decide_false, cond_true, cond_false, Bool.true_and, Bool.false_and, Bool.and_true, Bool.and_false, Bool.true_or, Bool.false_or, Bool.or_true, Bool.or_false, b2i_tt, b2i_ff]; rfl) | (simp [pdStep, pdPut, botE, c_20, c_46, gi_sl, gi_sA, gi_sB, gi_si_s, gi_si_n, gl_si, gl_sA, gl_sB, gl_sl_s, gl_sl_n, gA_si, gA_sl, gA_sB, gA_sA_s, gA_sA_n, gB_si, gB_sl, gB_sA, gB_sB_s, gB_sB_n, Nat.reduceBEq]; done))).trans (lp_go h_1)), hP, hD, hS, lv_sub hl [2, 1, 0] rfl⟩
set_option maxHeartbeats 4000000 in
set_option maxRecDepth 100000 in
theorem c_setLayers (l : Launch) (D : va_G) (cI cJ : ClassId) (ad : Nat → Nat) (co fl ra li re wa pi : Ob) : CT l D (TY cI cJ) yX3_setLayers (.code yX3_setLayers cX3_setLayers 3 (none : Option FieldType)) 3 0 0 (XW ad cI cJ co fl ra li re wa pi) [.ref (ad 6)] (QV D (TY cI cJ) (fun u => u = (XW ad cI cJ co fl ra li re wa (setLayers wa pi)))) := by
  refine ent (by decide) (Nat.le_of_ble_eq_true rfl) ?_
  intro p e s m below meth c ls A hx hb hr hg hown hml hlocks hnm hP hK hD hS hA hN hl
  have hl : lv_has ls 3 [(0, .ref (ad 6))] := hl
  refine lv_iconst (v := 0) hx hb dX3_setLayers_0 (by decide) ?_
  refine lv_istore_n (lv' := [(1, .int 0), (0, .ref (ad 6))]) hx hb dX3_setLayers_1 rfl hl (by decide) rfl (fun ls hl => ?_)
  refine w_loop (σ := Ob) (fun (i_1 : Nat) (p_1 : Ob) (H : Heap) (locs : List Loc) (ls : Array Slot) => p_1 = (lp (slInit wa) i_1 pi) ∧ va_P D vwCl (XW ad cI cJ co fl ra li re wa p_1) H ∧ va_D A (XW ad cI cJ co fl ra li re wa p_1) ∧ va_S A s.heap H locs ∧ lv_has ls 3 [(0, .ref (ad 6)), (1, .int (nI i_1))]) (40) (fun p_1 H locs ls hI => ?_) (fun i_1 p_1 H locs ls hi_1 hI ih_1 => ?_) 0 pi (Nat.zero_le _) ⟨rfl, hP, hD, hS, (by rw [nI_0]; exact lv_sub hl [1, 0] rfl)⟩
  · obtain ⟨h_1, hP, hD, hS, hl⟩ := hI
    have h_1 := h_1.symm
    subst h_1
    have hP : va_P D vwCl (XW ad cI cJ co fl ra li re wa ((lp (slInit wa) (40) pi))) H := hP
    have hD : va_D A (XW ad cI cJ co fl ra li re wa ((lp (slInit wa) (40) pi))) := hD
    have hl : lv_has ls 3 [(0, .ref (ad 6)), (1, .int (nI 40))] := hl
    refine lv_iload_n hx hb dX3_setLayers_2 rfl (lv_at hl 1 rfl) ?_
    refine lv_bipush (v := 40) hx hb dX3_setLayers_3 (by decide) ?_
    refine lv_icmp_ge (tgt := 41) hx hb dX3_setLayers_5 (by decide) (fun _ => ?_) (fun c_5 => absurd (by decide) c_5)
    refine lv_iconst (v := 1) hx hb dX3_setLayers_41 (by decide) ?_
    refine lv_istore_n (lv' := [(1, .int 1), (0, .ref (ad 6))]) hx hb dX3_setLayers_42 rfl hl (by decide) rfl (fun ls hl => ?_)
    refine lv_iconst (v := 0) hx hb dX3_setLayers_43 (by decide) ?_
    refine lv_istore_n (lv' := [(2, .int 0), (1, .int 1), (0, .ref (ad 6))]) hx hb dX3_setLayers_44 rfl hl (by decide) rfl (fun ls hl => ?_)
    refine w_loop (σ := Ob × Bool) (fun (i_2 : Nat) (p_2 : Ob × Bool) (H : Heap) (locs : List Loc) (ls : Array Slot) => p_2 = (lpW (fun p : Ob × Bool => p.2) (fun p : Ob × Bool => pushDown wa p.1) i_2 (((lp (slInit wa) (40) pi)), true)) ∧ va_P D vwCl (XW ad cI cJ co fl ra li re wa p_2.1) H ∧ va_D A (XW ad cI cJ co fl ra li re wa p_2.1) ∧ va_S A s.heap H locs ∧ lv_has ls 3 [(0, .ref (ad 6)), (1, .int (b2i p_2.2)), (2, .int (nI i_2))]) (40) (fun p_2 H locs ls hI => ?_) (fun i_2 p_2 H locs ls hi_2 hI ih_2 => ?_) 0 (((lp (slInit wa) (40) pi)), true) (Nat.zero_le _) ⟨rfl, hP, hD, hS, (by rw [nI_0]; exact lv_sub hl [2, 1, 0] rfl)⟩
    · obtain ⟨h_2, hP, hD, hS, hl⟩ := hI
      have h_2 := h_2.symm
      subst h_2
      have hP : va_P D vwCl (XW ad cI cJ co fl ra li re wa ((lpW (fun p : Ob × Bool => p.2) (fun p : Ob × Bool => pushDown wa p.1) (40) (((lp (slInit wa) (40) pi)), true)).1)) H := hP
      have hD : va_D A (XW ad cI cJ co fl ra li re wa ((lpW (fun p : Ob × Bool => p.2) (fun p : Ob × Bool => pushDown wa p.1) (40) (((lp (slInit wa) (40) pi)), true)).1)) := hD
      have hl : lv_has ls 3 [(0, .ref (ad 6)), (1, .int (b2i (lpW (fun p : Ob × Bool => p.2) (fun p : Ob × Bool => pushDown wa p.1) (40) (((lp (slInit wa) (40) pi)), true)).2)), (2, .int (nI 40))] := hl
      refine lv_iload_n hx hb dX3_setLayers_45 rfl (lv_at hl 2 rfl) ?_
      refine lv_bipush (v := 40) hx hb dX3_setLayers_46 (by decide) ?_
      refine lv_icmp_ge (tgt := 66) hx hb dX3_setLayers_48 (by decide) (fun _ => ?_) (fun c_48 => absurd (by decide) c_48)
      refine lv_aload_n hx hb dX3_setLayers_66 rfl (lv_at hl 0 rfl) ?_
      refine lv_iconst (v := 0) hx hb dX3_setLayers_67 (by decide) ?_
      refine va_put (D := D) (ci := 3) (v := .int 0) (C := RX3) (T := TX3) (N := 16) hx hb hg inGX3 tyX3 tyX3_ok nmX3 hown hK hP hD hS 6 rfl rfl 13 (by decide) (hg _ mw_235) (fun _ h9 => h9) rfl (tyX3_ok 13 (by decide)) rfl rfl (Nat.le_of_ble_eq_true rfl) dX3_setLayers_68 (fun H locs hP hD hS => ?_)
      have hP : va_P D vwCl (XW ad cI cJ co fl ra li re wa (si ((lpW (fun p : Ob × Bool => p.2) (fun p : Ob × Bool => pushDown wa p.1) (40) (((lp (slInit wa) (40) pi)), true)).1) 1 0)) H := hP
      have hD : va_D A (XW ad cI cJ co fl ra li re wa (si ((lpW (fun p : Ob × Bool => p.2) (fun p : Ob × Bool => pushDown wa p.1) (40) (((lp (slInit wa) (40) pi)), true)).1) 1 0)) := hD
      refine lv_iconst (v := 0) hx hb dX3_setLayers_71 (by decide) ?_
      refine lv_istore_n (lv' := [(2, .int 0), (0, .ref (ad 6)), (1, .int (b2i (lpW (fun p : Ob × Bool => p.2) (fun p : Ob × Bool => pushDown wa p.1) (40) (((lp (slInit wa) (40) pi)), true)).2))]) hx hb dX3_setLayers_72 rfl hl (by decide) rfl (fun ls hl => ?_)
      refine w_loop (σ := Ob) (fun (i_3 : Nat) (p_3 : Ob) (H : Heap) (locs : List Loc) (ls : Array Slot) => p_3 = (lp slMax i_3 (si ((lpW (fun p : Ob × Bool => p.2) (fun p : Ob × Bool => pushDown wa p.1) (40) (((lp (slInit wa) (40) pi)), true)).1) 1 0)) ∧ va_P D vwCl (XW ad cI cJ co fl ra li re wa p_3) H ∧ va_D A (XW ad cI cJ co fl ra li re wa p_3) ∧ va_S A s.heap H locs ∧ lv_has ls 3 [(0, .ref (ad 6)), (2, .int (nI i_3))]) (40) (fun p_3 H locs ls hI => ?_) (fun i_3 p_3 H locs ls hi_3 hI ih_3 => ?_) 0 (si ((lpW (fun p : Ob × Bool => p.2) (fun p : Ob × Bool => pushDown wa p.1) (40) (((lp (slInit wa) (40) pi)), true)).1) 1 0) (Nat.zero_le _) ⟨rfl, hP, hD, hS, (by rw [nI_0]; exact lv_sub hl [1, 0] rfl)⟩
      · obtain ⟨h_3, hP, hD, hS, hl⟩ := hI
        have h_3 := h_3.symm
        subst h_3
        have hP : va_P D vwCl (XW ad cI cJ co fl ra li re wa ((lp slMax (40) (si ((lpW (fun p : Ob × Bool => p.2) (fun p : Ob × Bool => pushDown wa p.1) (40) (((lp (slInit wa) (40) pi)), true)).1) 1 0)))) H := hP
        have hD : va_D A (XW ad cI cJ co fl ra li re wa ((lp slMax (40) (si ((lpW (fun p : Ob × Bool => p.2) (fun p : Ob × Bool => pushDown wa p.1) (40) (((lp (slInit wa) (40) pi)), true)).1) 1 0)))) := hD
        have hl : lv_has ls 3 [(0, .ref (ad 6)), (2, .int (nI 40))] := hl
        refine lv_iload_n hx hb dX3_setLayers_73 rfl (lv_at hl 1 rfl) ?_
        refine lv_bipush (v := 40) hx hb dX3_setLayers_74 (by decide) ?_
        refine lv_icmp_ge (tgt := 106) hx hb dX3_setLayers_76 (by decide) (fun _ => ?_) (fun c_76 => absurd (by decide) c_76)
        exact W.vret hx hb hr (fun t ht hW => ⟨⟨(XW ad cI cJ co fl ra li re wa ((lp slMax (40) (si ((lpW (fun p : Ob × Bool => p.2) (fun p : Ob × Bool => pushDown wa p.1) (40) (((lp (slInit wa) (40) pi)), true)).1) 1 0)))), rfl, xw_eq rfl rfl rfl rfl rfl rfl (show ((lp slMax (40) (si ((lpW (fun p : Ob × Bool => p.2) (fun p : Ob × Bool => pushDown wa p.1) (40) (((lp (slInit wa) (40) pi)), true)).1) 1 0))) = (setLayers wa pi) from (by first | with_reducible rfl | (simp only [setLayers, slPush, gi_sl, gi_sA, gi_sB, gi_si_s, gi_si_n, gl_si, gl_sA, gl_sB, gl_sl_s, gl_sl_n, gA_si, gA_sl, gA_sB, gA_sA_s, gA_sA_n, gB_si, gB_sl, gB_sA, gB_sB_s, gB_sB_n, Nat.reduceBEq, if_true, if_false, eq_self, Bool.false_eq_true, reduceCtorEq, not_true_eq_false, not_false_eq_true, decide_true, decide_false, cond_true, cond_false, Bool.true_and, Bool.false_and, Bool.and_true, Bool.and_false, Bool.true_or, Bool.false_or, Bool.or_true, Bool.or_false, b2i_tt, b2i_ff]; done) | rfl)), ⟨by rw [ht]; exact hP, va_K.moved hW.alike hK, hD⟩⟩, hS.F ht⟩) hS.2.2 dX3_setLayers_106
      · obtain ⟨h_3, hP, hD, hS, hl⟩ := hI
        have hP : va_P D vwCl (XW ad cI cJ co fl ra li re wa p_3) H := hP
        have hD : va_D A (XW ad cI cJ co fl ra li re wa p_3) := hD
        have hl : lv_has ls 3 [(0, .ref (ad 6)), (2, .int (nI i_3))] := hl
        refine lv_iload_n hx hb dX3_setLayers_73 rfl (lv_at hl 1 rfl) ?_
        refine lv_bipush (v := 40) hx hb dX3_setLayers_74 (by decide) ?_
        refine lv_icmp_ge (tgt := 106) hx hb dX3_setLayers_76 (by decide) (fun c_76 => absurd c_76 (nI_ge hi_3 (by decide))) (fun _ => ?_)
        refine lv_aload_n hx hb dX3_setLayers_79 rfl (lv_at hl 0 rfl) ?_
        refine lv_aload_n hx hb dX3_setLayers_80 rfl (lv_at hl 0 rfl) ?_
        refine va_get (D := D) (ci := 3) (v := .int (gi p_3 1)) (C := RX3) (T := TX3) (N := 16) hx hb hg inGX3 hown hK hP 6 rfl rfl 13 (by decide) (hg _ mw_235) (fun _ h9 => h9) rfl dX3_setLayers_81 ?_
        refine lv_aload_n hx hb dX3_setLayers_84 rfl (lv_at hl 0 rfl) ?_
        refine va_get (D := D) (ci := 3) (v := .ref (ad 34)) (C := RX3) (T := TX3) (N := 16) hx hb hg inGX3 hown hK hP 6 rfl rfl 1 (by decide) (hg _ mw_226) (fun _ h9 => h9) rfl dX3_setLayers_85 ?_
        refine lv_iload_n hx hb dX3_setLayers_88 rfl (lv_at hl 1 rfl) ?_
        refine kI (rSN hx hb hml hown hg hN hK hP hD (c_at l D cI cJ (XW ad cI cJ co fl ra li re wa p_3) 34 (ad 34) 40 (gA p_3 0) (nI i_3) rfl (by decide)) mw_84 nw_96 mw_85 mw_77 pd_X7_at ⟨Nat.le_of_ble_eq_true rfl, Nat.le_of_ble_eq_true rfl⟩ rfl hl.1 rfl (Nat.le_of_ble_eq_true rfl) dX3_setLayers_89 ⟨Nat.le_of_ble_eq_true rfl, Nat.le_of_ble_eq_true rfl⟩) hD hS hA (fun r_4 u_4 H locs hp hP hD hS => ?_)
        obtain ⟨er, eu⟩ := hp
        obtain rfl := er.symm
        obtain rfl := eu.symm
        refine lv_iconst (v := 1) hx hb dX3_setLayers_92 (by decide) ?_
        refine lv_iadd hx hb dX3_setLayers_93 ?_
        refine va_mmax hx hb (by rw [hml]; exact hl.1.symm) hown (hg _ mw_236) (hg _ mw_237) (hg _ mw_238) (hg _ mw_239) (Nat.le_of_ble_eq_true rfl) (Nat.le_of_ble_eq_true rfl) (Nat.le_of_ble_eq_true rfl) (Nat.le_of_ble_eq_true rfl) dX3_setLayers_94 ?_
        refine W.eq (g2 := F0 m 97 ls [.int (imax (gi p_3 1) ((rd (gA p_3 0) 40 (nI i_3)) + 1)), .ref (ad 6)]) rfl ?_
        refine va_put (D := D) (ci := 3) (v := .int (imax (gi p_3 1) ((rd (gA p_3 0) 40 (nI i_3)) + 1))) (C := RX3) (T := TX3) (N := 16) hx hb hg inGX3 tyX3 tyX3_ok nmX3 hown hK hP hD hS 6 rfl rfl 13 (by decide) (hg _ mw_235) (fun _ h9 => h9) rfl (tyX3_ok 13 (by decide)) rfl rfl (Nat.le_of_ble_eq_true rfl) dX3_setLayers_97 (fun H locs hP hD hS => ?_)
        have hP : va_P D vwCl (XW ad cI cJ co fl ra li re wa (si p_3 1 (imax (gi p_3 1) ((rd (gA p_3 0) 40 (nI i_3)) + 1)))) H := hP
        have hD : va_D A (XW ad cI cJ co fl ra li re wa (si p_3 1 (imax (gi p_3 1) ((rd (gA p_3 0) 40 (nI i_3)) + 1)))) := hD
        refine lv_iinc (v := (nI (i_3 + 1))) (lv' := [(2, .int (nI (i_3 + 1))), (0, .ref (ad 6))]) hx hb dX3_setLayers_100 hl (k := 1) rfl (nI_1 i_3) (by decide) rfl (fun ls hl => ?_)
        refine lv_goto (tgt := 73) hx hb dX3_setLayers_103 (by decide) ?_
        exact ih_3 (si p_3 1 (imax (gi p_3 1) ((rd (gA p_3 0) 40 (nI i_3)) + 1))) H locs ls ⟨((show (si p_3 1 (imax (gi p_3 1) ((rd (gA p_3 0) 40 (nI i_3)) + 1))) = slMax i_3 p_3 from (by first | with_reducible rfl | (simp only [slMax, gi_sl, gi_sA, gi_sB, gi_si_s, gi_si_n, gl_si, gl_sA, gl_sB, gl_sl_s, gl_sl_n, gA_si, gA_sl, gA_sB, gA_sA_s, gA_sA_n, gB_si, gB_sl, gB_sA, gB_sB_s, gB_sB_n, Nat.reduceBEq, if_true, if_false, eq_self, Bool.false_eq_true, reduceCtorEq, not_true_eq_false, not_false_eq_true, decide_true, decide_false, cond_true, cond_false, Bool.true_and, Bool.false_and, Bool.and_true, Bool.and_false, Bool.true_or, Bool.false_or, Bool.or_true, Bool.or_false, b2i_tt, b2i_ff]; done) | rfl)).trans (lp_go h_3)), hP, hD, hS, lv_sub hl [1, 0] rfl⟩
    · obtain ⟨h_2, hP, hD, hS, hl⟩ := hI
      have hP : va_P D vwCl (XW ad cI cJ co fl ra li re wa p_2.1) H := hP
      have hD : va_D A (XW ad cI cJ co fl ra li re wa p_2.1) := hD
      have hl : lv_has ls 3 [(0, .ref (ad 6)), (1, .int (b2i p_2.2)), (2, .int (nI i_2))] := hl
      refine lv_iload_n hx hb dX3_setLayers_45 rfl (lv_at hl 2 rfl) ?_
      refine lv_bipush (v := 40) hx hb dX3_setLayers_46 (by decide) ?_
      refine lv_icmp_ge (tgt := 66) hx hb dX3_setLayers_48 (by decide) (fun c_48 => absurd c_48 (nI_ge hi_2 (by decide))) (fun _ => ?_)
      refine lv_iload_n hx hb dX3_setLayers_51 rfl (lv_at hl 1 rfl) ?_
      refine lv_if_eq (tgt := 66) hx hb dX3_setLayers_52 (by decide) (fun c_52 => ?_) (fun c_52 => ?_)
      · have c_52 : ¬ p_2.2 = true := b2i_0 c_52
        have h_2 : p_2 = (lpW (fun p : Ob × Bool => p.2) (fun p : Ob × Bool => pushDown wa p.1) (40) (((lp (slInit wa) (40) pi)), true)) := lpW_stop h_2 (by first | (simp only [if_neg c_52, bf_of c_52, gi_sl, gi_sA, gi_sB, gi_si_s, gi_si_n, gl_si, gl_sA, gl_sB, gl_sl_s, gl_sl_n, gA_si, gA_sl, gA_sB, gA_sA_s, gA_sA_n, gB_si, gB_sl, gB_sA, gB_sB_s, gB_sB_n, Nat.reduceBEq, if_true, if_false, eq_self, Bool.false_eq_true, reduceCtorEq, not_true_eq_false, not_false_eq_true, decide_true, decide_false, cond_true, cond_false, Bool.true_and, Bool.false_and, Bool.and_true, Bool.and_false, Bool.true_or, Bool.false_or, Bool.or_true, Bool.or_false, b2i_tt, b2i_ff]; done) | (simp only [if_neg c_52, bf_of c_52, gi_sl, gi_sA, gi_sB, gi_si_s, gi_si_n, gl_si, gl_sA, gl_sB, gl_sl_s, gl_sl_n, gA_si, gA_sl, gA_sB, gA_sA_s, gA_sA_n, gB_si, gB_sl, gB_sA, gB_sB_s, gB_sB_n, Nat.reduceBEq, if_true, if_false, eq_self, Bool.false_eq_true, reduceCtorEq, not_true_eq_false, not_false_eq_true, decide_true, decide_false, cond_true, cond_false, Bool.true_and, Bool.false_and, Bool.and_true, Bool.and_false, Bool.true_or, Bool.false_or, Bool.or_true, Bool.or_false, b2i_tt, b2i_ff]; rfl) | (simp [c_52, gi_sl, gi_sA, gi_sB, gi_si_s, gi_si_n, gl_si, gl_sA, gl_sB, gl_sl_s, gl_sl_n, gA_si, gA_sl, gA_sB, gA_sA_s, gA_sA_n, gB_si, gB_sl, gB_sA, gB_sB_s, gB_sB_n, Nat.reduceBEq]; done)) (Nat.le_of_lt hi_2)
        have h_2 := h_2.symm
        subst h_2
        have hP : va_P D vwCl (XW ad cI cJ co fl ra li re wa ((lpW (fun p : Ob × Bool => p.2) (fun p : Ob × Bool => pushDown wa p.1) (40) (((lp (slInit wa) (40) pi)), true)).1)) H := hP
        have hD : va_D A (XW ad cI cJ co fl ra li re wa ((lpW (fun p : Ob × Bool => p.2) (fun p : Ob × Bool => pushDown wa p.1) (40) (((lp (slInit wa) (40) pi)), true)).1)) := hD
        have hl : lv_has ls 3 [(0, .ref (ad 6)), (1, .int (b2i (lpW (fun p : Ob × Bool => p.2) (fun p : Ob × Bool => pushDown wa p.1) (40) (((lp (slInit wa) (40) pi)), true)).2)), (2, .int (nI i_2))] := hl
        refine lv_aload_n hx hb dX3_setLayers_66 rfl (lv_at hl 0 rfl) ?_
        refine lv_iconst (v := 0) hx hb dX3_setLayers_67 (by decide) ?_
        refine va_put (D := D) (ci := 3) (v := .int 0) (C := RX3) (T := TX3) (N := 16) hx hb hg inGX3 tyX3 tyX3_ok nmX3 hown hK hP hD hS 6 rfl rfl 13 (by decide) (hg _ mw_235) (fun _ h9 => h9) rfl (tyX3_ok 13 (by decide)) rfl rfl (Nat.le_of_ble_eq_true rfl) dX3_setLayers_68 (fun H locs hP hD hS => ?_)
        have hP : va_P D vwCl (XW ad cI cJ co fl ra li re wa (si ((lpW (fun p : Ob × Bool => p.2) (fun p : Ob × Bool => pushDown wa p.1) (40) (((lp (slInit wa) (40) pi)), true)).1) 1 0)) H := hP
        have hD : va_D A (XW ad cI cJ co fl ra li re wa (si ((lpW (fun p : Ob × Bool => p.2) (fun p : Ob × Bool => pushDown wa p.1) (40) (((lp (slInit wa) (40) pi)), true)).1) 1 0)) := hD
        refine lv_iconst (v := 0) hx hb dX3_setLayers_71 (by decide) ?_
        refine lv_istore_n (lv' := [(2, .int 0), (0, .ref (ad 6)), (1, .int (b2i (lpW (fun p : Ob × Bool => p.2) (fun p : Ob × Bool => pushDown wa p.1) (40) (((lp (slInit wa) (40) pi)), true)).2))]) hx hb dX3_setLayers_72 rfl hl (by decide) rfl (fun ls hl => ?_)
        refine w_loop (σ := Ob) (fun (i_5 : Nat) (p_5 : Ob) (H : Heap) (locs : List Loc) (ls : Array Slot) => p_5 = (lp slMax i_5 (si ((lpW (fun p : Ob × Bool => p.2) (fun p : Ob × Bool => pushDown wa p.1) (40) (((lp (slInit wa) (40) pi)), true)).1) 1 0)) ∧ va_P D vwCl (XW ad cI cJ co fl ra li re wa p_5) H ∧ va_D A (XW ad cI cJ co fl ra li re wa p_5) ∧ va_S A s.heap H locs ∧ lv_has ls 3 [(0, .ref (ad 6)), (2, .int (nI i_5))]) (40) (fun p_5 H locs ls hI => ?_) (fun i_5 p_5 H locs ls hi_5 hI ih_5 => ?_) 0 (si ((lpW (fun p : Ob × Bool => p.2) (fun p : Ob × Bool => pushDown wa p.1) (40) (((lp (slInit wa) (40) pi)), true)).1) 1 0) (Nat.zero_le _) ⟨rfl, hP, hD, hS, (by rw [nI_0]; exact lv_sub hl [1, 0] rfl)⟩
        · obtain ⟨h_5, hP, hD, hS, hl⟩ := hI
          have h_5 := h_5.symm
          subst h_5
          have hP : va_P D vwCl (XW ad cI cJ co fl ra li re wa ((lp slMax (40) (si ((lpW (fun p : Ob × Bool => p.2) (fun p : Ob × Bool => pushDown wa p.1) (40) (((lp (slInit wa) (40) pi)), true)).1) 1 0)))) H := hP
          have hD : va_D A (XW ad cI cJ co fl ra li re wa ((lp slMax (40) (si ((lpW (fun p : Ob × Bool => p.2) (fun p : Ob × Bool => pushDown wa p.1) (40) (((lp (slInit wa) (40) pi)), true)).1) 1 0)))) := hD
          have hl : lv_has ls 3 [(0, .ref (ad 6)), (2, .int (nI 40))] := hl
          refine lv_iload_n hx hb dX3_setLayers_73 rfl (lv_at hl 1 rfl) ?_
          refine lv_bipush (v := 40) hx hb dX3_setLayers_74 (by decide) ?_
          refine lv_icmp_ge (tgt := 106) hx hb dX3_setLayers_76 (by decide) (fun _ => ?_) (fun c_76 => absurd (by decide) c_76)
          exact W.vret hx hb hr (fun t ht hW => ⟨⟨(XW ad cI cJ co fl ra li re wa ((lp slMax (40) (si ((lpW (fun p : Ob × Bool => p.2) (fun p : Ob × Bool => pushDown wa p.1) (40) (((lp (slInit wa) (40) pi)), true)).1) 1 0)))), rfl, xw_eq rfl rfl rfl rfl rfl rfl (show ((lp slMax (40) (si ((lpW (fun p : Ob × Bool => p.2) (fun p : Ob × Bool => pushDown wa p.1) (40) (((lp (slInit wa) (40) pi)), true)).1) 1 0))) = (setLayers wa pi) from (by first | (simp only [setLayers, slPush, if_neg c_52, bf_of c_52, gi_sl, gi_sA, gi_sB, gi_si_s, gi_si_n, gl_si, gl_sA, gl_sB, gl_sl_s, gl_sl_n, gA_si, gA_sl, gA_sB, gA_sA_s, gA_sA_n, gB_si, gB_sl, gB_sA, gB_sB_s, gB_sB_n, Nat.reduceBEq, if_true, if_false, eq_self, Bool.false_eq_true, reduceCtorEq, not_true_eq_false, not_false_eq_true, decide_true, decide_false, cond_true, cond_false, Bool.true_and, Bool.false_and, Bool.and_true, Bool.and_false, Bool.true_or, Bool.false_or, Bool.or_true, Bool.or_false, b2i_tt, b2i_ff]; done) | (simp only [setLayers, slPush, if_neg c_52, bf_of c_52, gi_sl, gi_sA, gi_sB, gi_si_s, gi_si_n, gl_si, gl_sA, gl_sB, gl_sl_s, gl_sl_n, gA_si, gA_sl, gA_sB, gA_sA_s, gA_sA_n, gB_si, gB_sl, gB_sA, gB_sB_s, gB_sB_n, Nat.reduceBEq, if_true, if_false, eq_self, Bool.false_eq_true, reduceCtorEq, not_true_eq_false, not_false_eq_true, decide_true, decide_false, cond_true, cond_false, Bool.true_and, Bool.false_and, Bool.and_true, Bool.and_false, Bool.true_or, Bool.false_or, Bool.or_true, Bool.or_false, b2i_tt, b2i_ff]; rfl) | (simp [setLayers, slPush, c_52, gi_sl, gi_sA, gi_sB, gi_si_s, gi_si_n, gl_si, gl_sA, gl_sB, gl_sl_s, gl_sl_n, gA_si, gA_sl, gA_sB, gA_sA_s, gA_sA_n, gB_si, gB_sl, gB_sA, gB_sB_s, gB_sB_n, Nat.reduceBEq]; done))), ⟨by rw [ht]; exact hP, va_K.moved hW.alike hK, hD⟩⟩, hS.F ht⟩) hS.2.2 dX3_setLayers_106
        · obtain ⟨h_5, hP, hD, hS, hl⟩ := hI
          have hP : va_P D vwCl (XW ad cI cJ co fl ra li re wa p_5) H := hP
          have hD : va_D A (XW ad cI cJ co fl ra li re wa p_5) := hD
          have hl : lv_has ls 3 [(0, .ref (ad 6)), (2, .int (nI i_5))] := hl
          refine lv_iload_n hx hb dX3_setLayers_73 rfl (lv_at hl 1 rfl) ?_
          refine lv_bipush (v := 40) hx hb dX3_setLayers_74 (by decide) ?_
          refine lv_icmp_ge (tgt := 106) hx hb dX3_setLayers_76 (by decide) (fun c_76 => absurd c_76 (nI_ge hi_5 (by decide))) (fun _ => ?_)
          refine lv_aload_n hx hb dX3_setLayers_79 rfl (lv_at hl 0 rfl) ?_
          refine lv_aload_n hx hb dX3_setLayers_80 rfl (lv_at hl 0 rfl) ?_
          refine va_get (D := D) (ci := 3) (v := .int (gi p_5 1)) (C := RX3) (T := TX3) (N := 16) hx hb hg inGX3 hown hK hP 6 rfl rfl 13 (by decide) (hg _ mw_235) (fun _ h9 => h9) rfl dX3_setLayers_81 ?_
          refine lv_aload_n hx hb dX3_setLayers_84 rfl (lv_at hl 0 rfl) ?_
          refine va_get (D := D) (ci := 3) (v := .ref (ad 34)) (C := RX3) (T := TX3) (N := 16) hx hb hg inGX3 hown hK hP 6 rfl rfl 1 (by decide) (hg _ mw_226) (fun _ h9 => h9) rfl dX3_setLayers_85 ?_
          refine lv_iload_n hx hb dX3_setLayers_88 rfl (lv_at hl 1 rfl) ?_
          refine kI (rSN hx hb hml hown hg hN hK hP hD (c_at l D cI cJ (XW ad cI cJ co fl ra li re wa p_5) 34 (ad 34) 40 (gA p_5 0) (nI i_5) rfl (by decide)) mw_84 nw_96 mw_85 mw_77 pd_X7_at ⟨Nat.le_of_ble_eq_true rfl, Nat.le_of_ble_eq_true rfl⟩ rfl hl.1 rfl (Nat.le_of_ble_eq_true rfl) dX3_setLayers_89 ⟨Nat.le_of_ble_eq_true rfl, Nat.le_of_ble_eq_true rfl⟩) hD hS hA (fun r_6 u_6 H locs hp hP hD hS => ?_)
          obtain ⟨er, eu⟩ := hp
          obtain rfl := er.symm
          obtain rfl := eu.symm
          refine lv_iconst (v := 1) hx hb dX3_setLayers_92 (by decide) ?_
          refine lv_iadd hx hb dX3_setLayers_93 ?_
          refine va_mmax hx hb (by rw [hml]; exact hl.1.symm) hown (hg _ mw_236) (hg _ mw_237) (hg _ mw_238) (hg _ mw_239) (Nat.le_of_ble_eq_true rfl) (Nat.le_of_ble_eq_true rfl) (Nat.le_of_ble_eq_true rfl) (Nat.le_of_ble_eq_true rfl) dX3_setLayers_94 ?_
          refine W.eq (g2 := F0 m 97 ls [.int (imax (gi p_5 1) ((rd (gA p_5 0) 40 (nI i_5)) + 1)), .ref (ad 6)]) rfl ?_
          refine va_put (D := D) (ci := 3) (v := .int (imax (gi p_5 1) ((rd (gA p_5 0) 40 (nI i_5)) + 1))) (C := RX3) (T := TX3) (N := 16) hx hb hg inGX3 tyX3 tyX3_ok nmX3 hown hK hP hD hS 6 rfl rfl 13 (by decide) (hg _ mw_235) (fun _ h9 => h9) rfl (tyX3_ok 13 (by decide)) rfl rfl (Nat.le_of_ble_eq_true rfl) dX3_setLayers_97 (fun H locs hP hD hS => ?_)
          have hP : va_P D vwCl (XW ad cI cJ co fl ra li re wa (si p_5 1 (imax (gi p_5 1) ((rd (gA p_5 0) 40 (nI i_5)) + 1)))) H := hP
          have hD : va_D A (XW ad cI cJ co fl ra li re wa (si p_5 1 (imax (gi p_5 1) ((rd (gA p_5 0) 40 (nI i_5)) + 1)))) := hD
          refine lv_iinc (v := (nI (i_5 + 1))) (lv' := [(2, .int (nI (i_5 + 1))), (0, .ref (ad 6))]) hx hb dX3_setLayers_100 hl (k := 1) rfl (nI_1 i_5) (by decide) rfl (fun ls hl => ?_)
          refine lv_goto (tgt := 73) hx hb dX3_setLayers_103 (by decide) ?_
          exact ih_5 (si p_5 1 (imax (gi p_5 1) ((rd (gA p_5 0) 40 (nI i_5)) + 1))) H locs ls ⟨((show (si p_5 1 (imax (gi p_5 1) ((rd (gA p_5 0) 40 (nI i_5)) + 1))) = slMax i_5 p_5 from (by first | (simp only [slMax, if_neg c_52, bf_of c_52, gi_sl, gi_sA, gi_sB, gi_si_s, gi_si_n, gl_si, gl_sA, gl_sB, gl_sl_s, gl_sl_n, gA_si, gA_sl, gA_sB, gA_sA_s, gA_sA_n, gB_si, gB_sl, gB_sA, gB_sB_s, gB_sB_n, Nat.reduceBEq, if_true, if_false, eq_self, Bool.false_eq_true, reduceCtorEq, not_true_eq_false, not_false_eq_true, decide_true, decide_false, cond_true, cond_false, Bool.true_and, Bool.false_and, Bool.and_true, Bool.and_false, Bool.true_or, Bool.false_or, Bool.or_true, Bool.or_false, b2i_tt, b2i_ff]; done) | (simp only [slMax, if_neg c_52, bf_of c_52, gi_sl, gi_sA, gi_sB, gi_si_s, gi_si_n, gl_si, gl_sA, gl_sB, gl_sl_s, gl_sl_n, gA_si, gA_sl, gA_sB, gA_sA_s, gA_sA_n, gB_si, gB_sl, gB_sA, gB_sB_s, gB_sB_n, Nat.reduceBEq, if_true, if_false, eq_self, Bool.false_eq_true, reduceCtorEq, not_true_eq_false, not_false_eq_true, decide_true, decide_false, cond_true, cond_false, Bool.true_and, Bool.false_and, Bool.and_true, Bool.and_false, Bool.true_or, Bool.false_or, Bool.or_true, Bool.or_false, b2i_tt, b2i_ff]; rfl) | (simp [slMax, c_52, gi_sl, gi_sA, gi_sB, gi_si_s, gi_si_n, gl_si, gl_sA, gl_sB, gl_sl_s, gl_sl_n, gA_si, gA_sl, gA_sB, gA_sA_s, gA_sA_n, gB_si, gB_sl, gB_sA, gB_sB_s, gB_sB_n, Nat.reduceBEq]; done))).trans (lp_go h_5)), hP, hD, hS, lv_sub hl [1, 0] rfl⟩
      · have c_52 : p_2.2 = true := b2i_1 c_52
        refine lv_aload_n hx hb dX3_setLayers_55 rfl (lv_at hl 0 rfl) ?_
        refine kI (rV (q0 := 6) (ci := 3) hx hb hml hown hg hN hK hP hD (c_pushDown l D cI cJ ad co fl ra li re wa p_2.1) mw_240 mw_241 mw_242 mw_243 mw_234 pdv_X3_pushDown ⟨Nat.le_of_ble_eq_true rfl, Nat.le_of_ble_eq_true rfl⟩ rfl rfl rfl hl.1 rfl (Nat.le_of_ble_eq_true rfl) dX3_setLayers_56 ⟨Nat.le_of_ble_eq_true rfl, Nat.le_of_ble_eq_true rfl⟩) hD hS hA (fun r_7 u_7 H locs hp hP hD hS => ?_)
        obtain ⟨er, eu⟩ := hp
        obtain rfl := er.symm
        obtain rfl := eu.symm
        have hP : va_P D vwCl (XW ad cI cJ co fl ra li re wa (pushDown wa p_2.1).1) H := hP
        have hD : va_D A (XW ad cI cJ co fl ra li re wa (pushDown wa p_2.1).1) := hD
        refine lv_istore_n (lv' := [(1, .int (b2i (pushDown wa p_2.1).2)), (0, .ref (ad 6)), (2, .int (nI i_2))]) hx hb dX3_setLayers_59 rfl hl (by decide) rfl (fun ls hl => ?_)
        refine lv_iinc (v := (nI (i_2 + 1))) (lv' := [(2, .int (nI (i_2 + 1))), (1, .int (b2i (pushDown wa p_2.1).2)), (0, .ref (ad 6))]) hx hb dX3_setLayers_60 hl (k := 2) rfl (nI_1 i_2) (by decide) rfl (fun ls hl => ?_)
        refine lv_goto (tgt := 45) hx hb dX3_setLayers_63 (by decide) ?_
        exact ih_2 ((pushDown wa p_2.1).1, (pushDown wa p_2.1).2) H locs ls ⟨((show ((pushDown wa p_2.1).1, (pushDown wa p_2.1).2) = (fun p : Ob × Bool => pushDown wa p.1) p_2 from (by first | (simp only [if_pos c_52, c_52, gi_sl, gi_sA, gi_sB, gi_si_s, gi_si_n, gl_si, gl_sA, gl_sB, gl_sl_s, gl_sl_n, gA_si, gA_sl, gA_sB, gA_sA_s, gA_sA_n, gB_si, gB_sl, gB_sA, gB_sB_s, gB_sB_n, Nat.reduceBEq, if_true, if_false, eq_self, Bool.false_eq_true, reduceCtorEq, not_true_eq_false, not_false_eq_true, decide_true, decide_false, cond_true, cond_false, Bool.true_and, Bool.false_and, Bool.and_true, Bool.and_false, Bool.true_or, Bool.false_or, Bool.or_true, Bool.or_false, b2i_tt, b2i_ff]; done) | (simp only [if_pos c_52, c_52, gi_sl, gi_sA, gi_sB, gi_si_s, gi_si_n, gl_si, gl_sA, gl_sB, gl_sl_s, gl_sl_n, gA_si, gA_sl, gA_sB, gA_sA_s, gA_sA_n, gB_si, gB_sl, gB_sA, gB_sB_s, gB_sB_n, Nat.reduceBEq, if_true, if_false, eq_self, Bool.false_eq_true, reduceCtorEq, not_true_eq_false, not_false_eq_true, decide_true, decide_false, cond_true, cond_false, Bool.true_and, Bool.false_and, Bool.and_true, Bool.and_false, Bool.true_or, Bool.false_or, Bool.or_true, Bool.or_false, b2i_tt, b2i_ff]; rfl) | (simp [c_52, gi_sl, gi_sA, gi_sB, gi_si_s, gi_si_n, gl_si, gl_sA, gl_sB, gl_sl_s, gl_sl_n, gA_si, gA_sl, gA_sB, gA_sA_s, gA_sA_n, gB_si, gB_sl, gB_sA, gB_sB_s, gB_sB_n, Nat.reduceBEq]; done))).trans (lpW_go h_2 (by first | (simp only [if_pos c_52, c_52, gi_sl, gi_sA, gi_sB, gi_si_s, gi_si_n, gl_si, gl_sA, gl_sB, gl_sl_s, gl_sl_n, gA_si, gA_sl, gA_sB, gA_sA_s, gA_sA_n, gB_si, gB_sl, gB_sA, gB_sB_s, gB_sB_n, Nat.reduceBEq, if_true, if_false, eq_self, Bool.false_eq_true, reduceCtorEq, not_true_eq_false, not_false_eq_true, decide_true, decide_false, cond_true, cond_false, Bool.true_and, Bool.false_and, Bool.and_true, Bool.and_false, Bool.true_or, Bool.false_or, Bool.or_true, Bool.or_false, b2i_tt, b2i_ff]; done) | (simp only [if_pos c_52, c_52, gi_sl, gi_sA, gi_sB, gi_si_s, gi_si_n, gl_si, gl_sA, gl_sB, gl_sl_s, gl_sl_n, gA_si, gA_sl, gA_sB, gA_sA_s, gA_sA_n, gB_si, gB_sl, gB_sA, gB_sB_s, gB_sB_n, Nat.reduceBEq, if_true, if_false, eq_self, Bool.false_eq_true, reduceCtorEq, not_true_eq_false, not_false_eq_true, decide_true, decide_false, cond_true, cond_false, Bool.true_and, Bool.false_and, Bool.and_true, Bool.and_false, Bool.true_or, Bool.false_or, Bool.or_true, Bool.or_false, b2i_tt, b2i_ff]; rfl) | (simp [c_52, gi_sl, gi_sA, gi_sB, gi_si_s, gi_si_n, gl_si, gl_sA, gl_sB, gl_sl_s, gl_sl_n, gA_si, gA_sl, gA_sB, gA_sA_s, gA_sA_n, gB_si, gB_sl, gB_sA, gB_sB_s, gB_sB_n, Nat.reduceBEq]; done)))), hP, hD, hS, lv_sub hl [2, 1, 0] rfl⟩
  · obtain ⟨h_1, hP, hD, hS, hl⟩ := hI
    have hP : va_P D vwCl (XW ad cI cJ co fl ra li re wa p_1) H := hP
    have hD : va_D A (XW ad cI cJ co fl ra li re wa p_1) := hD
    have hl : lv_has ls 3 [(0, .ref (ad 6)), (1, .int (nI i_1))] := hl
    refine lv_iload_n hx hb dX3_setLayers_2 rfl (lv_at hl 1 rfl) ?_
    refine lv_bipush (v := 40) hx hb dX3_setLayers_3 (by decide) ?_
    refine lv_icmp_ge (tgt := 41) hx hb dX3_setLayers_5 (by decide) (fun c_5 => absurd c_5 (nI_ge hi_1 (by decide))) (fun _ => ?_)
    refine lv_aload_n hx hb dX3_setLayers_8 rfl (lv_at hl 0 rfl) ?_
    refine va_get (D := D) (ci := 3) (v := .ref (ad 34)) (C := RX3) (T := TX3) (N := 16) hx hb hg inGX3 hown hK hP 6 rfl rfl 1 (by decide) (hg _ mw_226) (fun _ h9 => h9) rfl dX3_setLayers_9 ?_
    refine lv_iload_n hx hb dX3_setLayers_12 rfl (lv_at hl 1 rfl) ?_
    refine lv_aload_n hx hb dX3_setLayers_13 rfl (lv_at hl 0 rfl) ?_
    refine va_get (D := D) (ci := 3) (v := .ref (ad 7)) (C := RX3) (T := TX3) (N := 16) hx hb hg inGX3 hown hK hP 6 rfl rfl 0 (by decide) (hg _ mw_227) (fun _ h9 => h9) rfl dX3_setLayers_14 ?_
    refine va_getN (D := D) (ci := 6) (v := .long (gl wa 0)) (C := RX6) (T := TX6) (N := 9) hx hb hg inGX6 hown hK hP 7 rfl rfl 7 (by decide) (hN.use nw_59) (fun _ h9 => h9) rfl dX3_setLayers_17 ?_
    refine lv_iload_n hx hb dX3_setLayers_20 rfl (lv_at hl 1 rfl) ?_
    refine kI (rSN hx hb hml hown hg hN hK hP hD (c_has l D cI cJ (XW ad cI cJ co fl ra li re wa p_1) (gl wa 0) (nI i_1)) mw_89 nw_94 mw_90 mw_77 pd_X7_has ⟨Nat.le_of_ble_eq_true rfl, Nat.le_of_ble_eq_true rfl⟩ rfl hl.1 rfl (Nat.le_of_ble_eq_true rfl) dX3_setLayers_21 ⟨Nat.le_of_ble_eq_true rfl, Nat.le_of_ble_eq_true rfl⟩) hD hS hA (fun r_8 u_8 H locs hp hP hD hS => ?_)
    obtain ⟨er, eu⟩ := hp
    obtain rfl := er.symm
    obtain rfl := eu.symm
    refine lv_if_eq (tgt := 31) hx hb dX3_setLayers_24 (by decide) (fun c_24 => ?_) (fun c_24 => ?_)
    · have c_24 : ¬ (hs (gl wa 0) (nI i_1)) = true := b2i_0 c_24
      refine lv_iconst (v := (-1)) hx hb dX3_setLayers_31 (by decide) ?_
      refine kV (rSN hx hb hml hown hg hN hK hP hD (c_put l D cI cJ (XW ad cI cJ co fl ra li re wa p_1) 34 (ad 34) 40 (gA p_1 0) (nI i_1) (-1) rfl (by decide)) mw_92 nw_95 mw_93 mw_77 pd_X7_put ⟨Nat.le_of_ble_eq_true rfl, Nat.le_of_ble_eq_true rfl⟩ rfl hl.1 rfl (Nat.le_of_ble_eq_true rfl) dX3_setLayers_32 ⟨Nat.le_of_ble_eq_true rfl, Nat.le_of_ble_eq_true rfl⟩) hD hS hA (fun u_9 H locs hp hP hD hS => ?_)
      obtain rfl := hp.symm
      have hP : va_P D vwCl (XW ad cI cJ co fl ra li re wa (sA p_1 0 (wr (gA p_1 0) 40 (nI i_1) (-1)))) H := hP
      have hD : va_D A (XW ad cI cJ co fl ra li re wa (sA p_1 0 (wr (gA p_1 0) 40 (nI i_1) (-1)))) := hD
      refine lv_iinc (v := (nI (i_1 + 1))) (lv' := [(1, .int (nI (i_1 + 1))), (0, .ref (ad 6))]) hx hb dX3_setLayers_35 hl (k := 1) rfl (nI_1 i_1) (by decide) rfl (fun ls hl => ?_)
      refine lv_goto (tgt := 2) hx hb dX3_setLayers_38 (by decide) ?_
      exact ih_1 (sA p_1 0 (wr (gA p_1 0) 40 (nI i_1) (-1))) H locs ls ⟨((show (sA p_1 0 (wr (gA p_1 0) 40 (nI i_1) (-1))) = (slInit wa) i_1 p_1 from (by first | (simp only [slInit, if_neg c_24, bf_of c_24, gi_sl, gi_sA, gi_sB, gi_si_s, gi_si_n, gl_si, gl_sA, gl_sB, gl_sl_s, gl_sl_n, gA_si, gA_sl, gA_sB, gA_sA_s, gA_sA_n, gB_si, gB_sl, gB_sA, gB_sB_s, gB_sB_n, Nat.reduceBEq, if_true, if_false, eq_self, Bool.false_eq_true, reduceCtorEq, not_true_eq_false, not_false_eq_true, decide_true, decide_false, cond_true, cond_false, Bool.true_and, Bool.false_and, Bool.and_true, Bool.and_false, Bool.true_or, Bool.false_or, Bool.or_true, Bool.or_false, b2i_tt, b2i_ff]; done) | (simp only [slInit, if_neg c_24, bf_of c_24, gi_sl, gi_sA, gi_sB, gi_si_s, gi_si_n, gl_si, gl_sA, gl_sB, gl_sl_s, gl_sl_n, gA_si, gA_sl, gA_sB, gA_sA_s, gA_sA_n, gB_si, gB_sl, gB_sA, gB_sB_s, gB_sB_n, Nat.reduceBEq, if_true, if_false, eq_self, Bool.false_eq_true, reduceCtorEq, not_true_eq_false, not_false_eq_true, decide_true, decide_false, cond_true, cond_false, Bool.true_and, Bool.false_and, Bool.and_true, Bool.and_false, Bool.true_or, Bool.false_or, Bool.or_true, Bool.or_false, b2i_tt, b2i_ff]; rfl) | (simp [slInit, c_24, gi_sl, gi_sA, gi_sB, gi_si_s, gi_si_n, gl_si, gl_sA, gl_sB, gl_sl_s, gl_sl_n, gA_si, gA_sl, gA_sB, gA_sA_s, gA_sA_n, gB_si, gB_sl, gB_sA, gB_sB_s, gB_sB_n, Nat.reduceBEq]; done))).trans (lp_go h_1)), hP, hD, hS, lv_sub hl [1, 0] rfl⟩
    · have c_24 : (hs (gl wa 0) (nI i_1)) = true := b2i_1 c_24
      refine lv_iconst (v := 0) hx hb dX3_setLayers_27 (by decide) ?_
      refine lv_goto (tgt := 32) hx hb dX3_setLayers_28 (by decide) ?_
      refine kV (rSN hx hb hml hown hg hN hK hP hD (c_put l D cI cJ (XW ad cI cJ co fl ra li re wa p_1) 34 (ad 34) 40 (gA p_1 0) (nI i_1) 0 rfl (by decide)) mw_92 nw_95 mw_93 mw_77 pd_X7_put ⟨Nat.le_of_ble_eq_true rfl, Nat.le_of_ble_eq_true rfl⟩ rfl hl.1 rfl (Nat.le_of_ble_eq_true rfl) dX3_setLayers_32 ⟨Nat.le_of_ble_eq_true rfl, Nat.le_of_ble_eq_true rfl⟩) hD hS hA (fun u_10 H locs hp hP hD hS => ?_)
      obtain rfl := hp.symm
      have hP : va_P D vwCl (XW ad cI cJ co fl ra li re wa (sA p_1 0 (wr (gA p_1 0) 40 (nI i_1) 0))) H := hP
      have hD : va_D A (XW ad cI cJ co fl ra li re wa (sA p_1 0 (wr (gA p_1 0) 40 (nI i_1) 0))) := hD
      refine lv_iinc (v := (nI (i_1 + 1))) (lv' := [(1, .int (nI (i_1 + 1))), (0, .ref (ad 6))]) hx hb dX3_setLayers_35 hl (k := 1) rfl (nI_1 i_1) (by decide) rfl (fun ls hl => ?_)
      refine lv_goto (tgt := 2) hx hb dX3_setLayers_38 (by decide) ?_
      exact ih_1 (sA p_1 0 (wr (gA p_1 0) 40 (nI i_1) 0)) H locs ls ⟨((show (sA p_1 0 (wr (gA p_1 0) 40 (nI i_1) 0)) = (slInit wa) i_1 p_1 from (by first | (simp only [slInit, if_pos c_24, c_24, gi_sl, gi_sA, gi_sB, gi_si_s, gi_si_n, gl_si, gl_sA, gl_sB, gl_sl_s, gl_sl_n, gA_si, gA_sl, gA_sB, gA_sA_s, gA_sA_n, gB_si, gB_sl, gB_sA, gB_sB_s, gB_sB_n, Nat.reduceBEq, if_true, if_false, eq_self, Bool.false_eq_true, reduceCtorEq, not_true_eq_false, not_false_eq_true, decide_true, decide_false, cond_true, cond_false, Bool.true_and, Bool.false_and, Bool.and_true, Bool.and_false, Bool.true_or, Bool.false_or, Bool.or_true, Bool.or_false, b2i_tt, b2i_ff]; done) | (simp only [slInit, if_pos c_24, c_24, gi_sl, gi_sA, gi_sB, gi_si_s, gi_si_n, gl_si, gl_sA, gl_sB, gl_sl_s, gl_sl_n, gA_si, gA_sl, gA_sB, gA_sA_s, gA_sA_n, gB_si, gB_sl, gB_sA, gB_sB_s, gB_sB_n, Nat.reduceBEq, if_true, if_false, eq_self, Bool.false_eq_true, reduceCtorEq, not_true_eq_false, not_false_eq_true, decide_true, decide_false, cond_true, cond_false, Bool.true_and, Bool.false_and, Bool.and_true, Bool.and_false, Bool.true_or, Bool.false_or, Bool.or_true, Bool.or_false, b2i_tt, b2i_ff]; rfl) | (simp [slInit, c_24, gi_sl, gi_sA, gi_sB, gi_si_s, gi_si_n, gl_si, gl_sA, gl_sB, gl_sl_s, gl_sl_n, gA_si, gA_sl, gA_sB, gA_sA_s, gA_sA_n, gB_si, gB_sl, gB_sA, gB_sB_s, gB_sB_n, Nat.reduceBEq]; done))).trans (lp_go h_1)), hP, hD, hS, lv_sub hl [1, 0] rfl⟩
set_option maxHeartbeats 4000000 in
set_option maxRecDepth 100000 in
theorem c_bendCount (l : Launch) (D : va_G) (cI cJ : ClassId) (ad : Nat → Nat) (co fl ra li re wa pi : Ob) (k1 : Int32) : CT l D (TY cI cJ) yX3_bendCount (.code yX3_bendCount cX3_bendCount 2 (some Jvm.ClassFile.FieldType.int)) 2 0 0 (XW ad cI cJ co fl ra li re wa pi) [.ref (ad 6), .int k1] (QI D (TY cI cJ) (fun r u => r = (bendCount wa pi k1) ∧ u = (XW ad cI cJ co fl ra li re wa pi))) := by
  refine ent (by decide) (Nat.le_of_ble_eq_true rfl) ?_
  intro p e s m below meth c ls A hx hb hr hg hown hml hlocks hnm hP hK hD hS hA hN hl
  have hl : lv_has ls 2 [(0, .ref (ad 6)), (1, .int k1)] := hl
  refine lv_aload_n hx hb dX3_bendCount_0 rfl (lv_at hl 0 rfl) ?_
  refine va_get (D := D) (ci := 3) (v := .ref (ad 7)) (C := RX3) (T := TX3) (N := 16) hx hb hg inGX3 hown hK hP 6 rfl rfl 0 (by decide) (hg _ mw_227) (fun _ h9 => h9) rfl dX3_bendCount_1 ?_
  refine lv_iload_n hx hb dX3_bendCount_4 rfl (lv_at hl 1 rfl) ?_
  refine kI (rV (q0 := 7) (ci := 6) hx hb hml hown hg hN hK hP hD (c_draws l D cI cJ ad co fl ra li re wa pi k1) mw_204 mw_229 mw_206 mw_207 mw_208 pdv_X6_draws ⟨Nat.le_of_ble_eq_true rfl, Nat.le_of_ble_eq_true rfl⟩ rfl rfl rfl hl.1 rfl (Nat.le_of_ble_eq_true rfl) dX3_bendCount_5 ⟨Nat.le_of_ble_eq_true rfl, Nat.le_of_ble_eq_true rfl⟩) hD hS hA (fun r_1 u_1 H locs hp hP hD hS => ?_)
  obtain ⟨er, eu⟩ := hp
  obtain rfl := er.symm
  obtain rfl := eu.symm
  refine lv_if_eq (tgt := 27) hx hb dX3_bendCount_8 (by decide) (fun c_8 => ?_) (fun c_8 => ?_)
  · have c_8 : ¬ (draws wa k1) = true := b2i_0 c_8
    refine lv_iconst (v := (-1)) hx hb dX3_bendCount_27 (by decide) ?_
    exact W.iret (v := (-1)) hx hb hr (fun t ht hW => ⟨⟨(-1), (XW ad cI cJ co fl ra li re wa pi), rfl, ⟨(show ((-1) : Int32) = (bendCount wa pi k1) from (by first | (simp only [bendCount, if_neg c_8, bf_of c_8, gi_sl, gi_sA, gi_sB, gi_si_s, gi_si_n, gl_si, gl_sA, gl_sB, gl_sl_s, gl_sl_n, gA_si, gA_sl, gA_sB, gA_sA_s, gA_sA_n, gB_si, gB_sl, gB_sA, gB_sB_s, gB_sB_n, Nat.reduceBEq, if_true, if_false, eq_self, Bool.false_eq_true, reduceCtorEq, not_true_eq_false, not_false_eq_true, decide_true, decide_false, cond_true, cond_false, Bool.true_and, Bool.false_and, Bool.and_true, Bool.and_false, Bool.true_or, Bool.false_or, Bool.or_true, Bool.or_false, b2i_tt, b2i_ff]; done) | (simp only [bendCount, if_neg c_8, bf_of c_8, gi_sl, gi_sA, gi_sB, gi_si_s, gi_si_n, gl_si, gl_sA, gl_sB, gl_sl_s, gl_sl_n, gA_si, gA_sl, gA_sB, gA_sA_s, gA_sA_n, gB_si, gB_sl, gB_sA, gB_sB_s, gB_sB_n, Nat.reduceBEq, if_true, if_false, eq_self, Bool.false_eq_true, reduceCtorEq, not_true_eq_false, not_false_eq_true, decide_true, decide_false, cond_true, cond_false, Bool.true_and, Bool.false_and, Bool.and_true, Bool.and_false, Bool.true_or, Bool.false_or, Bool.or_true, Bool.or_false, b2i_tt, b2i_ff]; rfl) | (simp [bendCount, c_8, gi_sl, gi_sA, gi_sB, gi_si_s, gi_si_n, gl_si, gl_sA, gl_sB, gl_sl_s, gl_sl_n, gA_si, gA_sl, gA_sB, gA_sA_s, gA_sA_n, gB_si, gB_sl, gB_sA, gB_sB_s, gB_sB_n, Nat.reduceBEq]; done))), xw_eq rfl rfl rfl rfl rfl rfl rfl⟩, ⟨by rw [ht]; exact hP, va_K.moved hW.alike hK, hD⟩⟩, hS.F ht⟩) hS.2.2 dX3_bendCount_28
  · have c_8 : (draws wa k1) = true := b2i_1 c_8
    refine lv_aload_n hx hb dX3_bendCount_11 rfl (lv_at hl 0 rfl) ?_
    refine lv_iload_n hx hb dX3_bendCount_12 rfl (lv_at hl 1 rfl) ?_
    refine kI (rV (q0 := 6) (ci := 3) hx hb hml hown hg hN hK hP hD (c_bottom l D cI cJ ad co fl ra li re wa pi k1) mw_244 mw_245 mw_246 mw_247 mw_234 pdv_X3_bottom ⟨Nat.le_of_ble_eq_true rfl, Nat.le_of_ble_eq_true rfl⟩ rfl rfl rfl hl.1 rfl (Nat.le_of_ble_eq_true rfl) dX3_bendCount_13 ⟨Nat.le_of_ble_eq_true rfl, Nat.le_of_ble_eq_true rfl⟩) hD hS hA (fun r_2 u_2 H locs hp hP hD hS => ?_)
    obtain ⟨er, eu⟩ := hp
    obtain rfl := er.symm
    obtain rfl := eu.symm
    refine lv_aload_n hx hb dX3_bendCount_16 rfl (lv_at hl 0 rfl) ?_
    refine lv_iload_n hx hb dX3_bendCount_17 rfl (lv_at hl 1 rfl) ?_
    refine kI (rV (q0 := 6) (ci := 3) hx hb hml hown hg hN hK hP hD (c_top l D cI cJ ad co fl ra li re wa pi k1) mw_230 mw_231 mw_232 mw_233 mw_234 pdv_X3_top ⟨Nat.le_of_ble_eq_true rfl, Nat.le_of_ble_eq_true rfl⟩ rfl rfl rfl hl.1 rfl (Nat.le_of_ble_eq_true rfl) dX3_bendCount_18 ⟨Nat.le_of_ble_eq_true rfl, Nat.le_of_ble_eq_true rfl⟩) hD hS hA (fun r_3 u_3 H locs hp hP hD hS => ?_)
    obtain ⟨er, eu⟩ := hp
    obtain rfl := er.symm
    obtain rfl := eu.symm
    refine lv_isub hx hb dX3_bendCount_21 ?_
    refine lv_iconst (v := 1) hx hb dX3_bendCount_22 (by decide) ?_
    refine lv_isub hx hb dX3_bendCount_23 ?_
    refine lv_goto (tgt := 28) hx hb dX3_bendCount_24 (by decide) ?_
    exact W.iret (v := (((botE wa pi k1) - (topE wa pi k1)) - 1)) hx hb hr (fun t ht hW => ⟨⟨(((botE wa pi k1) - (topE wa pi k1)) - 1), (XW ad cI cJ co fl ra li re wa pi), rfl, ⟨(show ((((botE wa pi k1) - (topE wa pi k1)) - 1) : Int32) = (bendCount wa pi k1) from (by first | (simp only [bendCount, if_pos c_8, c_8, gi_sl, gi_sA, gi_sB, gi_si_s, gi_si_n, gl_si, gl_sA, gl_sB, gl_sl_s, gl_sl_n, gA_si, gA_sl, gA_sB, gA_sA_s, gA_sA_n, gB_si, gB_sl, gB_sA, gB_sB_s, gB_sB_n, Nat.reduceBEq, if_true, if_false, eq_self, Bool.false_eq_true, reduceCtorEq, not_true_eq_false, not_false_eq_true, decide_true, decide_false, cond_true, cond_false, Bool.true_and, Bool.false_and, Bool.and_true, Bool.and_false, Bool.true_or, Bool.false_or, Bool.or_true, Bool.or_false, b2i_tt, b2i_ff]; done) | (simp only [bendCount, if_pos c_8, c_8, gi_sl, gi_sA, gi_sB, gi_si_s, gi_si_n, gl_si, gl_sA, gl_sB, gl_sl_s, gl_sl_n, gA_si, gA_sl, gA_sB, gA_sA_s, gA_sA_n, gB_si, gB_sl, gB_sA, gB_sB_s, gB_sB_n, Nat.reduceBEq, if_true, if_false, eq_self, Bool.false_eq_true, reduceCtorEq, not_true_eq_false, not_false_eq_true, decide_true, decide_false, cond_true, cond_false, Bool.true_and, Bool.false_and, Bool.and_true, Bool.and_false, Bool.true_or, Bool.false_or, Bool.or_true, Bool.or_false, b2i_tt, b2i_ff]; rfl) | (simp [bendCount, c_8, gi_sl, gi_sA, gi_sB, gi_si_s, gi_si_n, gl_si, gl_sA, gl_sB, gl_sl_s, gl_sl_n, gA_si, gA_sl, gA_sB, gA_sA_s, gA_sA_n, gB_si, gB_sl, gB_sA, gB_sB_s, gB_sB_n, Nat.reduceBEq]; done))), xw_eq rfl rfl rfl rfl rfl rfl rfl⟩, ⟨by rw [ht]; exact hP, va_K.moved hW.alike hK, hD⟩⟩, hS.F ht⟩) hS.2.2 dX3_bendCount_28
set_option maxHeartbeats 4000000 in
set_option maxRecDepth 100000 in
theorem c_numberBends (l : Launch) (D : va_G) (cI cJ : ClassId) (ad : Nat → Nat) (co fl ra li re wa pi : Ob) : CT l D (TY cI cJ) yX3_numberBends (.code yX3_numberBends cX3_numberBends 5 (none : Option FieldType)) 3 0 0 (XW ad cI cJ co fl ra li re wa pi) [.ref (ad 6)] (QV D (TY cI cJ) (fun u => u = (XW ad cI cJ co fl ra li re wa (numberBends wa pi)))) := by
  refine ent (by decide) (Nat.le_of_ble_eq_true rfl) ?_
  intro p e s m below meth c ls A hx hb hr hg hown hml hlocks hnm hP hK hD hS hA hN hl
  have hl : lv_has ls 5 [(0, .ref (ad 6))] := hl
  refine lv_bipush (v := 40) hx hb dX3_numberBends_0 (by decide) ?_
  refine lv_istore_n (lv' := [(1, .int 40), (0, .ref (ad 6))]) hx hb dX3_numberBends_2 rfl hl (by decide) rfl (fun ls hl => ?_)
  refine lv_iconst (v := 0) hx hb dX3_numberBends_3 (by decide) ?_
  refine lv_istore_n (lv' := [(2, .int 0), (1, .int 40), (0, .ref (ad 6))]) hx hb dX3_numberBends_4 rfl hl (by decide) rfl (fun ls hl => ?_)
  refine w_loop (σ := Ob × Int32) (fun (i_1 : Nat) (p_1 : Ob × Int32) (H : Heap) (locs : List Loc) (ls : Array Slot) => p_1 = (lp (nbStep wa) i_1 (pi, 40)) ∧ va_P D vwCl (XW ad cI cJ co fl ra li re wa p_1.1) H ∧ va_D A (XW ad cI cJ co fl ra li re wa p_1.1) ∧ va_S A s.heap H locs ∧ lv_has ls 5 [(0, .ref (ad 6)), (1, .int p_1.2), (2, .int (nI i_1))]) (nN (gi pi 0)) (fun p_1 H locs ls hI => ?_) (fun i_1 p_1 H locs ls hi_1 hI ih_1 => ?_) 0 (pi, 40) (Nat.zero_le _) ⟨rfl, hP, hD, hS, (by rw [nI_0]; exact lv_sub hl [2, 1, 0] rfl)⟩
  · obtain ⟨h_1, hP, hD, hS, hl⟩ := hI
    have h_1 := h_1.symm
    subst h_1
    have hP : va_P D vwCl (XW ad cI cJ co fl ra li re wa ((lp (nbStep wa) (nN (gi pi 0)) (pi, 40)).1)) H := hP
    have hD : va_D A (XW ad cI cJ co fl ra li re wa ((lp (nbStep wa) (nN (gi pi 0)) (pi, 40)).1)) := hD
    have hl : lv_has ls 5 [(0, .ref (ad 6)), (1, .int ((lp (nbStep wa) (nN (gi pi 0)) (pi, 40)).2)), (2, .int (nI ((nN (gi pi 0)))))] := hl
    refine lv_iload_n hx hb dX3_numberBends_5 rfl (lv_at hl 2 rfl) ?_
    refine lv_aload_n hx hb dX3_numberBends_6 rfl (lv_at hl 0 rfl) ?_
    refine va_get (D := D) (ci := 3) (v := .int (gi ((lp (nbStep wa) (nN (gi pi 0)) (pi, 40)).1) 0)) (C := RX3) (T := TX3) (N := 16) hx hb hg inGX3 hown hK hP 6 rfl rfl 12 (by decide) (hg _ mw_228) (fun _ h9 => h9) rfl dX3_numberBends_7 ?_
    refine lv_icmp_ge (tgt := 61) hx hb dX3_numberBends_10 (by decide) (fun _ => ?_) (fun c_10 => absurd (by rw [k_nbL]; exact lp_out _) c_10)
    exact W.vret hx hb hr (fun t ht hW => ⟨⟨(XW ad cI cJ co fl ra li re wa ((lp (nbStep wa) (nN (gi pi 0)) (pi, 40)).1)), rfl, xw_eq rfl rfl rfl rfl rfl rfl (show ((lp (nbStep wa) (nN (gi pi 0)) (pi, 40)).1) = (numberBends wa pi) from (by first | with_reducible rfl | (simp only [numberBends, gi_sl, gi_sA, gi_sB, gi_si_s, gi_si_n, gl_si, gl_sA, gl_sB, gl_sl_s, gl_sl_n, gA_si, gA_sl, gA_sB, gA_sA_s, gA_sA_n, gB_si, gB_sl, gB_sA, gB_sB_s, gB_sB_n, Nat.reduceBEq, if_true, if_false, eq_self, Bool.false_eq_true, reduceCtorEq, not_true_eq_false, not_false_eq_true, decide_true, decide_false, cond_true, cond_false, Bool.true_and, Bool.false_and, Bool.and_true, Bool.and_false, Bool.true_or, Bool.false_or, Bool.or_true, Bool.or_false, b2i_tt, b2i_ff]; done) | rfl)), ⟨by rw [ht]; exact hP, va_K.moved hW.alike hK, hD⟩⟩, hS.F ht⟩) hS.2.2 dX3_numberBends_61
  · obtain ⟨h_1, hP, hD, hS, hl⟩ := hI
    have hP : va_P D vwCl (XW ad cI cJ co fl ra li re wa p_1.1) H := hP
    have hD : va_D A (XW ad cI cJ co fl ra li re wa p_1.1) := hD
    have hl : lv_has ls 5 [(0, .ref (ad 6)), (1, .int p_1.2), (2, .int (nI i_1))] := hl
    refine lv_iload_n hx hb dX3_numberBends_5 rfl (lv_at hl 2 rfl) ?_
    refine lv_aload_n hx hb dX3_numberBends_6 rfl (lv_at hl 0 rfl) ?_
    refine va_get (D := D) (ci := 3) (v := .int (gi p_1.1 0)) (C := RX3) (T := TX3) (N := 16) hx hb hg inGX3 hown hK hP 6 rfl rfl 12 (by decide) (hg _ mw_228) (fun _ h9 => h9) rfl dX3_numberBends_7 ?_
    refine lv_icmp_ge (tgt := 61) hx hb dX3_numberBends_10 (by decide) (fun c_10 => absurd c_10 (by rw [h_1, k_nbL]; exact lp_in hi_1)) (fun _ => ?_)
    refine lv_aload_n hx hb dX3_numberBends_13 rfl (lv_at hl 0 rfl) ?_
    refine va_get (D := D) (ci := 3) (v := .ref (ad 36)) (C := RX3) (T := TX3) (N := 16) hx hb hg inGX3 hown hK hP 6 rfl rfl 3 (by decide) (hg _ mw_248) (fun _ h9 => h9) rfl dX3_numberBends_14 ?_
    refine lv_iload_n hx hb dX3_numberBends_17 rfl (lv_at hl 2 rfl) ?_
    refine lv_iload_n hx hb dX3_numberBends_18 rfl (lv_at hl 1 rfl) ?_
    refine kV (rSN hx hb hml hown hg hN hK hP hD (c_put l D cI cJ (XW ad cI cJ co fl ra li re wa p_1.1) 36 (ad 36) 80 (gA p_1.1 2) (nI i_1) p_1.2 rfl (by decide)) mw_92 nw_95 mw_93 mw_77 pd_X7_put ⟨Nat.le_of_ble_eq_true rfl, Nat.le_of_ble_eq_true rfl⟩ rfl hl.1 rfl (Nat.le_of_ble_eq_true rfl) dX3_numberBends_19 ⟨Nat.le_of_ble_eq_true rfl, Nat.le_of_ble_eq_true rfl⟩) hD hS hA (fun u_2 H locs hp hP hD hS => ?_)
    obtain rfl := hp.symm
    have hP : va_P D vwCl (XW ad cI cJ co fl ra li re wa (sA p_1.1 2 (wr (gA p_1.1 2) 80 (nI i_1) p_1.2))) H := hP
    have hD : va_D A (XW ad cI cJ co fl ra li re wa (sA p_1.1 2 (wr (gA p_1.1 2) 80 (nI i_1) p_1.2))) := hD
    refine lv_aload_n hx hb dX3_numberBends_22 rfl (lv_at hl 0 rfl) ?_
    refine lv_iload_n hx hb dX3_numberBends_23 rfl (lv_at hl 2 rfl) ?_
    refine kI (rV (q0 := 6) (ci := 3) hx hb hml hown hg hN hK hP hD (c_bendCount l D cI cJ ad co fl ra li re wa (sA p_1.1 2 (wr (gA p_1.1 2) 80 (nI i_1) p_1.2)) (nI i_1)) mw_249 mw_250 mw_251 mw_252 mw_234 pdv_X3_bendCount ⟨Nat.le_of_ble_eq_true rfl, Nat.le_of_ble_eq_true rfl⟩ rfl rfl rfl hl.1 rfl (Nat.le_of_ble_eq_true rfl) dX3_numberBends_24 ⟨Nat.le_of_ble_eq_true rfl, Nat.le_of_ble_eq_true rfl⟩) hD hS hA (fun r_3 u_3 H locs hp hP hD hS => ?_)
    obtain ⟨er, eu⟩ := hp
    obtain rfl := er.symm
    obtain rfl := eu.symm
    refine lv_istore_n (lv' := [(3, .int (bendCount wa (sA p_1.1 2 (wr (gA p_1.1 2) 80 (nI i_1) p_1.2)) (nI i_1))), (0, .ref (ad 6)), (1, .int p_1.2), (2, .int (nI i_1))]) hx hb dX3_numberBends_27 rfl hl (by decide) rfl (fun ls hl => ?_)
    refine lv_iconst (v := 0) hx hb dX3_numberBends_28 (by decide) ?_
    refine lv_istore (lv' := [(4, .int 0), (3, .int (bendCount wa (sA p_1.1 2 (wr (gA p_1.1 2) 80 (nI i_1) p_1.2)) (nI i_1))), (0, .ref (ad 6)), (1, .int p_1.2), (2, .int (nI i_1))]) hx hb dX3_numberBends_29 hl (by decide) rfl (fun ls hl => ?_)
    refine w_loop (σ := Ob × Int32) (fun (i_4 : Nat) (p_4 : Ob × Int32) (H : Heap) (locs : List Loc) (ls : Array Slot) => p_4 = (lp (nbIn i_1) i_4 ((sA p_1.1 2 (wr (gA p_1.1 2) 80 (nI i_1) p_1.2)), p_1.2)) ∧ va_P D vwCl (XW ad cI cJ co fl ra li re wa p_4.1) H ∧ va_D A (XW ad cI cJ co fl ra li re wa p_4.1) ∧ va_S A s.heap H locs ∧ lv_has ls 5 [(0, .ref (ad 6)), (1, .int p_4.2), (2, .int (nI i_1)), (3, .int (bendCount wa (sA p_1.1 2 (wr (gA p_1.1 2) 80 (nI i_1) p_1.2)) (nI i_1))), (4, .int (nI i_4))]) (nN (bendCount wa (sA p_1.1 2 (wr (gA p_1.1 2) 80 (nI i_1) p_1.2)) (nI i_1))) (fun p_4 H locs ls hI => ?_) (fun i_4 p_4 H locs ls hi_4 hI ih_4 => ?_) 0 ((sA p_1.1 2 (wr (gA p_1.1 2) 80 (nI i_1) p_1.2)), p_1.2) (Nat.zero_le _) ⟨rfl, hP, hD, hS, (by rw [nI_0]; exact lv_sub hl [2, 3, 4, 1, 0] rfl)⟩
    · obtain ⟨h_4, hP, hD, hS, hl⟩ := hI
      have h_4 := h_4.symm
      subst h_4
      have hP : va_P D vwCl (XW ad cI cJ co fl ra li re wa ((lp (nbIn i_1) (nN (bendCount wa (sA p_1.1 2 (wr (gA p_1.1 2) 80 (nI i_1) p_1.2)) (nI i_1))) ((sA p_1.1 2 (wr (gA p_1.1 2) 80 (nI i_1) p_1.2)), p_1.2)).1)) H := hP
      have hD : va_D A (XW ad cI cJ co fl ra li re wa ((lp (nbIn i_1) (nN (bendCount wa (sA p_1.1 2 (wr (gA p_1.1 2) 80 (nI i_1) p_1.2)) (nI i_1))) ((sA p_1.1 2 (wr (gA p_1.1 2) 80 (nI i_1) p_1.2)), p_1.2)).1)) := hD
      have hl : lv_has ls 5 [(0, .ref (ad 6)), (1, .int ((lp (nbIn i_1) (nN (bendCount wa (sA p_1.1 2 (wr (gA p_1.1 2) 80 (nI i_1) p_1.2)) (nI i_1))) ((sA p_1.1 2 (wr (gA p_1.1 2) 80 (nI i_1) p_1.2)), p_1.2)).2)), (2, .int (nI i_1)), (3, .int (bendCount wa (sA p_1.1 2 (wr (gA p_1.1 2) 80 (nI i_1) p_1.2)) (nI i_1))), (4, .int (nI ((nN (bendCount wa (sA p_1.1 2 (wr (gA p_1.1 2) 80 (nI i_1) p_1.2)) (nI i_1))))))] := hl
      refine lv_iload hx hb dX3_numberBends_31 (lv_at hl 4 rfl) ?_
      refine lv_iload_n hx hb dX3_numberBends_33 rfl (lv_at hl 3 rfl) ?_
      refine lv_icmp_ge (tgt := 55) hx hb dX3_numberBends_34 (by decide) (fun _ => ?_) (fun c_34 => absurd (lp_out _) c_34)
      refine lv_iinc (v := (nI (i_1 + 1))) (lv' := [(2, .int (nI (i_1 + 1))), (0, .ref (ad 6)), (1, .int ((lp (nbIn i_1) (nN (bendCount wa (sA p_1.1 2 (wr (gA p_1.1 2) 80 (nI i_1) p_1.2)) (nI i_1))) ((sA p_1.1 2 (wr (gA p_1.1 2) 80 (nI i_1) p_1.2)), p_1.2)).2)), (3, .int (bendCount wa (sA p_1.1 2 (wr (gA p_1.1 2) 80 (nI i_1) p_1.2)) (nI i_1))), (4, .int (nI ((nN (bendCount wa (sA p_1.1 2 (wr (gA p_1.1 2) 80 (nI i_1) p_1.2)) (nI i_1))))))]) hx hb dX3_numberBends_55 hl (k := 2) rfl (nI_1 i_1) (by decide) rfl (fun ls hl => ?_)
      refine lv_goto (tgt := 5) hx hb dX3_numberBends_58 (by decide) ?_
      exact ih_1 (((lp (nbIn i_1) (nN (bendCount wa (sA p_1.1 2 (wr (gA p_1.1 2) 80 (nI i_1) p_1.2)) (nI i_1))) ((sA p_1.1 2 (wr (gA p_1.1 2) 80 (nI i_1) p_1.2)), p_1.2)).1), ((lp (nbIn i_1) (nN (bendCount wa (sA p_1.1 2 (wr (gA p_1.1 2) 80 (nI i_1) p_1.2)) (nI i_1))) ((sA p_1.1 2 (wr (gA p_1.1 2) 80 (nI i_1) p_1.2)), p_1.2)).2)) H locs ls ⟨((show (((lp (nbIn i_1) (nN (bendCount wa (sA p_1.1 2 (wr (gA p_1.1 2) 80 (nI i_1) p_1.2)) (nI i_1))) ((sA p_1.1 2 (wr (gA p_1.1 2) 80 (nI i_1) p_1.2)), p_1.2)).1), ((lp (nbIn i_1) (nN (bendCount wa (sA p_1.1 2 (wr (gA p_1.1 2) 80 (nI i_1) p_1.2)) (nI i_1))) ((sA p_1.1 2 (wr (gA p_1.1 2) 80 (nI i_1) p_1.2)), p_1.2)).2)) = (nbStep wa) i_1 p_1 from (by first | with_reducible rfl | (simp only [nbStep, nbPut, gi_sl, gi_sA, gi_sB, gi_si_s, gi_si_n, gl_si, gl_sA, gl_sB, gl_sl_s, gl_sl_n, gA_si, gA_sl, gA_sB, gA_sA_s, gA_sA_n, gB_si, gB_sl, gB_sA, gB_sB_s, gB_sB_n, Nat.reduceBEq, if_true, if_false, eq_self, Bool.false_eq_true, reduceCtorEq, not_true_eq_false, not_false_eq_true, decide_true, decide_false, cond_true, cond_false, Bool.true_and, Bool.false_and, Bool.and_true, Bool.and_false, Bool.true_or, Bool.false_or, Bool.or_true, Bool.or_false, b2i_tt, b2i_ff]; done) | rfl)).trans (lp_go h_1)), hP, hD, hS, lv_sub hl [1, 2, 0] rfl⟩
    · obtain ⟨h_4, hP, hD, hS, hl⟩ := hI
      have hP : va_P D vwCl (XW ad cI cJ co fl ra li re wa p_4.1) H := hP
      have hD : va_D A (XW ad cI cJ co fl ra li re wa p_4.1) := hD
      have hl : lv_has ls 5 [(0, .ref (ad 6)), (1, .int p_4.2), (2, .int (nI i_1)), (3, .int (bendCount wa (sA p_1.1 2 (wr (gA p_1.1 2) 80 (nI i_1) p_1.2)) (nI i_1))), (4, .int (nI i_4))] := hl
      refine lv_iload hx hb dX3_numberBends_31 (lv_at hl 4 rfl) ?_
      refine lv_iload_n hx hb dX3_numberBends_33 rfl (lv_at hl 3 rfl) ?_
      refine lv_icmp_ge (tgt := 55) hx hb dX3_numberBends_34 (by decide) (fun c_34 => absurd c_34 (lp_in hi_4)) (fun _ => ?_)
      refine lv_aload_n hx hb dX3_numberBends_37 rfl (lv_at hl 0 rfl) ?_
      refine va_get (D := D) (ci := 3) (v := .ref (ad 37)) (C := RX3) (T := TX3) (N := 16) hx hb hg inGX3 hown hK hP 6 rfl rfl 4 (by decide) (hg _ mw_253) (fun _ h9 => h9) rfl dX3_numberBends_38 ?_
      refine lv_iload_n hx hb dX3_numberBends_41 rfl (lv_at hl 1 rfl) ?_
      refine lv_iload_n hx hb dX3_numberBends_42 rfl (lv_at hl 2 rfl) ?_
      refine kV (rSN hx hb hml hown hg hN hK hP hD (c_put l D cI cJ (XW ad cI cJ co fl ra li re wa p_4.1) 37 (ad 37) 1600 (gA p_4.1 3) p_4.2 (nI i_1) rfl (by decide)) mw_92 nw_95 mw_93 mw_77 pd_X7_put ⟨Nat.le_of_ble_eq_true rfl, Nat.le_of_ble_eq_true rfl⟩ rfl hl.1 rfl (Nat.le_of_ble_eq_true rfl) dX3_numberBends_43 ⟨Nat.le_of_ble_eq_true rfl, Nat.le_of_ble_eq_true rfl⟩) hD hS hA (fun u_5 H locs hp hP hD hS => ?_)
      obtain rfl := hp.symm
      have hP : va_P D vwCl (XW ad cI cJ co fl ra li re wa (sA p_4.1 3 (wr (gA p_4.1 3) 1600 p_4.2 (nI i_1)))) H := hP
      have hD : va_D A (XW ad cI cJ co fl ra li re wa (sA p_4.1 3 (wr (gA p_4.1 3) 1600 p_4.2 (nI i_1)))) := hD
      refine lv_iinc (v := (p_4.2 + 1)) (lv' := [(1, .int (p_4.2 + 1)), (0, .ref (ad 6)), (2, .int (nI i_1)), (3, .int (bendCount wa (sA p_1.1 2 (wr (gA p_1.1 2) 80 (nI i_1) p_1.2)) (nI i_1))), (4, .int (nI i_4))]) hx hb dX3_numberBends_46 hl (k := 1) rfl rfl (by decide) rfl (fun ls hl => ?_)
      refine lv_iinc (v := (nI (i_4 + 1))) (lv' := [(4, .int (nI (i_4 + 1))), (1, .int (p_4.2 + 1)), (0, .ref (ad 6)), (2, .int (nI i_1)), (3, .int (bendCount wa (sA p_1.1 2 (wr (gA p_1.1 2) 80 (nI i_1) p_1.2)) (nI i_1)))]) hx hb dX3_numberBends_49 hl (k := 4) rfl (nI_1 i_4) (by decide) rfl (fun ls hl => ?_)
      refine lv_goto (tgt := 31) hx hb dX3_numberBends_52 (by decide) ?_
      exact ih_4 ((sA p_4.1 3 (wr (gA p_4.1 3) 1600 p_4.2 (nI i_1))), (p_4.2 + 1)) H locs ls ⟨((show ((sA p_4.1 3 (wr (gA p_4.1 3) 1600 p_4.2 (nI i_1))), (p_4.2 + 1)) = (nbIn i_1) i_4 p_4 from (by first | with_reducible rfl | (simp only [nbIn, gi_sl, gi_sA, gi_sB, gi_si_s, gi_si_n, gl_si, gl_sA, gl_sB, gl_sl_s, gl_sl_n, gA_si, gA_sl, gA_sB, gA_sA_s, gA_sA_n, gB_si, gB_sl, gB_sA, gB_sB_s, gB_sB_n, Nat.reduceBEq, if_true, if_false, eq_self, Bool.false_eq_true, reduceCtorEq, not_true_eq_false, not_false_eq_true, decide_true, decide_false, cond_true, cond_false, Bool.true_and, Bool.false_and, Bool.and_true, Bool.and_false, Bool.true_or, Bool.false_or, Bool.or_true, Bool.or_false, b2i_tt, b2i_ff]; done) | rfl)).trans (lp_go h_4)), hP, hD, hS, lv_sub hl [2, 1, 3, 4, 0] rfl⟩
set_option maxHeartbeats 4000000 in
set_option maxRecDepth 100000 in
theorem c_putPoint (l : Launch) (D : va_G) (cI cJ : ClassId) (ad : Nat → Nat) (co fl ra li re wa pi : Ob) (k1 : Int32) (k2 : Int32) (k3 : Int32) : CT l D (TY cI cJ) yX3_putPoint (.code yX3_putPoint cX3_putPoint 4 (none : Option FieldType)) 1 0 0 (XW ad cI cJ co fl ra li re wa pi) [.ref (ad 6), .int k1, .int k2, .int k3] (QV D (TY cI cJ) (fun u => u = (XW ad cI cJ co fl ra li re wa (putPoint pi k1 k2 k3)))) := by
  refine ent (by decide) (Nat.le_of_ble_eq_true rfl) ?_
  intro p e s m below meth c ls A hx hb hr hg hown hml hlocks hnm hP hK hD hS hA hN hl
  have hl : lv_has ls 4 [(0, .ref (ad 6)), (1, .int k1), (2, .int k2), (3, .int k3)] := hl
  refine lv_aload_n hx hb dX3_putPoint_0 rfl (lv_at hl 0 rfl) ?_
  refine va_get (D := D) (ci := 3) (v := .ref (ad 38)) (C := RX3) (T := TX3) (N := 16) hx hb hg inGX3 hown hK hP 6 rfl rfl 5 (by decide) (hg _ mw_254) (fun _ h9 => h9) rfl dX3_putPoint_1 ?_
  refine lv_iload_n hx hb dX3_putPoint_4 rfl (lv_at hl 2 rfl) ?_
  refine lv_iload_n hx hb dX3_putPoint_5 rfl (lv_at hl 3 rfl) ?_
  refine kV (rSN hx hb hml hown hg hN hK hP hD (c_put l D cI cJ (XW ad cI cJ co fl ra li re wa pi) 38 (ad 38) 1600 (gA pi 4) k2 k3 rfl (by decide)) mw_92 nw_95 mw_93 mw_77 pd_X7_put ⟨Nat.le_of_ble_eq_true rfl, Nat.le_of_ble_eq_true rfl⟩ rfl hl.1 rfl (Nat.le_of_ble_eq_true rfl) dX3_putPoint_6 ⟨Nat.le_of_ble_eq_true rfl, Nat.le_of_ble_eq_true rfl⟩) hD hS hA (fun u_1 H locs hp hP hD hS => ?_)
  obtain rfl := hp.symm
  have hP : va_P D vwCl (XW ad cI cJ co fl ra li re wa (sA pi 4 (wr (gA pi 4) 1600 k2 k3))) H := hP
  have hD : va_D A (XW ad cI cJ co fl ra li re wa (sA pi 4 (wr (gA pi 4) 1600 k2 k3))) := hD
  refine lv_aload_n hx hb dX3_putPoint_9 rfl (lv_at hl 0 rfl) ?_
  refine va_get (D := D) (ci := 3) (v := .ref (ad 39)) (C := RX3) (T := TX3) (N := 16) hx hb hg inGX3 hown hK hP 6 rfl rfl 6 (by decide) (hg _ mw_255) (fun _ h9 => h9) rfl dX3_putPoint_10 ?_
  refine lv_iload_n hx hb dX3_putPoint_13 rfl (lv_at hl 3 rfl) ?_
  refine lv_iload_n hx hb dX3_putPoint_14 rfl (lv_at hl 2 rfl) ?_
  refine lv_aload_n hx hb dX3_putPoint_15 rfl (lv_at hl 0 rfl) ?_
  refine va_get (D := D) (ci := 3) (v := .ref (ad 35)) (C := RX3) (T := TX3) (N := 16) hx hb hg inGX3 hown hK hP 6 rfl rfl 2 (by decide) (hg _ mw_256) (fun _ h9 => h9) rfl dX3_putPoint_16 ?_
  refine lv_iload_n hx hb dX3_putPoint_19 rfl (lv_at hl 1 rfl) ?_
  refine kI (rSN hx hb hml hown hg hN hK hP hD (c_at l D cI cJ (XW ad cI cJ co fl ra li re wa (sA pi 4 (wr (gA pi 4) 1600 k2 k3))) 35 (ad 35) 41 (gA pi 1) k1 rfl (by decide)) mw_84 nw_96 mw_85 mw_77 pd_X7_at ⟨Nat.le_of_ble_eq_true rfl, Nat.le_of_ble_eq_true rfl⟩ rfl hl.1 rfl (Nat.le_of_ble_eq_true rfl) dX3_putPoint_20 ⟨Nat.le_of_ble_eq_true rfl, Nat.le_of_ble_eq_true rfl⟩) hD hS hA (fun r_2 u_2 H locs hp hP hD hS => ?_)
  obtain ⟨er, eu⟩ := hp
  obtain rfl := er.symm
  obtain rfl := eu.symm
  refine lv_isub hx hb dX3_putPoint_23 ?_
  refine kV (rSN hx hb hml hown hg hN hK hP hD (c_put l D cI cJ (XW ad cI cJ co fl ra li re wa (sA pi 4 (wr (gA pi 4) 1600 k2 k3))) 39 (ad 39) 1600 (gA pi 5) k3 (k2 - (rd (gA pi 1) 41 k1)) rfl (by decide)) mw_92 nw_95 mw_93 mw_77 pd_X7_put ⟨Nat.le_of_ble_eq_true rfl, Nat.le_of_ble_eq_true rfl⟩ rfl hl.1 rfl (Nat.le_of_ble_eq_true rfl) dX3_putPoint_24 ⟨Nat.le_of_ble_eq_true rfl, Nat.le_of_ble_eq_true rfl⟩) hD hS hA (fun u_3 H locs hp hP hD hS => ?_)
  obtain rfl := hp.symm
  have hP : va_P D vwCl (XW ad cI cJ co fl ra li re wa (sA (sA pi 4 (wr (gA pi 4) 1600 k2 k3)) 5 (wr (gA pi 5) 1600 k3 (k2 - (rd (gA pi 1) 41 k1))))) H := hP
  have hD : va_D A (XW ad cI cJ co fl ra li re wa (sA (sA pi 4 (wr (gA pi 4) 1600 k2 k3)) 5 (wr (gA pi 5) 1600 k3 (k2 - (rd (gA pi 1) 41 k1))))) := hD
  exact W.vret hx hb hr (fun t ht hW => ⟨⟨(XW ad cI cJ co fl ra li re wa (sA (sA pi 4 (wr (gA pi 4) 1600 k2 k3)) 5 (wr (gA pi 5) 1600 k3 (k2 - (rd (gA pi 1) 41 k1))))), rfl, xw_eq rfl rfl rfl rfl rfl rfl (show (sA (sA pi 4 (wr (gA pi 4) 1600 k2 k3)) 5 (wr (gA pi 5) 1600 k3 (k2 - (rd (gA pi 1) 41 k1)))) = (putPoint pi k1 k2 k3) from (by first | with_reducible rfl | (simp only [putPoint, gi_sl, gi_sA, gi_sB, gi_si_s, gi_si_n, gl_si, gl_sA, gl_sB, gl_sl_s, gl_sl_n, gA_si, gA_sl, gA_sB, gA_sA_s, gA_sA_n, gB_si, gB_sl, gB_sA, gB_sB_s, gB_sB_n, Nat.reduceBEq, if_true, if_false, eq_self, Bool.false_eq_true, reduceCtorEq, not_true_eq_false, not_false_eq_true, decide_true, decide_false, cond_true, cond_false, Bool.true_and, Bool.false_and, Bool.and_true, Bool.and_false, Bool.true_or, Bool.false_or, Bool.or_true, Bool.or_false, b2i_tt, b2i_ff]; done) | rfl)), ⟨by rw [ht]; exact hP, va_K.moved hW.alike hK, hD⟩⟩, hS.F ht⟩) hS.2.2 dX3_putPoint_27
set_option maxHeartbeats 4000000 in
set_option maxRecDepth 100000 in
theorem c_pointOn (l : Launch) (D : va_G) (cI cJ : ClassId) (ad : Nat → Nat) (co fl ra li re wa pi : Ob) (k1 : Int32) (k2 : Int32) : CT l D (TY cI cJ) yX3_pointOn (.code yX3_pointOn cX3_pointOn 3 (some Jvm.ClassFile.FieldType.int)) 2 0 0 (XW ad cI cJ co fl ra li re wa pi) [.ref (ad 6), .int k1, .int k2] (QI D (TY cI cJ) (fun r u => r = (pointOn wa pi k1 k2) ∧ u = (XW ad cI cJ co fl ra li re wa pi))) := by
  refine ent (by decide) (Nat.le_of_ble_eq_true rfl) ?_
  intro p e s m below meth c ls A hx hb hr hg hown hml hlocks hnm hP hK hD hS hA hN hl
  have hl : lv_has ls 3 [(0, .ref (ad 6)), (1, .int k1), (2, .int k2)] := hl
  refine lv_iload_n hx hb dX3_pointOn_0 rfl (lv_at hl 2 rfl) ?_
  refine lv_aload_n hx hb dX3_pointOn_1 rfl (lv_at hl 0 rfl) ?_
  refine lv_iload_n hx hb dX3_pointOn_2 rfl (lv_at hl 1 rfl) ?_
  refine kI (rV (q0 := 6) (ci := 3) hx hb hml hown hg hN hK hP hD (c_top l D cI cJ ad co fl ra li re wa pi k1) mw_230 mw_231 mw_232 mw_233 mw_234 pdv_X3_top ⟨Nat.le_of_ble_eq_true rfl, Nat.le_of_ble_eq_true rfl⟩ rfl rfl rfl hl.1 rfl (Nat.le_of_ble_eq_true rfl) dX3_pointOn_3 ⟨Nat.le_of_ble_eq_true rfl, Nat.le_of_ble_eq_true rfl⟩) hD hS hA (fun r_1 u_1 H locs hp hP hD hS => ?_)
  obtain ⟨er, eu⟩ := hp
  obtain rfl := er.symm
  obtain rfl := eu.symm
  refine lv_icmp_ne (tgt := 21) hx hb dX3_pointOn_6 (by decide) (fun c_6 => ?_) (fun c_6 => ?_)
  · refine lv_iload_n hx hb dX3_pointOn_21 rfl (lv_at hl 2 rfl) ?_
    refine lv_aload_n hx hb dX3_pointOn_22 rfl (lv_at hl 0 rfl) ?_
    refine lv_iload_n hx hb dX3_pointOn_23 rfl (lv_at hl 1 rfl) ?_
    refine kI (rV (q0 := 6) (ci := 3) hx hb hml hown hg hN hK hP hD (c_bottom l D cI cJ ad co fl ra li re wa pi k1) mw_244 mw_245 mw_246 mw_247 mw_234 pdv_X3_bottom ⟨Nat.le_of_ble_eq_true rfl, Nat.le_of_ble_eq_true rfl⟩ rfl rfl rfl hl.1 rfl (Nat.le_of_ble_eq_true rfl) dX3_pointOn_24 ⟨Nat.le_of_ble_eq_true rfl, Nat.le_of_ble_eq_true rfl⟩) hD hS hA (fun r_2 u_2 H locs hp hP hD hS => ?_)
    obtain ⟨er, eu⟩ := hp
    obtain rfl := er.symm
    obtain rfl := eu.symm
    refine lv_icmp_ne (tgt := 42) hx hb dX3_pointOn_27 (by decide) (fun c_27 => ?_) (fun c_27 => ?_)
    · refine lv_aload_n hx hb dX3_pointOn_42 rfl (lv_at hl 0 rfl) ?_
      refine va_get (D := D) (ci := 3) (v := .ref (ad 36)) (C := RX3) (T := TX3) (N := 16) hx hb hg inGX3 hown hK hP 6 rfl rfl 3 (by decide) (hg _ mw_248) (fun _ h9 => h9) rfl dX3_pointOn_43 ?_
      refine lv_iload_n hx hb dX3_pointOn_46 rfl (lv_at hl 1 rfl) ?_
      refine kI (rSN hx hb hml hown hg hN hK hP hD (c_at l D cI cJ (XW ad cI cJ co fl ra li re wa pi) 36 (ad 36) 80 (gA pi 2) k1 rfl (by decide)) mw_84 nw_96 mw_85 mw_77 pd_X7_at ⟨Nat.le_of_ble_eq_true rfl, Nat.le_of_ble_eq_true rfl⟩ rfl hl.1 rfl (Nat.le_of_ble_eq_true rfl) dX3_pointOn_47 ⟨Nat.le_of_ble_eq_true rfl, Nat.le_of_ble_eq_true rfl⟩) hD hS hA (fun r_3 u_3 H locs hp hP hD hS => ?_)
      obtain ⟨er, eu⟩ := hp
      obtain rfl := er.symm
      obtain rfl := eu.symm
      refine lv_iload_n hx hb dX3_pointOn_50 rfl (lv_at hl 2 rfl) ?_
      refine lv_iadd hx hb dX3_pointOn_51 ?_
      refine lv_aload_n hx hb dX3_pointOn_52 rfl (lv_at hl 0 rfl) ?_
      refine lv_iload_n hx hb dX3_pointOn_53 rfl (lv_at hl 1 rfl) ?_
      refine kI (rV (q0 := 6) (ci := 3) hx hb hml hown hg hN hK hP hD (c_top l D cI cJ ad co fl ra li re wa pi k1) mw_230 mw_231 mw_232 mw_233 mw_234 pdv_X3_top ⟨Nat.le_of_ble_eq_true rfl, Nat.le_of_ble_eq_true rfl⟩ rfl rfl rfl hl.1 rfl (Nat.le_of_ble_eq_true rfl) dX3_pointOn_54 ⟨Nat.le_of_ble_eq_true rfl, Nat.le_of_ble_eq_true rfl⟩) hD hS hA (fun r_4 u_4 H locs hp hP hD hS => ?_)
      obtain ⟨er, eu⟩ := hp
      obtain rfl := er.symm
      obtain rfl := eu.symm
      refine lv_isub hx hb dX3_pointOn_57 ?_
      refine lv_iconst (v := 1) hx hb dX3_pointOn_58 (by decide) ?_
      refine lv_isub hx hb dX3_pointOn_59 ?_
      exact W.iret (v := ((((rd (gA pi 2) 80 k1) + k2) - (topE wa pi k1)) - 1)) hx hb hr (fun t ht hW => ⟨⟨((((rd (gA pi 2) 80 k1) + k2) - (topE wa pi k1)) - 1), (XW ad cI cJ co fl ra li re wa pi), rfl, ⟨(show (((((rd (gA pi 2) 80 k1) + k2) - (topE wa pi k1)) - 1) : Int32) = (pointOn wa pi k1 k2) from (by first | (simp only [pointOn, if_neg c_6, decide_eq_false c_6, decide_eq_true c_6, if_pos c_6, if_neg c_27, decide_eq_false c_27, decide_eq_true c_27, if_pos c_27, gi_sl, gi_sA, gi_sB, gi_si_s, gi_si_n, gl_si, gl_sA, gl_sB, gl_sl_s, gl_sl_n, gA_si, gA_sl, gA_sB, gA_sA_s, gA_sA_n, gB_si, gB_sl, gB_sA, gB_sB_s, gB_sB_n, Nat.reduceBEq, if_true, if_false, eq_self, Bool.false_eq_true, reduceCtorEq, not_true_eq_false, not_false_eq_true, decide_true, decide_false, cond_true, cond_false, Bool.true_and, Bool.false_and, Bool.and_true, Bool.and_false, Bool.true_or, Bool.false_or, Bool.or_true, Bool.or_false, b2i_tt, b2i_ff]; done) | (simp only [pointOn, if_neg c_6, decide_eq_false c_6, decide_eq_true c_6, if_pos c_6, if_neg c_27, decide_eq_false c_27, decide_eq_true c_27, if_pos c_27, gi_sl, gi_sA, gi_sB, gi_si_s, gi_si_n, gl_si, gl_sA, gl_sB, gl_sl_s, gl_sl_n, gA_si, gA_sl, gA_sB, gA_sA_s, gA_sA_n, gB_si, gB_sl, gB_sA, gB_sB_s, gB_sB_n, Nat.reduceBEq, if_true, if_false, eq_self, Bool.false_eq_true, reduceCtorEq, not_true_eq_false, not_false_eq_true, decide_true, decide_false, cond_true, cond_false, Bool.true_and, Bool.false_and, Bool.and_true, Bool.and_false, Bool.true_or, Bool.false_or, Bool.or_true, Bool.or_false, b2i_tt, b2i_ff]; rfl) | (simp [pointOn, c_6, c_27, gi_sl, gi_sA, gi_sB, gi_si_s, gi_si_n, gl_si, gl_sA, gl_sB, gl_sl_s, gl_sl_n, gA_si, gA_sl, gA_sB, gA_sA_s, gA_sA_n, gB_si, gB_sl, gB_sA, gB_sB_s, gB_sB_n, Nat.reduceBEq]; done))), xw_eq rfl rfl rfl rfl rfl rfl rfl⟩, ⟨by rw [ht]; exact hP, va_K.moved hW.alike hK, hD⟩⟩, hS.F ht⟩) hS.2.2 dX3_pointOn_60
    · refine lv_aload_n hx hb dX3_pointOn_30 rfl (lv_at hl 0 rfl) ?_
      refine va_get (D := D) (ci := 3) (v := .ref (ad 7)) (C := RX3) (T := TX3) (N := 16) hx hb hg inGX3 hown hK hP 6 rfl rfl 0 (by decide) (hg _ mw_227) (fun _ h9 => h9) rfl dX3_pointOn_31 ?_
      refine va_getN (D := D) (ci := 6) (v := .ref (ad 31)) (C := RX6) (T := TX6) (N := 9) hx hb hg inGX6 hown hK hP 7 rfl rfl 2 (by decide) (hN.use nw_57) (fun _ h9 => h9) rfl dX3_pointOn_34 ?_
      refine lv_iload_n hx hb dX3_pointOn_37 rfl (lv_at hl 1 rfl) ?_
      refine kI (rSN hx hb hml hown hg hN hK hP hD (c_at l D cI cJ (XW ad cI cJ co fl ra li re wa pi) 31 (ad 31) 80 (gA wa 2) k1 rfl (by decide)) mw_84 nw_96 mw_85 mw_77 pd_X7_at ⟨Nat.le_of_ble_eq_true rfl, Nat.le_of_ble_eq_true rfl⟩ rfl hl.1 rfl (Nat.le_of_ble_eq_true rfl) dX3_pointOn_38 ⟨Nat.le_of_ble_eq_true rfl, Nat.le_of_ble_eq_true rfl⟩) hD hS hA (fun r_5 u_5 H locs hp hP hD hS => ?_)
      obtain ⟨er, eu⟩ := hp
      obtain rfl := er.symm
      obtain rfl := eu.symm
      exact W.iret (v := (rd (gA wa 2) 80 k1)) hx hb hr (fun t ht hW => ⟨⟨(rd (gA wa 2) 80 k1), (XW ad cI cJ co fl ra li re wa pi), rfl, ⟨(show ((rd (gA wa 2) 80 k1) : Int32) = (pointOn wa pi k1 k2) from (by first | (simp only [pointOn, if_neg c_6, decide_eq_false c_6, decide_eq_true c_6, if_pos c_6, if_pos c_27, decide_eq_true c_27, decide_eq_false (not_not_intro c_27), gi_sl, gi_sA, gi_sB, gi_si_s, gi_si_n, gl_si, gl_sA, gl_sB, gl_sl_s, gl_sl_n, gA_si, gA_sl, gA_sB, gA_sA_s, gA_sA_n, gB_si, gB_sl, gB_sA, gB_sB_s, gB_sB_n, Nat.reduceBEq, if_true, if_false, eq_self, Bool.false_eq_true, reduceCtorEq, not_true_eq_false, not_false_eq_true, decide_true, decide_false, cond_true, cond_false, Bool.true_and, Bool.false_and, Bool.and_true, Bool.and_false, Bool.true_or, Bool.false_or, Bool.or_true, Bool.or_false, b2i_tt, b2i_ff]; done) | (simp only [pointOn, if_neg c_6, decide_eq_false c_6, decide_eq_true c_6, if_pos c_6, if_pos c_27, decide_eq_true c_27, decide_eq_false (not_not_intro c_27), gi_sl, gi_sA, gi_sB, gi_si_s, gi_si_n, gl_si, gl_sA, gl_sB, gl_sl_s, gl_sl_n, gA_si, gA_sl, gA_sB, gA_sA_s, gA_sA_n, gB_si, gB_sl, gB_sA, gB_sB_s, gB_sB_n, Nat.reduceBEq, if_true, if_false, eq_self, Bool.false_eq_true, reduceCtorEq, not_true_eq_false, not_false_eq_true, decide_true, decide_false, cond_true, cond_false, Bool.true_and, Bool.false_and, Bool.and_true, Bool.and_false, Bool.true_or, Bool.false_or, Bool.or_true, Bool.or_false, b2i_tt, b2i_ff]; rfl) | (simp [pointOn, c_6, c_27, gi_sl, gi_sA, gi_sB, gi_si_s, gi_si_n, gl_si, gl_sA, gl_sB, gl_sl_s, gl_sl_n, gA_si, gA_sl, gA_sB, gA_sA_s, gA_sA_n, gB_si, gB_sl, gB_sA, gB_sB_s, gB_sB_n, Nat.reduceBEq]; done))), xw_eq rfl rfl rfl rfl rfl rfl rfl⟩, ⟨by rw [ht]; exact hP, va_K.moved hW.alike hK, hD⟩⟩, hS.F ht⟩) hS.2.2 dX3_pointOn_41
  · refine lv_aload_n hx hb dX3_pointOn_9 rfl (lv_at hl 0 rfl) ?_
    refine va_get (D := D) (ci := 3) (v := .ref (ad 7)) (C := RX3) (T := TX3) (N := 16) hx hb hg inGX3 hown hK hP 6 rfl rfl 0 (by decide) (hg _ mw_227) (fun _ h9 => h9) rfl dX3_pointOn_10 ?_
    refine va_getN (D := D) (ci := 6) (v := .ref (ad 30)) (C := RX6) (T := TX6) (N := 9) hx hb hg inGX6 hown hK hP 7 rfl rfl 1 (by decide) (hN.use nw_56) (fun _ h9 => h9) rfl dX3_pointOn_13 ?_
    refine lv_iload_n hx hb dX3_pointOn_16 rfl (lv_at hl 1 rfl) ?_
    refine kI (rSN hx hb hml hown hg hN hK hP hD (c_at l D cI cJ (XW ad cI cJ co fl ra li re wa pi) 30 (ad 30) 80 (gA wa 1) k1 rfl (by decide)) mw_84 nw_96 mw_85 mw_77 pd_X7_at ⟨Nat.le_of_ble_eq_true rfl, Nat.le_of_ble_eq_true rfl⟩ rfl hl.1 rfl (Nat.le_of_ble_eq_true rfl) dX3_pointOn_17 ⟨Nat.le_of_ble_eq_true rfl, Nat.le_of_ble_eq_true rfl⟩) hD hS hA (fun r_6 u_6 H locs hp hP hD hS => ?_)
    obtain ⟨er, eu⟩ := hp
    obtain rfl := er.symm
    obtain rfl := eu.symm
    exact W.iret (v := (rd (gA wa 1) 80 k1)) hx hb hr (fun t ht hW => ⟨⟨(rd (gA wa 1) 80 k1), (XW ad cI cJ co fl ra li re wa pi), rfl, ⟨(show ((rd (gA wa 1) 80 k1) : Int32) = (pointOn wa pi k1 k2) from (by first | (simp only [pointOn, if_pos c_6, decide_eq_true c_6, decide_eq_false (not_not_intro c_6), gi_sl, gi_sA, gi_sB, gi_si_s, gi_si_n, gl_si, gl_sA, gl_sB, gl_sl_s, gl_sl_n, gA_si, gA_sl, gA_sB, gA_sA_s, gA_sA_n, gB_si, gB_sl, gB_sA, gB_sB_s, gB_sB_n, Nat.reduceBEq, if_true, if_false, eq_self, Bool.false_eq_true, reduceCtorEq, not_true_eq_false, not_false_eq_true, decide_true, decide_false, cond_true, cond_false, Bool.true_and, Bool.false_and, Bool.and_true, Bool.and_false, Bool.true_or, Bool.false_or, Bool.or_true, Bool.or_false, b2i_tt, b2i_ff]; done) | (simp only [pointOn, if_pos c_6, decide_eq_true c_6, decide_eq_false (not_not_intro c_6), gi_sl, gi_sA, gi_sB, gi_si_s, gi_si_n, gl_si, gl_sA, gl_sB, gl_sl_s, gl_sl_n, gA_si, gA_sl, gA_sB, gA_sA_s, gA_sA_n, gB_si, gB_sl, gB_sA, gB_sB_s, gB_sB_n, Nat.reduceBEq, if_true, if_false, eq_self, Bool.false_eq_true, reduceCtorEq, not_true_eq_false, not_false_eq_true, decide_true, decide_false, cond_true, cond_false, Bool.true_and, Bool.false_and, Bool.and_true, Bool.and_false, Bool.true_or, Bool.false_or, Bool.or_true, Bool.or_false, b2i_tt, b2i_ff]; rfl) | (simp [pointOn, c_6, gi_sl, gi_sA, gi_sB, gi_si_s, gi_si_n, gl_si, gl_sA, gl_sB, gl_sl_s, gl_sl_n, gA_si, gA_sl, gA_sB, gA_sA_s, gA_sA_n, gB_si, gB_sl, gB_sA, gB_sB_s, gB_sB_n, Nat.reduceBEq]; done))), xw_eq rfl rfl rfl rfl rfl rfl rfl⟩, ⟨by rw [ht]; exact hP, va_K.moved hW.alike hK, hD⟩⟩, hS.F ht⟩) hS.2.2 dX3_pointOn_20
set_option maxHeartbeats 4000000 in
set_option maxRecDepth 100000 in
theorem c_fill (l : Launch) (D : va_G) (cI cJ : ClassId) (ad : Nat → Nat) (co fl ra li re wa pi : Ob) (k1 : Int32) (k2 : Int32) : CT l D (TY cI cJ) yX3_fill (.code yX3_fill cX3_fill 6 (some Jvm.ClassFile.FieldType.int)) 3 0 0 (XW ad cI cJ co fl ra li re wa pi) [.ref (ad 6), .int k1, .int k2] (QI D (TY cI cJ) (fun r u => r = (fill wa pi k1 k2).2 ∧ u = (XW ad cI cJ co fl ra li re wa (fill wa pi k1 k2).1))) := by
  refine ent (by decide) (Nat.le_of_ble_eq_true rfl) ?_
  intro p e s m below meth c ls A hx hb hr hg hown hml hlocks hnm hP hK hD hS hA hN hl
  have hl : lv_has ls 6 [(0, .ref (ad 6)), (1, .int k1), (2, .int k2)] := hl
  refine lv_iload_n hx hb dX3_fill_0 rfl (lv_at hl 2 rfl) ?_
  refine lv_istore_n (lv' := [(3, .int k2), (0, .ref (ad 6)), (1, .int k1), (2, .int k2)]) hx hb dX3_fill_1 rfl hl (by decide) rfl (fun ls hl => ?_)
  refine lv_iconst (v := 0) hx hb dX3_fill_2 (by decide) ?_
  refine lv_istore (lv' := [(4, .int 0), (3, .int k2), (0, .ref (ad 6)), (1, .int k1), (2, .int k2)]) hx hb dX3_fill_3 hl (by decide) rfl (fun ls hl => ?_)
  refine w_loop (σ := Ob × Int32) (fun (i_1 : Nat) (p_1 : Ob × Int32) (H : Heap) (locs : List Loc) (ls : Array Slot) => p_1 = (lp (fiA wa k1) i_1 (pi, k2)) ∧ va_P D vwCl (XW ad cI cJ co fl ra li re wa p_1.1) H ∧ va_D A (XW ad cI cJ co fl ra li re wa p_1.1) ∧ va_S A s.heap H locs ∧ lv_has ls 6 [(0, .ref (ad 6)), (1, .int k1), (2, .int k2), (3, .int p_1.2), (4, .int (nI i_1))]) (nN (gi wa 0)) (fun p_1 H locs ls hI => ?_) (fun i_1 p_1 H locs ls hi_1 hI ih_1 => ?_) 0 (pi, k2) (Nat.zero_le _) ⟨rfl, hP, hD, hS, (by rw [nI_0]; exact lv_sub hl [2, 3, 4, 1, 0] rfl)⟩
  · obtain ⟨h_1, hP, hD, hS, hl⟩ := hI
    have h_1 := h_1.symm
    subst h_1
    have hP : va_P D vwCl (XW ad cI cJ co fl ra li re wa ((lp (fiA wa k1) (nN (gi wa 0)) (pi, k2)).1)) H := hP
    have hD : va_D A (XW ad cI cJ co fl ra li re wa ((lp (fiA wa k1) (nN (gi wa 0)) (pi, k2)).1)) := hD
    have hl : lv_has ls 6 [(0, .ref (ad 6)), (1, .int k1), (2, .int k2), (3, .int ((lp (fiA wa k1) (nN (gi wa 0)) (pi, k2)).2)), (4, .int (nI ((nN (gi wa 0)))))] := hl
    refine lv_iload hx hb dX3_fill_5 (lv_at hl 4 rfl) ?_
    refine lv_aload_n hx hb dX3_fill_7 rfl (lv_at hl 0 rfl) ?_
    refine va_get (D := D) (ci := 3) (v := .ref (ad 7)) (C := RX3) (T := TX3) (N := 16) hx hb hg inGX3 hown hK hP 6 rfl rfl 0 (by decide) (hg _ mw_227) (fun _ h9 => h9) rfl dX3_fill_8 ?_
    refine va_getN (D := D) (ci := 6) (v := .int (gi wa 0)) (C := RX6) (T := TX6) (N := 9) hx hb hg inGX6 hown hK hP 7 rfl rfl 5 (by decide) (hN.use nw_58) (fun _ h9 => h9) rfl dX3_fill_11 ?_
    refine lv_icmp_ge (tgt := 61) hx hb dX3_fill_14 (by decide) (fun _ => ?_) (fun c_14 => absurd (lp_out _) c_14)
    refine lv_iconst (v := 0) hx hb dX3_fill_61 (by decide) ?_
    refine lv_istore (lv' := [(4, .int 0), (0, .ref (ad 6)), (1, .int k1), (2, .int k2), (3, .int ((lp (fiA wa k1) (nN (gi wa 0)) (pi, k2)).2))]) hx hb dX3_fill_62 hl (by decide) rfl (fun ls hl => ?_)
    refine w_loop (σ := Ob × Int32) (fun (i_2 : Nat) (p_2 : Ob × Int32) (H : Heap) (locs : List Loc) (ls : Array Slot) => p_2 = (lp (fiB wa k1) i_2 (((lp (fiA wa k1) (nN (gi wa 0)) (pi, k2)).1), ((lp (fiA wa k1) (nN (gi wa 0)) (pi, k2)).2))) ∧ va_P D vwCl (XW ad cI cJ co fl ra li re wa p_2.1) H ∧ va_D A (XW ad cI cJ co fl ra li re wa p_2.1) ∧ va_S A s.heap H locs ∧ lv_has ls 6 [(0, .ref (ad 6)), (1, .int k1), (2, .int k2), (3, .int p_2.2), (4, .int (nI i_2))]) (nN (gi pi 0)) (fun p_2 H locs ls hI => ?_) (fun i_2 p_2 H locs ls hi_2 hI ih_2 => ?_) 0 (((lp (fiA wa k1) (nN (gi wa 0)) (pi, k2)).1), ((lp (fiA wa k1) (nN (gi wa 0)) (pi, k2)).2)) (Nat.zero_le _) ⟨rfl, hP, hD, hS, (by rw [nI_0]; exact lv_sub hl [1, 2, 3, 4, 0] rfl)⟩
    · obtain ⟨h_2, hP, hD, hS, hl⟩ := hI
      have h_2 := h_2.symm
      subst h_2
      have hP : va_P D vwCl (XW ad cI cJ co fl ra li re wa ((lp (fiB wa k1) (nN (gi pi 0)) (((lp (fiA wa k1) (nN (gi wa 0)) (pi, k2)).1), ((lp (fiA wa k1) (nN (gi wa 0)) (pi, k2)).2))).1)) H := hP
      have hD : va_D A (XW ad cI cJ co fl ra li re wa ((lp (fiB wa k1) (nN (gi pi 0)) (((lp (fiA wa k1) (nN (gi wa 0)) (pi, k2)).1), ((lp (fiA wa k1) (nN (gi wa 0)) (pi, k2)).2))).1)) := hD
      have hl : lv_has ls 6 [(0, .ref (ad 6)), (1, .int k1), (2, .int k2), (3, .int ((lp (fiB wa k1) (nN (gi pi 0)) (((lp (fiA wa k1) (nN (gi wa 0)) (pi, k2)).1), ((lp (fiA wa k1) (nN (gi wa 0)) (pi, k2)).2))).2)), (4, .int (nI ((nN (gi pi 0)))))] := hl
      refine lv_iload hx hb dX3_fill_64 (lv_at hl 4 rfl) ?_
      refine lv_aload_n hx hb dX3_fill_66 rfl (lv_at hl 0 rfl) ?_
      refine va_get (D := D) (ci := 3) (v := .int (gi ((lp (fiB wa k1) (nN (gi pi 0)) (((lp (fiA wa k1) (nN (gi wa 0)) (pi, k2)).1), ((lp (fiA wa k1) (nN (gi wa 0)) (pi, k2)).2))).1) 0)) (C := RX3) (T := TX3) (N := 16) hx hb hg inGX3 hown hK hP 6 rfl rfl 12 (by decide) (hg _ mw_228) (fun _ h9 => h9) rfl dX3_fill_67 ?_
      refine lv_icmp_ge (tgt := 127) hx hb dX3_fill_70 (by decide) (fun _ => ?_) (fun c_70 => absurd (by rw [k_fiBL, k_fiAL]; exact lp_out _) c_70)
      refine lv_iload_n hx hb dX3_fill_127 rfl (lv_at hl 3 rfl) ?_
      exact W.iret (v := ((lp (fiB wa k1) (nN (gi pi 0)) (((lp (fiA wa k1) (nN (gi wa 0)) (pi, k2)).1), ((lp (fiA wa k1) (nN (gi wa 0)) (pi, k2)).2))).2)) hx hb hr (fun t ht hW => ⟨⟨((lp (fiB wa k1) (nN (gi pi 0)) (((lp (fiA wa k1) (nN (gi wa 0)) (pi, k2)).1), ((lp (fiA wa k1) (nN (gi wa 0)) (pi, k2)).2))).2), (XW ad cI cJ co fl ra li re wa ((lp (fiB wa k1) (nN (gi pi 0)) (((lp (fiA wa k1) (nN (gi wa 0)) (pi, k2)).1), ((lp (fiA wa k1) (nN (gi wa 0)) (pi, k2)).2))).1)), rfl, ⟨(show (((lp (fiB wa k1) (nN (gi pi 0)) (((lp (fiA wa k1) (nN (gi wa 0)) (pi, k2)).1), ((lp (fiA wa k1) (nN (gi wa 0)) (pi, k2)).2))).2) : Int32) = (fill wa pi k1 k2).2 from (by first | with_reducible rfl | (simp only [fill, gi_sl, gi_sA, gi_sB, gi_si_s, gi_si_n, gl_si, gl_sA, gl_sB, gl_sl_s, gl_sl_n, gA_si, gA_sl, gA_sB, gA_sA_s, gA_sA_n, gB_si, gB_sl, gB_sA, gB_sB_s, gB_sB_n, Nat.reduceBEq, if_true, if_false, eq_self, Bool.false_eq_true, reduceCtorEq, not_true_eq_false, not_false_eq_true, decide_true, decide_false, cond_true, cond_false, Bool.true_and, Bool.false_and, Bool.and_true, Bool.and_false, Bool.true_or, Bool.false_or, Bool.or_true, Bool.or_false, b2i_tt, b2i_ff]; done) | rfl)), xw_eq rfl rfl rfl rfl rfl rfl (show ((lp (fiB wa k1) (nN (gi pi 0)) (((lp (fiA wa k1) (nN (gi wa 0)) (pi, k2)).1), ((lp (fiA wa k1) (nN (gi wa 0)) (pi, k2)).2))).1) = (fill wa pi k1 k2).1 from (by first | with_reducible rfl | (simp only [fill, gi_sl, gi_sA, gi_sB, gi_si_s, gi_si_n, gl_si, gl_sA, gl_sB, gl_sl_s, gl_sl_n, gA_si, gA_sl, gA_sB, gA_sA_s, gA_sA_n, gB_si, gB_sl, gB_sA, gB_sB_s, gB_sB_n, Nat.reduceBEq, if_true, if_false, eq_self, Bool.false_eq_true, reduceCtorEq, not_true_eq_false, not_false_eq_true, decide_true, decide_false, cond_true, cond_false, Bool.true_and, Bool.false_and, Bool.and_true, Bool.and_false, Bool.true_or, Bool.false_or, Bool.or_true, Bool.or_false, b2i_tt, b2i_ff]; done) | rfl))⟩, ⟨by rw [ht]; exact hP, va_K.moved hW.alike hK, hD⟩⟩, hS.F ht⟩) hS.2.2 dX3_fill_128
    · obtain ⟨h_2, hP, hD, hS, hl⟩ := hI
      have hP : va_P D vwCl (XW ad cI cJ co fl ra li re wa p_2.1) H := hP
      have hD : va_D A (XW ad cI cJ co fl ra li re wa p_2.1) := hD
      have hl : lv_has ls 6 [(0, .ref (ad 6)), (1, .int k1), (2, .int k2), (3, .int p_2.2), (4, .int (nI i_2))] := hl
      refine lv_iload hx hb dX3_fill_64 (lv_at hl 4 rfl) ?_
      refine lv_aload_n hx hb dX3_fill_66 rfl (lv_at hl 0 rfl) ?_
      refine va_get (D := D) (ci := 3) (v := .int (gi p_2.1 0)) (C := RX3) (T := TX3) (N := 16) hx hb hg inGX3 hown hK hP 6 rfl rfl 12 (by decide) (hg _ mw_228) (fun _ h9 => h9) rfl dX3_fill_67 ?_
      refine lv_icmp_ge (tgt := 127) hx hb dX3_fill_70 (by decide) (fun c_70 => absurd c_70 (by rw [h_2, k_fiBL, k_fiAL]; exact lp_in hi_2)) (fun _ => ?_)
      refine lv_aload_n hx hb dX3_fill_73 rfl (lv_at hl 0 rfl) ?_
      refine va_get (D := D) (ci := 3) (v := .ref (ad 7)) (C := RX3) (T := TX3) (N := 16) hx hb hg inGX3 hown hK hP 6 rfl rfl 0 (by decide) (hg _ mw_227) (fun _ h9 => h9) rfl dX3_fill_74 ?_
      refine lv_iload hx hb dX3_fill_77 (lv_at hl 4 rfl) ?_
      refine kI (rV (q0 := 7) (ci := 6) hx hb hml hown hg hN hK hP hD (c_draws l D cI cJ ad co fl ra li re wa p_2.1 (nI i_2)) mw_204 mw_229 mw_206 mw_207 mw_208 pdv_X6_draws ⟨Nat.le_of_ble_eq_true rfl, Nat.le_of_ble_eq_true rfl⟩ rfl rfl rfl hl.1 rfl (Nat.le_of_ble_eq_true rfl) dX3_fill_79 ⟨Nat.le_of_ble_eq_true rfl, Nat.le_of_ble_eq_true rfl⟩) hD hS hA (fun r_3 u_3 H locs hp hP hD hS => ?_)
      obtain ⟨er, eu⟩ := hp
      obtain rfl := er.symm
      obtain rfl := eu.symm
      refine lv_if_eq (tgt := 121) hx hb dX3_fill_82 (by decide) (fun c_82 => ?_) (fun c_82 => ?_)
      · have c_82 : ¬ (draws wa (nI i_2)) = true := b2i_0 c_82
        refine lv_iinc (v := (nI (i_2 + 1))) (lv' := [(4, .int (nI (i_2 + 1))), (0, .ref (ad 6)), (1, .int k1), (2, .int k2), (3, .int p_2.2)]) hx hb dX3_fill_121 hl (k := 4) rfl (nI_1 i_2) (by decide) rfl (fun ls hl => ?_)
        refine lv_goto (tgt := 64) hx hb dX3_fill_124 (by decide) ?_
        exact ih_2 (p_2.1, p_2.2) H locs ls ⟨((show (p_2.1, p_2.2) = (fiB wa k1) i_2 p_2 from (by first | (simp only [fiB, if_neg c_82, bf_of c_82, gi_sl, gi_sA, gi_sB, gi_si_s, gi_si_n, gl_si, gl_sA, gl_sB, gl_sl_s, gl_sl_n, gA_si, gA_sl, gA_sB, gA_sA_s, gA_sA_n, gB_si, gB_sl, gB_sA, gB_sB_s, gB_sB_n, Nat.reduceBEq, if_true, if_false, eq_self, Bool.false_eq_true, reduceCtorEq, not_true_eq_false, not_false_eq_true, decide_true, decide_false, cond_true, cond_false, Bool.true_and, Bool.false_and, Bool.and_true, Bool.and_false, Bool.true_or, Bool.false_or, Bool.or_true, Bool.or_false, b2i_tt, b2i_ff]; done) | (simp only [fiB, if_neg c_82, bf_of c_82, gi_sl, gi_sA, gi_sB, gi_si_s, gi_si_n, gl_si, gl_sA, gl_sB, gl_sl_s, gl_sl_n, gA_si, gA_sl, gA_sB, gA_sA_s, gA_sA_n, gB_si, gB_sl, gB_sA, gB_sB_s, gB_sB_n, Nat.reduceBEq, if_true, if_false, eq_self, Bool.false_eq_true, reduceCtorEq, not_true_eq_false, not_false_eq_true, decide_true, decide_false, cond_true, cond_false, Bool.true_and, Bool.false_and, Bool.and_true, Bool.and_false, Bool.true_or, Bool.false_or, Bool.or_true, Bool.or_false, b2i_tt, b2i_ff]; rfl) | (simp [fiB, c_82, gi_sl, gi_sA, gi_sB, gi_si_s, gi_si_n, gl_si, gl_sA, gl_sB, gl_sl_s, gl_sl_n, gA_si, gA_sl, gA_sB, gA_sA_s, gA_sA_n, gB_si, gB_sl, gB_sA, gB_sB_s, gB_sB_n, Nat.reduceBEq]; done))).trans (lp_go h_2)), hP, hD, hS, lv_sub hl [1, 2, 3, 4, 0] rfl⟩
      · have c_82 : (draws wa (nI i_2)) = true := b2i_1 c_82
        refine lv_aload_n hx hb dX3_fill_85 rfl (lv_at hl 0 rfl) ?_
        refine lv_iload hx hb dX3_fill_86 (lv_at hl 4 rfl) ?_
        refine kI (rV (q0 := 6) (ci := 3) hx hb hml hown hg hN hK hP hD (c_top l D cI cJ ad co fl ra li re wa p_2.1 (nI i_2)) mw_230 mw_231 mw_232 mw_233 mw_234 pdv_X3_top ⟨Nat.le_of_ble_eq_true rfl, Nat.le_of_ble_eq_true rfl⟩ rfl rfl rfl hl.1 rfl (Nat.le_of_ble_eq_true rfl) dX3_fill_88 ⟨Nat.le_of_ble_eq_true rfl, Nat.le_of_ble_eq_true rfl⟩) hD hS hA (fun r_4 u_4 H locs hp hP hD hS => ?_)
        obtain ⟨er, eu⟩ := hp
        obtain rfl := er.symm
        obtain rfl := eu.symm
        refine lv_iload_n hx hb dX3_fill_91 rfl (lv_at hl 1 rfl) ?_
        refine lv_icmp_ge (tgt := 121) hx hb dX3_fill_92 (by decide) (fun c_92 => ?_) (fun c_92 => ?_)
        · have c_92 : ¬ (topE wa p_2.1 (nI i_2)) < k1 := i_ge c_92
          refine lv_iinc (v := (nI (i_2 + 1))) (lv' := [(4, .int (nI (i_2 + 1))), (0, .ref (ad 6)), (1, .int k1), (2, .int k2), (3, .int p_2.2)]) hx hb dX3_fill_121 hl (k := 4) rfl (nI_1 i_2) (by decide) rfl (fun ls hl => ?_)
          refine lv_goto (tgt := 64) hx hb dX3_fill_124 (by decide) ?_
          exact ih_2 (p_2.1, p_2.2) H locs ls ⟨((show (p_2.1, p_2.2) = (fiB wa k1) i_2 p_2 from (by first | (simp only [fiB, if_pos c_82, c_82, if_neg c_92, decide_eq_false c_92, decide_eq_true c_92, if_pos c_92, gi_sl, gi_sA, gi_sB, gi_si_s, gi_si_n, gl_si, gl_sA, gl_sB, gl_sl_s, gl_sl_n, gA_si, gA_sl, gA_sB, gA_sA_s, gA_sA_n, gB_si, gB_sl, gB_sA, gB_sB_s, gB_sB_n, Nat.reduceBEq, if_true, if_false, eq_self, Bool.false_eq_true, reduceCtorEq, not_true_eq_false, not_false_eq_true, decide_true, decide_false, cond_true, cond_false, Bool.true_and, Bool.false_and, Bool.and_true, Bool.and_false, Bool.true_or, Bool.false_or, Bool.or_true, Bool.or_false, b2i_tt, b2i_ff]; done) | (simp only [fiB, if_pos c_82, c_82, if_neg c_92, decide_eq_false c_92, decide_eq_true c_92, if_pos c_92, gi_sl, gi_sA, gi_sB, gi_si_s, gi_si_n, gl_si, gl_sA, gl_sB, gl_sl_s, gl_sl_n, gA_si, gA_sl, gA_sB, gA_sA_s, gA_sA_n, gB_si, gB_sl, gB_sA, gB_sB_s, gB_sB_n, Nat.reduceBEq, if_true, if_false, eq_self, Bool.false_eq_true, reduceCtorEq, not_true_eq_false, not_false_eq_true, decide_true, decide_false, cond_true, cond_false, Bool.true_and, Bool.false_and, Bool.and_true, Bool.and_false, Bool.true_or, Bool.false_or, Bool.or_true, Bool.or_false, b2i_tt, b2i_ff]; rfl) | (simp [fiB, c_82, c_92, gi_sl, gi_sA, gi_sB, gi_si_s, gi_si_n, gl_si, gl_sA, gl_sB, gl_sl_s, gl_sl_n, gA_si, gA_sl, gA_sB, gA_sA_s, gA_sA_n, gB_si, gB_sl, gB_sA, gB_sB_s, gB_sB_n, Nat.reduceBEq]; done))).trans (lp_go h_2)), hP, hD, hS, lv_sub hl [1, 2, 3, 4, 0] rfl⟩
        · have c_92 : (topE wa p_2.1 (nI i_2)) < k1 := i_nge c_92
          refine lv_iload_n hx hb dX3_fill_95 rfl (lv_at hl 1 rfl) ?_
          refine lv_aload_n hx hb dX3_fill_96 rfl (lv_at hl 0 rfl) ?_
          refine lv_iload hx hb dX3_fill_97 (lv_at hl 4 rfl) ?_
          refine kI (rV (q0 := 6) (ci := 3) hx hb hml hown hg hN hK hP hD (c_bottom l D cI cJ ad co fl ra li re wa p_2.1 (nI i_2)) mw_244 mw_245 mw_246 mw_247 mw_234 pdv_X3_bottom ⟨Nat.le_of_ble_eq_true rfl, Nat.le_of_ble_eq_true rfl⟩ rfl rfl rfl hl.1 rfl (Nat.le_of_ble_eq_true rfl) dX3_fill_99 ⟨Nat.le_of_ble_eq_true rfl, Nat.le_of_ble_eq_true rfl⟩) hD hS hA (fun r_5 u_5 H locs hp hP hD hS => ?_)
          obtain ⟨er, eu⟩ := hp
          obtain rfl := er.symm
          obtain rfl := eu.symm
          refine lv_icmp_ge (tgt := 121) hx hb dX3_fill_102 (by decide) (fun c_102 => ?_) (fun c_102 => ?_)
          · have c_102 : ¬ k1 < (botE wa p_2.1 (nI i_2)) := i_ge c_102
            refine lv_iinc (v := (nI (i_2 + 1))) (lv' := [(4, .int (nI (i_2 + 1))), (0, .ref (ad 6)), (1, .int k1), (2, .int k2), (3, .int p_2.2)]) hx hb dX3_fill_121 hl (k := 4) rfl (nI_1 i_2) (by decide) rfl (fun ls hl => ?_)
            refine lv_goto (tgt := 64) hx hb dX3_fill_124 (by decide) ?_
            exact ih_2 (p_2.1, p_2.2) H locs ls ⟨((show (p_2.1, p_2.2) = (fiB wa k1) i_2 p_2 from (by first | (simp only [fiB, if_pos c_82, c_82, if_pos c_92, decide_eq_true c_92, decide_eq_false (not_not_intro c_92), if_neg c_102, decide_eq_false c_102, decide_eq_true c_102, if_pos c_102, gi_sl, gi_sA, gi_sB, gi_si_s, gi_si_n, gl_si, gl_sA, gl_sB, gl_sl_s, gl_sl_n, gA_si, gA_sl, gA_sB, gA_sA_s, gA_sA_n, gB_si, gB_sl, gB_sA, gB_sB_s, gB_sB_n, Nat.reduceBEq, if_true, if_false, eq_self, Bool.false_eq_true, reduceCtorEq, not_true_eq_false, not_false_eq_true, decide_true, decide_false, cond_true, cond_false, Bool.true_and, Bool.false_and, Bool.and_true, Bool.and_false, Bool.true_or, Bool.false_or, Bool.or_true, Bool.or_false, b2i_tt, b2i_ff]; done) | (simp only [fiB, if_pos c_82, c_82, if_pos c_92, decide_eq_true c_92, decide_eq_false (not_not_intro c_92), if_neg c_102, decide_eq_false c_102, decide_eq_true c_102, if_pos c_102, gi_sl, gi_sA, gi_sB, gi_si_s, gi_si_n, gl_si, gl_sA, gl_sB, gl_sl_s, gl_sl_n, gA_si, gA_sl, gA_sB, gA_sA_s, gA_sA_n, gB_si, gB_sl, gB_sA, gB_sB_s, gB_sB_n, Nat.reduceBEq, if_true, if_false, eq_self, Bool.false_eq_true, reduceCtorEq, not_true_eq_false, not_false_eq_true, decide_true, decide_false, cond_true, cond_false, Bool.true_and, Bool.false_and, Bool.and_true, Bool.and_false, Bool.true_or, Bool.false_or, Bool.or_true, Bool.or_false, b2i_tt, b2i_ff]; rfl) | (simp [fiB, c_82, c_92, c_102, gi_sl, gi_sA, gi_sB, gi_si_s, gi_si_n, gl_si, gl_sA, gl_sB, gl_sl_s, gl_sl_n, gA_si, gA_sl, gA_sB, gA_sA_s, gA_sA_n, gB_si, gB_sl, gB_sA, gB_sB_s, gB_sB_n, Nat.reduceBEq]; done))).trans (lp_go h_2)), hP, hD, hS, lv_sub hl [1, 2, 3, 4, 0] rfl⟩
          · have c_102 : k1 < (botE wa p_2.1 (nI i_2)) := i_nge c_102
            refine lv_aload_n hx hb dX3_fill_105 rfl (lv_at hl 0 rfl) ?_
            refine lv_iload_n hx hb dX3_fill_106 rfl (lv_at hl 1 rfl) ?_
            refine lv_iload_n hx hb dX3_fill_107 rfl (lv_at hl 3 rfl) ?_
            refine lv_aload_n hx hb dX3_fill_108 rfl (lv_at hl 0 rfl) ?_
            refine lv_iload hx hb dX3_fill_109 (lv_at hl 4 rfl) ?_
            refine lv_iload_n hx hb dX3_fill_111 rfl (lv_at hl 1 rfl) ?_
            refine kI (rV (q0 := 6) (ci := 3) hx hb hml hown hg hN hK hP hD (c_pointOn l D cI cJ ad co fl ra li re wa p_2.1 (nI i_2) k1) mw_257 mw_258 mw_259 mw_260 mw_234 pdv_X3_pointOn ⟨Nat.le_of_ble_eq_true rfl, Nat.le_of_ble_eq_true rfl⟩ rfl rfl rfl hl.1 rfl (Nat.le_of_ble_eq_true rfl) dX3_fill_112 ⟨Nat.le_of_ble_eq_true rfl, Nat.le_of_ble_eq_true rfl⟩) hD hS hA (fun r_6 u_6 H locs hp hP hD hS => ?_)
            obtain ⟨er, eu⟩ := hp
            obtain rfl := er.symm
            obtain rfl := eu.symm
            refine kV (rV (q0 := 6) (ci := 3) hx hb hml hown hg hN hK hP hD (c_putPoint l D cI cJ ad co fl ra li re wa p_2.1 k1 p_2.2 (pointOn wa p_2.1 (nI i_2) k1)) mw_261 mw_262 mw_263 mw_264 mw_234 pdv_X3_putPoint ⟨Nat.le_of_ble_eq_true rfl, Nat.le_of_ble_eq_true rfl⟩ rfl rfl rfl hl.1 rfl (Nat.le_of_ble_eq_true rfl) dX3_fill_115 ⟨Nat.le_of_ble_eq_true rfl, Nat.le_of_ble_eq_true rfl⟩) hD hS hA (fun u_7 H locs hp hP hD hS => ?_)
            obtain rfl := hp.symm
            have hP : va_P D vwCl (XW ad cI cJ co fl ra li re wa (putPoint p_2.1 k1 p_2.2 (pointOn wa p_2.1 (nI i_2) k1))) H := hP
            have hD : va_D A (XW ad cI cJ co fl ra li re wa (putPoint p_2.1 k1 p_2.2 (pointOn wa p_2.1 (nI i_2) k1))) := hD
            refine lv_iinc (v := (p_2.2 + 1)) (lv' := [(3, .int (p_2.2 + 1)), (0, .ref (ad 6)), (1, .int k1), (2, .int k2), (4, .int (nI i_2))]) hx hb dX3_fill_118 hl (k := 3) rfl rfl (by decide) rfl (fun ls hl => ?_)
            refine lv_iinc (v := (nI (i_2 + 1))) (lv' := [(4, .int (nI (i_2 + 1))), (3, .int (p_2.2 + 1)), (0, .ref (ad 6)), (1, .int k1), (2, .int k2)]) hx hb dX3_fill_121 hl (k := 4) rfl (nI_1 i_2) (by decide) rfl (fun ls hl => ?_)
            refine lv_goto (tgt := 64) hx hb dX3_fill_124 (by decide) ?_
            exact ih_2 ((putPoint p_2.1 k1 p_2.2 (pointOn wa p_2.1 (nI i_2) k1)), (p_2.2 + 1)) H locs ls ⟨((show ((putPoint p_2.1 k1 p_2.2 (pointOn wa p_2.1 (nI i_2) k1)), (p_2.2 + 1)) = (fiB wa k1) i_2 p_2 from (by first | (simp only [fiB, if_pos c_82, c_82, if_pos c_92, decide_eq_true c_92, decide_eq_false (not_not_intro c_92), if_pos c_102, decide_eq_true c_102, decide_eq_false (not_not_intro c_102), gi_sl, gi_sA, gi_sB, gi_si_s, gi_si_n, gl_si, gl_sA, gl_sB, gl_sl_s, gl_sl_n, gA_si, gA_sl, gA_sB, gA_sA_s, gA_sA_n, gB_si, gB_sl, gB_sA, gB_sB_s, gB_sB_n, Nat.reduceBEq, if_true, if_false, eq_self, Bool.false_eq_true, reduceCtorEq, not_true_eq_false, not_false_eq_true, decide_true, decide_false, cond_true, cond_false, Bool.true_and, Bool.false_and, Bool.and_true, Bool.and_false, Bool.true_or, Bool.false_or, Bool.or_true, Bool.or_false, b2i_tt, b2i_ff]; done) | (simp only [fiB, if_pos c_82, c_82, if_pos c_92, decide_eq_true c_92, decide_eq_false (not_not_intro c_92), if_pos c_102, decide_eq_true c_102, decide_eq_false (not_not_intro c_102), gi_sl, gi_sA, gi_sB, gi_si_s, gi_si_n, gl_si, gl_sA, gl_sB, gl_sl_s, gl_sl_n, gA_si, gA_sl, gA_sB, gA_sA_s, gA_sA_n, gB_si, gB_sl, gB_sA, gB_sB_s, gB_sB_n, Nat.reduceBEq, if_true, if_false, eq_self, Bool.false_eq_true, reduceCtorEq, not_true_eq_false, not_false_eq_true, decide_true, decide_false, cond_true, cond_false, Bool.true_and, Bool.false_and, Bool.and_true, Bool.and_false, Bool.true_or, Bool.false_or, Bool.or_true, Bool.or_false, b2i_tt, b2i_ff]; rfl) | (simp [fiB, c_82, c_92, c_102, gi_sl, gi_sA, gi_sB, gi_si_s, gi_si_n, gl_si, gl_sA, gl_sB, gl_sl_s, gl_sl_n, gA_si, gA_sl, gA_sB, gA_sA_s, gA_sA_n, gB_si, gB_sl, gB_sA, gB_sB_s, gB_sB_n, Nat.reduceBEq]; done))).trans (lp_go h_2)), hP, hD, hS, lv_sub hl [2, 3, 4, 1, 0] rfl⟩
  · obtain ⟨h_1, hP, hD, hS, hl⟩ := hI
    have hP : va_P D vwCl (XW ad cI cJ co fl ra li re wa p_1.1) H := hP
    have hD : va_D A (XW ad cI cJ co fl ra li re wa p_1.1) := hD
    have hl : lv_has ls 6 [(0, .ref (ad 6)), (1, .int k1), (2, .int k2), (3, .int p_1.2), (4, .int (nI i_1))] := hl
    refine lv_iload hx hb dX3_fill_5 (lv_at hl 4 rfl) ?_
    refine lv_aload_n hx hb dX3_fill_7 rfl (lv_at hl 0 rfl) ?_
    refine va_get (D := D) (ci := 3) (v := .ref (ad 7)) (C := RX3) (T := TX3) (N := 16) hx hb hg inGX3 hown hK hP 6 rfl rfl 0 (by decide) (hg _ mw_227) (fun _ h9 => h9) rfl dX3_fill_8 ?_
    refine va_getN (D := D) (ci := 6) (v := .int (gi wa 0)) (C := RX6) (T := TX6) (N := 9) hx hb hg inGX6 hown hK hP 7 rfl rfl 5 (by decide) (hN.use nw_58) (fun _ h9 => h9) rfl dX3_fill_11 ?_
    refine lv_icmp_ge (tgt := 61) hx hb dX3_fill_14 (by decide) (fun c_14 => absurd c_14 (lp_in hi_1)) (fun _ => ?_)
    refine lv_aload_n hx hb dX3_fill_17 rfl (lv_at hl 0 rfl) ?_
    refine va_get (D := D) (ci := 3) (v := .ref (ad 7)) (C := RX3) (T := TX3) (N := 16) hx hb hg inGX3 hown hK hP 6 rfl rfl 0 (by decide) (hg _ mw_227) (fun _ h9 => h9) rfl dX3_fill_18 ?_
    refine va_getN (D := D) (ci := 6) (v := .ref (ad 29)) (C := RX6) (T := TX6) (N := 9) hx hb hg inGX6 hown hK hP 7 rfl rfl 0 (by decide) (hN.use nw_55) (fun _ h9 => h9) rfl dX3_fill_21 ?_
    refine lv_iload hx hb dX3_fill_24 (lv_at hl 4 rfl) ?_
    refine kI (rSN hx hb hml hown hg hN hK hP hD (c_at l D cI cJ (XW ad cI cJ co fl ra li re wa p_1.1) 29 (ad 29) 40 (gA wa 0) (nI i_1) rfl (by decide)) mw_84 nw_96 mw_85 mw_77 pd_X7_at ⟨Nat.le_of_ble_eq_true rfl, Nat.le_of_ble_eq_true rfl⟩ rfl hl.1 rfl (Nat.le_of_ble_eq_true rfl) dX3_fill_26 ⟨Nat.le_of_ble_eq_true rfl, Nat.le_of_ble_eq_true rfl⟩) hD hS hA (fun r_8 u_8 H locs hp hP hD hS => ?_)
    obtain ⟨er, eu⟩ := hp
    obtain rfl := er.symm
    obtain rfl := eu.symm
    refine lv_istore (lv' := [(5, .int (rd (gA wa 0) 40 (nI i_1))), (0, .ref (ad 6)), (1, .int k1), (2, .int k2), (3, .int p_1.2), (4, .int (nI i_1))]) hx hb dX3_fill_29 hl (by decide) rfl (fun ls hl => ?_)
    refine lv_aload_n hx hb dX3_fill_31 rfl (lv_at hl 1 rfl) ?_
    refine va_get (D := D) (ci := 3) (v := .ref (ad 34)) (C := RX3) (T := TX3) (N := 16) hx hb hg inGX3 hown hK hP 6 rfl rfl 1 (by decide) (hg _ mw_226) (fun _ h9 => h9) rfl dX3_fill_32 ?_
    refine lv_iload hx hb dX3_fill_35 (lv_at hl 0 rfl) ?_
    refine kI (rSN hx hb hml hown hg hN hK hP hD (c_at l D cI cJ (XW ad cI cJ co fl ra li re wa p_1.1) 34 (ad 34) 40 (gA p_1.1 0) (rd (gA wa 0) 40 (nI i_1)) rfl (by decide)) mw_84 nw_96 mw_85 mw_77 pd_X7_at ⟨Nat.le_of_ble_eq_true rfl, Nat.le_of_ble_eq_true rfl⟩ rfl hl.1 rfl (Nat.le_of_ble_eq_true rfl) dX3_fill_37 ⟨Nat.le_of_ble_eq_true rfl, Nat.le_of_ble_eq_true rfl⟩) hD hS hA (fun r_9 u_9 H locs hp hP hD hS => ?_)
    obtain ⟨er, eu⟩ := hp
    obtain rfl := er.symm
    obtain rfl := eu.symm
    refine lv_iload_n hx hb dX3_fill_40 rfl (lv_at hl 2 rfl) ?_
    refine lv_icmp_ne (tgt := 55) hx hb dX3_fill_41 (by decide) (fun c_41 => ?_) (fun c_41 => ?_)
    · refine lv_iinc (v := (nI (i_1 + 1))) (lv' := [(4, .int (nI (i_1 + 1))), (5, .int (rd (gA wa 0) 40 (nI i_1))), (0, .ref (ad 6)), (1, .int k1), (2, .int k2), (3, .int p_1.2)]) hx hb dX3_fill_55 hl (k := 5) rfl (nI_1 i_1) (by decide) rfl (fun ls hl => ?_)
      refine lv_goto (tgt := 5) hx hb dX3_fill_58 (by decide) ?_
      exact ih_1 (p_1.1, p_1.2) H locs ls ⟨((show (p_1.1, p_1.2) = (fiA wa k1) i_1 p_1 from (by first | (simp only [fiA, if_neg c_41, decide_eq_false c_41, decide_eq_true c_41, if_pos c_41, gi_sl, gi_sA, gi_sB, gi_si_s, gi_si_n, gl_si, gl_sA, gl_sB, gl_sl_s, gl_sl_n, gA_si, gA_sl, gA_sB, gA_sA_s, gA_sA_n, gB_si, gB_sl, gB_sA, gB_sB_s, gB_sB_n, Nat.reduceBEq, if_true, if_false, eq_self, Bool.false_eq_true, reduceCtorEq, not_true_eq_false, not_false_eq_true, decide_true, decide_false, cond_true, cond_false, Bool.true_and, Bool.false_and, Bool.and_true, Bool.and_false, Bool.true_or, Bool.false_or, Bool.or_true, Bool.or_false, b2i_tt, b2i_ff]; done) | (simp only [fiA, if_neg c_41, decide_eq_false c_41, decide_eq_true c_41, if_pos c_41, gi_sl, gi_sA, gi_sB, gi_si_s, gi_si_n, gl_si, gl_sA, gl_sB, gl_sl_s, gl_sl_n, gA_si, gA_sl, gA_sB, gA_sA_s, gA_sA_n, gB_si, gB_sl, gB_sA, gB_sB_s, gB_sB_n, Nat.reduceBEq, if_true, if_false, eq_self, Bool.false_eq_true, reduceCtorEq, not_true_eq_false, not_false_eq_true, decide_true, decide_false, cond_true, cond_false, Bool.true_and, Bool.false_and, Bool.and_true, Bool.and_false, Bool.true_or, Bool.false_or, Bool.or_true, Bool.or_false, b2i_tt, b2i_ff]; rfl) | (simp [fiA, c_41, gi_sl, gi_sA, gi_sB, gi_si_s, gi_si_n, gl_si, gl_sA, gl_sB, gl_sl_s, gl_sl_n, gA_si, gA_sl, gA_sB, gA_sA_s, gA_sA_n, gB_si, gB_sl, gB_sA, gB_sB_s, gB_sB_n, Nat.reduceBEq]; done))).trans (lp_go h_1)), hP, hD, hS, lv_sub hl [2, 3, 4, 5, 0] rfl⟩
    · refine lv_aload_n hx hb dX3_fill_44 rfl (lv_at hl 1 rfl) ?_
      refine lv_iload_n hx hb dX3_fill_45 rfl (lv_at hl 2 rfl) ?_
      refine lv_iload_n hx hb dX3_fill_46 rfl (lv_at hl 4 rfl) ?_
      refine lv_iload hx hb dX3_fill_47 (lv_at hl 0 rfl) ?_
      refine kV (rV (q0 := 6) (ci := 3) hx hb hml hown hg hN hK hP hD (c_putPoint l D cI cJ ad co fl ra li re wa p_1.1 k1 p_1.2 (rd (gA wa 0) 40 (nI i_1))) mw_261 mw_262 mw_263 mw_264 mw_234 pdv_X3_putPoint ⟨Nat.le_of_ble_eq_true rfl, Nat.le_of_ble_eq_true rfl⟩ rfl rfl rfl hl.1 rfl (Nat.le_of_ble_eq_true rfl) dX3_fill_49 ⟨Nat.le_of_ble_eq_true rfl, Nat.le_of_ble_eq_true rfl⟩) hD hS hA (fun u_10 H locs hp hP hD hS => ?_)
      obtain rfl := hp.symm
      have hP : va_P D vwCl (XW ad cI cJ co fl ra li re wa (putPoint p_1.1 k1 p_1.2 (rd (gA wa 0) 40 (nI i_1)))) H := hP
      have hD : va_D A (XW ad cI cJ co fl ra li re wa (putPoint p_1.1 k1 p_1.2 (rd (gA wa 0) 40 (nI i_1)))) := hD
      refine lv_iinc (v := (p_1.2 + 1)) (lv' := [(3, .int (p_1.2 + 1)), (5, .int (rd (gA wa 0) 40 (nI i_1))), (0, .ref (ad 6)), (1, .int k1), (2, .int k2), (4, .int (nI i_1))]) hx hb dX3_fill_52 hl (k := 4) rfl rfl (by decide) rfl (fun ls hl => ?_)
      refine lv_iinc (v := (nI (i_1 + 1))) (lv' := [(4, .int (nI (i_1 + 1))), (3, .int (p_1.2 + 1)), (5, .int (rd (gA wa 0) 40 (nI i_1))), (0, .ref (ad 6)), (1, .int k1), (2, .int k2)]) hx hb dX3_fill_55 hl (k := 5) rfl (nI_1 i_1) (by decide) rfl (fun ls hl => ?_)
      refine lv_goto (tgt := 5) hx hb dX3_fill_58 (by decide) ?_
      exact ih_1 ((putPoint p_1.1 k1 p_1.2 (rd (gA wa 0) 40 (nI i_1))), (p_1.2 + 1)) H locs ls ⟨((show ((putPoint p_1.1 k1 p_1.2 (rd (gA wa 0) 40 (nI i_1))), (p_1.2 + 1)) = (fiA wa k1) i_1 p_1 from (by first | (simp only [fiA, if_pos c_41, decide_eq_true c_41, decide_eq_false (not_not_intro c_41), gi_sl, gi_sA, gi_sB, gi_si_s, gi_si_n, gl_si, gl_sA, gl_sB, gl_sl_s, gl_sl_n, gA_si, gA_sl, gA_sB, gA_sA_s, gA_sA_n, gB_si, gB_sl, gB_sA, gB_sB_s, gB_sB_n, Nat.reduceBEq, if_true, if_false, eq_self, Bool.false_eq_true, reduceCtorEq, not_true_eq_false, not_false_eq_true, decide_true, decide_false, cond_true, cond_false, Bool.true_and, Bool.false_and, Bool.and_true, Bool.and_false, Bool.true_or, Bool.false_or, Bool.or_true, Bool.or_false, b2i_tt, b2i_ff]; done) | (simp only [fiA, if_pos c_41, decide_eq_true c_41, decide_eq_false (not_not_intro c_41), gi_sl, gi_sA, gi_sB, gi_si_s, gi_si_n, gl_si, gl_sA, gl_sB, gl_sl_s, gl_sl_n, gA_si, gA_sl, gA_sB, gA_sA_s, gA_sA_n, gB_si, gB_sl, gB_sA, gB_sB_s, gB_sB_n, Nat.reduceBEq, if_true, if_false, eq_self, Bool.false_eq_true, reduceCtorEq, not_true_eq_false, not_false_eq_true, decide_true, decide_false, cond_true, cond_false, Bool.true_and, Bool.false_and, Bool.and_true, Bool.and_false, Bool.true_or, Bool.false_or, Bool.or_true, Bool.or_false, b2i_tt, b2i_ff]; rfl) | (simp [fiA, c_41, gi_sl, gi_sA, gi_sB, gi_si_s, gi_si_n, gl_si, gl_sA, gl_sB, gl_sl_s, gl_sl_n, gA_si, gA_sl, gA_sB, gA_sA_s, gA_sA_n, gB_si, gB_sl, gB_sA, gB_sB_s, gB_sB_n, Nat.reduceBEq]; done))).trans (lp_go h_1)), hP, hD, hS, lv_sub hl [3, 4, 5, 1, 0] rfl⟩
set_option maxHeartbeats 4000000 in
set_option maxRecDepth 100000 in
theorem c_draw (l : Launch) (D : va_G) (cI cJ : ClassId) (ad : Nat → Nat) (co fl ra li re wa pi : Ob) : CT l D (TY cI cJ) yX3_draw (.code yX3_draw cX3_draw 4 (none : Option FieldType)) 5 0 0 (XW ad cI cJ co fl ra li re wa pi) [.ref (ad 6), .ref (ad 2)] (QV D (TY cI cJ) (fun u => u = (XW ad cI cJ co fl ra li re (goThrough fl wa) (draw fl wa pi)))) := by
  refine ent (by decide) (Nat.le_of_ble_eq_true rfl) ?_
  intro p e s m below meth c ls A hx hb hr hg hown hml hlocks hnm hP hK hD hS hA hN hl
  have hl : lv_has ls 4 [(0, .ref (ad 6)), (1, .ref (ad 2))] := hl
  refine lv_aload_n hx hb dX3_draw_0 rfl (lv_at hl 0 rfl) ?_
  refine lv_aload_n hx hb dX3_draw_1 rfl (lv_at hl 1 rfl) ?_
  refine va_getN (D := D) (ci := 1) (v := .int (gi fl 1)) (C := RX1) (T := TX1) (N := 11) hx hb hg inGX1 hown hK hP 2 rfl rfl 8 (by decide) (hN.use nw_29) (fun _ h9 => h9) rfl dX3_draw_2 ?_
  refine va_put (D := D) (ci := 3) (v := .int (gi fl 1)) (C := RX3) (T := TX3) (N := 16) hx hb hg inGX3 tyX3 tyX3_ok nmX3 hown hK hP hD hS 6 rfl rfl 12 (by decide) (hg _ mw_228) (fun _ h9 => h9) rfl (tyX3_ok 12 (by decide)) rfl rfl (Nat.le_of_ble_eq_true rfl) dX3_draw_5 (fun H locs hP hD hS => ?_)
  have hP : va_P D vwCl (XW ad cI cJ co fl ra li re wa (si pi 0 (gi fl 1))) H := hP
  have hD : va_D A (XW ad cI cJ co fl ra li re wa (si pi 0 (gi fl 1))) := hD
  refine lv_aload_n hx hb dX3_draw_8 rfl (lv_at hl 0 rfl) ?_
  refine lv_iconst (v := 0) hx hb dX3_draw_9 (by decide) ?_
  refine va_put (D := D) (ci := 3) (v := .int 0) (C := RX3) (T := TX3) (N := 16) hx hb hg inGX3 tyX3 tyX3_ok nmX3 hown hK hP hD hS 6 rfl rfl 14 (by decide) (hg _ mw_265) (fun _ h9 => h9) rfl (tyX3_ok 14 (by decide)) rfl rfl (Nat.le_of_ble_eq_true rfl) dX3_draw_10 (fun H locs hP hD hS => ?_)
  have hP : va_P D vwCl (XW ad cI cJ co fl ra li re wa (si (si pi 0 (gi fl 1)) 2 0)) H := hP
  have hD : va_D A (XW ad cI cJ co fl ra li re wa (si (si pi 0 (gi fl 1)) 2 0)) := hD
  refine lv_aload_n hx hb dX3_draw_13 rfl (lv_at hl 0 rfl) ?_
  refine va_get (D := D) (ci := 3) (v := .ref (ad 7)) (C := RX3) (T := TX3) (N := 16) hx hb hg inGX3 hown hK hP 6 rfl rfl 0 (by decide) (hg _ mw_227) (fun _ h9 => h9) rfl dX3_draw_14 ?_
  refine lv_aload_n hx hb dX3_draw_17 rfl (lv_at hl 1 rfl) ?_
  refine kV (rV (q0 := 7) (ci := 6) hx hb hml hown hg hN hK hP hD (c_goThrough l D cI cJ ad co fl ra li re wa (si (si pi 0 (gi fl 1)) 2 0)) mw_266 mw_267 mw_268 mw_269 mw_208 pdv_X6_goThrough ⟨Nat.le_of_ble_eq_true rfl, Nat.le_of_ble_eq_true rfl⟩ rfl rfl rfl hl.1 rfl (Nat.le_of_ble_eq_true rfl) dX3_draw_18 ⟨Nat.le_of_ble_eq_true rfl, Nat.le_of_ble_eq_true rfl⟩) hD hS hA (fun u_1 H locs hp hP hD hS => ?_)
  obtain rfl := hp.symm
  have hP : va_P D vwCl (XW ad cI cJ co fl ra li re (goThrough fl wa) (si (si pi 0 (gi fl 1)) 2 0)) H := hP
  have hD : va_D A (XW ad cI cJ co fl ra li re (goThrough fl wa) (si (si pi 0 (gi fl 1)) 2 0)) := hD
  refine lv_aload_n hx hb dX3_draw_21 rfl (lv_at hl 0 rfl) ?_
  refine kV (rV (q0 := 6) (ci := 3) hx hb hml hown hg hN hK hP hD (c_setLayers l D cI cJ ad co fl ra li re (goThrough fl wa) (si (si pi 0 (gi fl 1)) 2 0)) mw_270 mw_271 mw_272 mw_273 mw_234 pdv_X3_setLayers ⟨Nat.le_of_ble_eq_true rfl, Nat.le_of_ble_eq_true rfl⟩ rfl rfl rfl hl.1 rfl (Nat.le_of_ble_eq_true rfl) dX3_draw_22 ⟨Nat.le_of_ble_eq_true rfl, Nat.le_of_ble_eq_true rfl⟩) hD hS hA (fun u_2 H locs hp hP hD hS => ?_)
  obtain rfl := hp.symm
  have hP : va_P D vwCl (XW ad cI cJ co fl ra li re (goThrough fl wa) (setLayers (goThrough fl wa) (si (si pi 0 (gi fl 1)) 2 0))) H := hP
  have hD : va_D A (XW ad cI cJ co fl ra li re (goThrough fl wa) (setLayers (goThrough fl wa) (si (si pi 0 (gi fl 1)) 2 0))) := hD
  refine lv_aload_n hx hb dX3_draw_25 rfl (lv_at hl 0 rfl) ?_
  refine kV (rV (q0 := 6) (ci := 3) hx hb hml hown hg hN hK hP hD (c_numberBends l D cI cJ ad co fl ra li re (goThrough fl wa) (setLayers (goThrough fl wa) (si (si pi 0 (gi fl 1)) 2 0))) mw_274 mw_275 mw_276 mw_277 mw_234 pdv_X3_numberBends ⟨Nat.le_of_ble_eq_true rfl, Nat.le_of_ble_eq_true rfl⟩ rfl rfl rfl hl.1 rfl (Nat.le_of_ble_eq_true rfl) dX3_draw_26 ⟨Nat.le_of_ble_eq_true rfl, Nat.le_of_ble_eq_true rfl⟩) hD hS hA (fun u_3 H locs hp hP hD hS => ?_)
  obtain rfl := hp.symm
  have hP : va_P D vwCl (XW ad cI cJ co fl ra li re (goThrough fl wa) (numberBends (goThrough fl wa) (setLayers (goThrough fl wa) (si (si pi 0 (gi fl 1)) 2 0)))) H := hP
  have hD : va_D A (XW ad cI cJ co fl ra li re (goThrough fl wa) (numberBends (goThrough fl wa) (setLayers (goThrough fl wa) (si (si pi 0 (gi fl 1)) 2 0)))) := hD
  refine lv_iconst (v := 0) hx hb dX3_draw_29 (by decide) ?_
  refine lv_istore_n (lv' := [(2, .int 0), (0, .ref (ad 6)), (1, .ref (ad 2))]) hx hb dX3_draw_30 rfl hl (by decide) rfl (fun ls hl => ?_)
  refine lv_iconst (v := 0) hx hb dX3_draw_31 (by decide) ?_
  refine lv_istore_n (lv' := [(3, .int 0), (2, .int 0), (0, .ref (ad 6)), (1, .ref (ad 2))]) hx hb dX3_draw_32 rfl hl (by decide) rfl (fun ls hl => ?_)
  refine w_loop (σ := Ob × Int32) (fun (i_4 : Nat) (p_4 : Ob × Int32) (H : Heap) (locs : List Loc) (ls : Array Slot) => p_4 = (lp (drStep (goThrough fl wa)) i_4 ((numberBends (goThrough fl wa) (setLayers (goThrough fl wa) (si (si pi 0 (gi fl 1)) 2 0))), 0)) ∧ va_P D vwCl (XW ad cI cJ co fl ra li re (goThrough fl wa) p_4.1) H ∧ va_D A (XW ad cI cJ co fl ra li re (goThrough fl wa) p_4.1) ∧ va_S A s.heap H locs ∧ lv_has ls 4 [(0, .ref (ad 6)), (1, .ref (ad 2)), (2, .int p_4.2), (3, .int (nI i_4))]) (nN (gi (numberBends (goThrough fl wa) (setLayers (goThrough fl wa) (si (si pi 0 (gi fl 1)) 2 0))) 1)) (fun p_4 H locs ls hI => ?_) (fun i_4 p_4 H locs ls hi_4 hI ih_4 => ?_) 0 ((numberBends (goThrough fl wa) (setLayers (goThrough fl wa) (si (si pi 0 (gi fl 1)) 2 0))), 0) (Nat.zero_le _) ⟨rfl, hP, hD, hS, (by rw [nI_0]; exact lv_sub hl [2, 3, 1, 0] rfl)⟩
  · obtain ⟨h_4, hP, hD, hS, hl⟩ := hI
    have h_4 := h_4.symm
    subst h_4
    have hP : va_P D vwCl (XW ad cI cJ co fl ra li re (goThrough fl wa) ((lp (drStep (goThrough fl wa)) (nN (gi (numberBends (goThrough fl wa) (setLayers (goThrough fl wa) (si (si pi 0 (gi fl 1)) 2 0))) 1)) ((numberBends (goThrough fl wa) (setLayers (goThrough fl wa) (si (si pi 0 (gi fl 1)) 2 0))), 0)).1)) H := hP
    have hD : va_D A (XW ad cI cJ co fl ra li re (goThrough fl wa) ((lp (drStep (goThrough fl wa)) (nN (gi (numberBends (goThrough fl wa) (setLayers (goThrough fl wa) (si (si pi 0 (gi fl 1)) 2 0))) 1)) ((numberBends (goThrough fl wa) (setLayers (goThrough fl wa) (si (si pi 0 (gi fl 1)) 2 0))), 0)).1)) := hD
    have hl : lv_has ls 4 [(0, .ref (ad 6)), (1, .ref (ad 2)), (2, .int ((lp (drStep (goThrough fl wa)) (nN (gi (numberBends (goThrough fl wa) (setLayers (goThrough fl wa) (si (si pi 0 (gi fl 1)) 2 0))) 1)) ((numberBends (goThrough fl wa) (setLayers (goThrough fl wa) (si (si pi 0 (gi fl 1)) 2 0))), 0)).2)), (3, .int (nI ((nN (gi (numberBends (goThrough fl wa) (setLayers (goThrough fl wa) (si (si pi 0 (gi fl 1)) 2 0))) 1)))))] := hl
    refine lv_iload_n hx hb dX3_draw_33 rfl (lv_at hl 3 rfl) ?_
    refine lv_aload_n hx hb dX3_draw_34 rfl (lv_at hl 0 rfl) ?_
    refine va_get (D := D) (ci := 3) (v := .int (gi ((lp (drStep (goThrough fl wa)) (nN (gi (numberBends (goThrough fl wa) (setLayers (goThrough fl wa) (si (si pi 0 (gi fl 1)) 2 0))) 1)) ((numberBends (goThrough fl wa) (setLayers (goThrough fl wa) (si (si pi 0 (gi fl 1)) 2 0))), 0)).1) 1)) (C := RX3) (T := TX3) (N := 16) hx hb hg inGX3 hown hK hP 6 rfl rfl 13 (by decide) (hg _ mw_235) (fun _ h9 => h9) rfl dX3_draw_35 ?_
    refine lv_icmp_ge (tgt := 63) hx hb dX3_draw_38 (by decide) (fun _ => ?_) (fun c_38 => absurd (by rw [k_drL]; exact lp_out _) c_38)
    refine lv_aload_n hx hb dX3_draw_63 rfl (lv_at hl 0 rfl) ?_
    refine va_get (D := D) (ci := 3) (v := .ref (ad 35)) (C := RX3) (T := TX3) (N := 16) hx hb hg inGX3 hown hK hP 6 rfl rfl 2 (by decide) (hg _ mw_256) (fun _ h9 => h9) rfl dX3_draw_64 ?_
    refine lv_aload_n hx hb dX3_draw_67 rfl (lv_at hl 0 rfl) ?_
    refine va_get (D := D) (ci := 3) (v := .int (gi ((lp (drStep (goThrough fl wa)) (nN (gi (numberBends (goThrough fl wa) (setLayers (goThrough fl wa) (si (si pi 0 (gi fl 1)) 2 0))) 1)) ((numberBends (goThrough fl wa) (setLayers (goThrough fl wa) (si (si pi 0 (gi fl 1)) 2 0))), 0)).1) 1)) (C := RX3) (T := TX3) (N := 16) hx hb hg inGX3 hown hK hP 6 rfl rfl 13 (by decide) (hg _ mw_235) (fun _ h9 => h9) rfl dX3_draw_68 ?_
    refine lv_iload_n hx hb dX3_draw_71 rfl (lv_at hl 2 rfl) ?_
    refine kV (rSN hx hb hml hown hg hN hK hP hD (c_put l D cI cJ (XW ad cI cJ co fl ra li re (goThrough fl wa) ((lp (drStep (goThrough fl wa)) (nN (gi (numberBends (goThrough fl wa) (setLayers (goThrough fl wa) (si (si pi 0 (gi fl 1)) 2 0))) 1)) ((numberBends (goThrough fl wa) (setLayers (goThrough fl wa) (si (si pi 0 (gi fl 1)) 2 0))), 0)).1)) 35 (ad 35) 41 (gA ((lp (drStep (goThrough fl wa)) (nN (gi (numberBends (goThrough fl wa) (setLayers (goThrough fl wa) (si (si pi 0 (gi fl 1)) 2 0))) 1)) ((numberBends (goThrough fl wa) (setLayers (goThrough fl wa) (si (si pi 0 (gi fl 1)) 2 0))), 0)).1) 1) (gi ((lp (drStep (goThrough fl wa)) (nN (gi (numberBends (goThrough fl wa) (setLayers (goThrough fl wa) (si (si pi 0 (gi fl 1)) 2 0))) 1)) ((numberBends (goThrough fl wa) (setLayers (goThrough fl wa) (si (si pi 0 (gi fl 1)) 2 0))), 0)).1) 1) ((lp (drStep (goThrough fl wa)) (nN (gi (numberBends (goThrough fl wa) (setLayers (goThrough fl wa) (si (si pi 0 (gi fl 1)) 2 0))) 1)) ((numberBends (goThrough fl wa) (setLayers (goThrough fl wa) (si (si pi 0 (gi fl 1)) 2 0))), 0)).2) rfl (by decide)) mw_92 nw_95 mw_93 mw_77 pd_X7_put ⟨Nat.le_of_ble_eq_true rfl, Nat.le_of_ble_eq_true rfl⟩ rfl hl.1 rfl (Nat.le_of_ble_eq_true rfl) dX3_draw_72 ⟨Nat.le_of_ble_eq_true rfl, Nat.le_of_ble_eq_true rfl⟩) hD hS hA (fun u_5 H locs hp hP hD hS => ?_)
    obtain rfl := hp.symm
    have hP : va_P D vwCl (XW ad cI cJ co fl ra li re (goThrough fl wa) (sA ((lp (drStep (goThrough fl wa)) (nN (gi (numberBends (goThrough fl wa) (setLayers (goThrough fl wa) (si (si pi 0 (gi fl 1)) 2 0))) 1)) ((numberBends (goThrough fl wa) (setLayers (goThrough fl wa) (si (si pi 0 (gi fl 1)) 2 0))), 0)).1) 1 (wr (gA ((lp (drStep (goThrough fl wa)) (nN (gi (numberBends (goThrough fl wa) (setLayers (goThrough fl wa) (si (si pi 0 (gi fl 1)) 2 0))) 1)) ((numberBends (goThrough fl wa) (setLayers (goThrough fl wa) (si (si pi 0 (gi fl 1)) 2 0))), 0)).1) 1) 41 (gi ((lp (drStep (goThrough fl wa)) (nN (gi (numberBends (goThrough fl wa) (setLayers (goThrough fl wa) (si (si pi 0 (gi fl 1)) 2 0))) 1)) ((numberBends (goThrough fl wa) (setLayers (goThrough fl wa) (si (si pi 0 (gi fl 1)) 2 0))), 0)).1) 1) ((lp (drStep (goThrough fl wa)) (nN (gi (numberBends (goThrough fl wa) (setLayers (goThrough fl wa) (si (si pi 0 (gi fl 1)) 2 0))) 1)) ((numberBends (goThrough fl wa) (setLayers (goThrough fl wa) (si (si pi 0 (gi fl 1)) 2 0))), 0)).2)))) H := hP
    have hD : va_D A (XW ad cI cJ co fl ra li re (goThrough fl wa) (sA ((lp (drStep (goThrough fl wa)) (nN (gi (numberBends (goThrough fl wa) (setLayers (goThrough fl wa) (si (si pi 0 (gi fl 1)) 2 0))) 1)) ((numberBends (goThrough fl wa) (setLayers (goThrough fl wa) (si (si pi 0 (gi fl 1)) 2 0))), 0)).1) 1 (wr (gA ((lp (drStep (goThrough fl wa)) (nN (gi (numberBends (goThrough fl wa) (setLayers (goThrough fl wa) (si (si pi 0 (gi fl 1)) 2 0))) 1)) ((numberBends (goThrough fl wa) (setLayers (goThrough fl wa) (si (si pi 0 (gi fl 1)) 2 0))), 0)).1) 1) 41 (gi ((lp (drStep (goThrough fl wa)) (nN (gi (numberBends (goThrough fl wa) (setLayers (goThrough fl wa) (si (si pi 0 (gi fl 1)) 2 0))) 1)) ((numberBends (goThrough fl wa) (setLayers (goThrough fl wa) (si (si pi 0 (gi fl 1)) 2 0))), 0)).1) 1) ((lp (drStep (goThrough fl wa)) (nN (gi (numberBends (goThrough fl wa) (setLayers (goThrough fl wa) (si (si pi 0 (gi fl 1)) 2 0))) 1)) ((numberBends (goThrough fl wa) (setLayers (goThrough fl wa) (si (si pi 0 (gi fl 1)) 2 0))), 0)).2)))) := hD
    exact W.vret hx hb hr (fun t ht hW => ⟨⟨(XW ad cI cJ co fl ra li re (goThrough fl wa) (sA ((lp (drStep (goThrough fl wa)) (nN (gi (numberBends (goThrough fl wa) (setLayers (goThrough fl wa) (si (si pi 0 (gi fl 1)) 2 0))) 1)) ((numberBends (goThrough fl wa) (setLayers (goThrough fl wa) (si (si pi 0 (gi fl 1)) 2 0))), 0)).1) 1 (wr (gA ((lp (drStep (goThrough fl wa)) (nN (gi (numberBends (goThrough fl wa) (setLayers (goThrough fl wa) (si (si pi 0 (gi fl 1)) 2 0))) 1)) ((numberBends (goThrough fl wa) (setLayers (goThrough fl wa) (si (si pi 0 (gi fl 1)) 2 0))), 0)).1) 1) 41 (gi ((lp (drStep (goThrough fl wa)) (nN (gi (numberBends (goThrough fl wa) (setLayers (goThrough fl wa) (si (si pi 0 (gi fl 1)) 2 0))) 1)) ((numberBends (goThrough fl wa) (setLayers (goThrough fl wa) (si (si pi 0 (gi fl 1)) 2 0))), 0)).1) 1) ((lp (drStep (goThrough fl wa)) (nN (gi (numberBends (goThrough fl wa) (setLayers (goThrough fl wa) (si (si pi 0 (gi fl 1)) 2 0))) 1)) ((numberBends (goThrough fl wa) (setLayers (goThrough fl wa) (si (si pi 0 (gi fl 1)) 2 0))), 0)).2)))), rfl, xw_eq rfl rfl rfl rfl rfl (show (goThrough fl wa) = (goThrough fl wa) from (by first | with_reducible rfl | (simp only [draw, drFill, drNum, gi_sl, gi_sA, gi_sB, gi_si_s, gi_si_n, gl_si, gl_sA, gl_sB, gl_sl_s, gl_sl_n, gA_si, gA_sl, gA_sB, gA_sA_s, gA_sA_n, gB_si, gB_sl, gB_sA, gB_sB_s, gB_sB_n, Nat.reduceBEq, if_true, if_false, eq_self, Bool.false_eq_true, reduceCtorEq, not_true_eq_false, not_false_eq_true, decide_true, decide_false, cond_true, cond_false, Bool.true_and, Bool.false_and, Bool.and_true, Bool.and_false, Bool.true_or, Bool.false_or, Bool.or_true, Bool.or_false, b2i_tt, b2i_ff]; done) | rfl)) (show (sA ((lp (drStep (goThrough fl wa)) (nN (gi (numberBends (goThrough fl wa) (setLayers (goThrough fl wa) (si (si pi 0 (gi fl 1)) 2 0))) 1)) ((numberBends (goThrough fl wa) (setLayers (goThrough fl wa) (si (si pi 0 (gi fl 1)) 2 0))), 0)).1) 1 (wr (gA ((lp (drStep (goThrough fl wa)) (nN (gi (numberBends (goThrough fl wa) (setLayers (goThrough fl wa) (si (si pi 0 (gi fl 1)) 2 0))) 1)) ((numberBends (goThrough fl wa) (setLayers (goThrough fl wa) (si (si pi 0 (gi fl 1)) 2 0))), 0)).1) 1) 41 (gi ((lp (drStep (goThrough fl wa)) (nN (gi (numberBends (goThrough fl wa) (setLayers (goThrough fl wa) (si (si pi 0 (gi fl 1)) 2 0))) 1)) ((numberBends (goThrough fl wa) (setLayers (goThrough fl wa) (si (si pi 0 (gi fl 1)) 2 0))), 0)).1) 1) ((lp (drStep (goThrough fl wa)) (nN (gi (numberBends (goThrough fl wa) (setLayers (goThrough fl wa) (si (si pi 0 (gi fl 1)) 2 0))) 1)) ((numberBends (goThrough fl wa) (setLayers (goThrough fl wa) (si (si pi 0 (gi fl 1)) 2 0))), 0)).2))) = (draw fl wa pi) from (by first | with_reducible rfl | (simp only [draw, drFill, drNum, gi_sl, gi_sA, gi_sB, gi_si_s, gi_si_n, gl_si, gl_sA, gl_sB, gl_sl_s, gl_sl_n, gA_si, gA_sl, gA_sB, gA_sA_s, gA_sA_n, gB_si, gB_sl, gB_sA, gB_sB_s, gB_sB_n, Nat.reduceBEq, if_true, if_false, eq_self, Bool.false_eq_true, reduceCtorEq, not_true_eq_false, not_false_eq_true, decide_true, decide_false, cond_true, cond_false, Bool.true_and, Bool.false_and, Bool.and_true, Bool.and_false, Bool.true_or, Bool.false_or, Bool.or_true, Bool.or_false, b2i_tt, b2i_ff]; done) | rfl)), ⟨by rw [ht]; exact hP, va_K.moved hW.alike hK, hD⟩⟩, hS.F ht⟩) hS.2.2 dX3_draw_75
  · obtain ⟨h_4, hP, hD, hS, hl⟩ := hI
    have hP : va_P D vwCl (XW ad cI cJ co fl ra li re (goThrough fl wa) p_4.1) H := hP
    have hD : va_D A (XW ad cI cJ co fl ra li re (goThrough fl wa) p_4.1) := hD
    have hl : lv_has ls 4 [(0, .ref (ad 6)), (1, .ref (ad 2)), (2, .int p_4.2), (3, .int (nI i_4))] := hl
    refine lv_iload_n hx hb dX3_draw_33 rfl (lv_at hl 3 rfl) ?_
    refine lv_aload_n hx hb dX3_draw_34 rfl (lv_at hl 0 rfl) ?_
    refine va_get (D := D) (ci := 3) (v := .int (gi p_4.1 1)) (C := RX3) (T := TX3) (N := 16) hx hb hg inGX3 hown hK hP 6 rfl rfl 13 (by decide) (hg _ mw_235) (fun _ h9 => h9) rfl dX3_draw_35 ?_
    refine lv_icmp_ge (tgt := 63) hx hb dX3_draw_38 (by decide) (fun c_38 => absurd c_38 (by rw [h_4, k_drL]; exact lp_in hi_4)) (fun _ => ?_)
    refine lv_aload_n hx hb dX3_draw_41 rfl (lv_at hl 0 rfl) ?_
    refine va_get (D := D) (ci := 3) (v := .ref (ad 35)) (C := RX3) (T := TX3) (N := 16) hx hb hg inGX3 hown hK hP 6 rfl rfl 2 (by decide) (hg _ mw_256) (fun _ h9 => h9) rfl dX3_draw_42 ?_
    refine lv_iload_n hx hb dX3_draw_45 rfl (lv_at hl 3 rfl) ?_
    refine lv_iload_n hx hb dX3_draw_46 rfl (lv_at hl 2 rfl) ?_
    refine kV (rSN hx hb hml hown hg hN hK hP hD (c_put l D cI cJ (XW ad cI cJ co fl ra li re (goThrough fl wa) p_4.1) 35 (ad 35) 41 (gA p_4.1 1) (nI i_4) p_4.2 rfl (by decide)) mw_92 nw_95 mw_93 mw_77 pd_X7_put ⟨Nat.le_of_ble_eq_true rfl, Nat.le_of_ble_eq_true rfl⟩ rfl hl.1 rfl (Nat.le_of_ble_eq_true rfl) dX3_draw_47 ⟨Nat.le_of_ble_eq_true rfl, Nat.le_of_ble_eq_true rfl⟩) hD hS hA (fun u_6 H locs hp hP hD hS => ?_)
    obtain rfl := hp.symm
    have hP : va_P D vwCl (XW ad cI cJ co fl ra li re (goThrough fl wa) (sA p_4.1 1 (wr (gA p_4.1 1) 41 (nI i_4) p_4.2))) H := hP
    have hD : va_D A (XW ad cI cJ co fl ra li re (goThrough fl wa) (sA p_4.1 1 (wr (gA p_4.1 1) 41 (nI i_4) p_4.2))) := hD
    refine lv_aload_n hx hb dX3_draw_50 rfl (lv_at hl 0 rfl) ?_
    refine lv_iload_n hx hb dX3_draw_51 rfl (lv_at hl 3 rfl) ?_
    refine lv_iload_n hx hb dX3_draw_52 rfl (lv_at hl 2 rfl) ?_
    refine kI (rV (q0 := 6) (ci := 3) hx hb hml hown hg hN hK hP hD (c_fill l D cI cJ ad co fl ra li re (goThrough fl wa) (sA p_4.1 1 (wr (gA p_4.1 1) 41 (nI i_4) p_4.2)) (nI i_4) p_4.2) mw_278 mw_279 mw_280 mw_281 mw_234 pdv_X3_fill ⟨Nat.le_of_ble_eq_true rfl, Nat.le_of_ble_eq_true rfl⟩ rfl rfl rfl hl.1 rfl (Nat.le_of_ble_eq_true rfl) dX3_draw_53 ⟨Nat.le_of_ble_eq_true rfl, Nat.le_of_ble_eq_true rfl⟩) hD hS hA (fun r_7 u_7 H locs hp hP hD hS => ?_)
    obtain ⟨er, eu⟩ := hp
    obtain rfl := er.symm
    obtain rfl := eu.symm
    have hP : va_P D vwCl (XW ad cI cJ co fl ra li re (goThrough fl wa) (fill (goThrough fl wa) (sA p_4.1 1 (wr (gA p_4.1 1) 41 (nI i_4) p_4.2)) (nI i_4) p_4.2).1) H := hP
    have hD : va_D A (XW ad cI cJ co fl ra li re (goThrough fl wa) (fill (goThrough fl wa) (sA p_4.1 1 (wr (gA p_4.1 1) 41 (nI i_4) p_4.2)) (nI i_4) p_4.2).1) := hD
    refine lv_istore_n (lv' := [(2, .int (fill (goThrough fl wa) (sA p_4.1 1 (wr (gA p_4.1 1) 41 (nI i_4) p_4.2)) (nI i_4) p_4.2).2), (0, .ref (ad 6)), (1, .ref (ad 2)), (3, .int (nI i_4))]) hx hb dX3_draw_56 rfl hl (by decide) rfl (fun ls hl => ?_)
    refine lv_iinc (v := (nI (i_4 + 1))) (lv' := [(3, .int (nI (i_4 + 1))), (2, .int (fill (goThrough fl wa) (sA p_4.1 1 (wr (gA p_4.1 1) 41 (nI i_4) p_4.2)) (nI i_4) p_4.2).2), (0, .ref (ad 6)), (1, .ref (ad 2))]) hx hb dX3_draw_57 hl (k := 3) rfl (nI_1 i_4) (by decide) rfl (fun ls hl => ?_)
    refine lv_goto (tgt := 33) hx hb dX3_draw_60 (by decide) ?_
    exact ih_4 ((fill (goThrough fl wa) (sA p_4.1 1 (wr (gA p_4.1 1) 41 (nI i_4) p_4.2)) (nI i_4) p_4.2).1, (fill (goThrough fl wa) (sA p_4.1 1 (wr (gA p_4.1 1) 41 (nI i_4) p_4.2)) (nI i_4) p_4.2).2) H locs ls ⟨((show ((fill (goThrough fl wa) (sA p_4.1 1 (wr (gA p_4.1 1) 41 (nI i_4) p_4.2)) (nI i_4) p_4.2).1, (fill (goThrough fl wa) (sA p_4.1 1 (wr (gA p_4.1 1) 41 (nI i_4) p_4.2)) (nI i_4) p_4.2).2) = (drStep (goThrough fl wa)) i_4 p_4 from (by first | with_reducible rfl | (simp only [drStep, gi_sl, gi_sA, gi_sB, gi_si_s, gi_si_n, gl_si, gl_sA, gl_sB, gl_sl_s, gl_sl_n, gA_si, gA_sl, gA_sB, gA_sA_s, gA_sA_n, gB_si, gB_sl, gB_sA, gB_sB_s, gB_sB_n, Nat.reduceBEq, if_true, if_false, eq_self, Bool.false_eq_true, reduceCtorEq, not_true_eq_false, not_false_eq_true, decide_true, decide_false, cond_true, cond_false, Bool.true_and, Bool.false_and, Bool.and_true, Bool.and_false, Bool.true_or, Bool.false_or, Bool.or_true, Bool.or_false, b2i_tt, b2i_ff]; done) | rfl)).trans (lp_go h_4)), hP, hD, hS, lv_sub hl [2, 3, 1, 0] rfl⟩
set_option maxHeartbeats 4000000 in
set_option maxRecDepth 100000 in
theorem c_sizeOf (l : Launch) (D : va_G) (cI cJ : ClassId) (ad : Nat → Nat) (co fl ra li re wa pi : Ob) (k1 : Int32) : CT l D (TY cI cJ) yX3_sizeOf (.code yX3_sizeOf cX3_sizeOf 2 (some Jvm.ClassFile.FieldType.int)) 1 0 0 (XW ad cI cJ co fl ra li re wa pi) [.ref (ad 6), .int k1] (QI D (TY cI cJ) (fun r u => r = (sizeOf pi k1) ∧ u = (XW ad cI cJ co fl ra li re wa pi))) := by
  refine ent (by decide) (Nat.le_of_ble_eq_true rfl) ?_
  intro p e s m below meth c ls A hx hb hr hg hown hml hlocks hnm hP hK hD hS hA hN hl
  have hl : lv_has ls 2 [(0, .ref (ad 6)), (1, .int k1)] := hl
  refine lv_aload_n hx hb dX3_sizeOf_0 rfl (lv_at hl 0 rfl) ?_
  refine va_get (D := D) (ci := 3) (v := .ref (ad 35)) (C := RX3) (T := TX3) (N := 16) hx hb hg inGX3 hown hK hP 6 rfl rfl 2 (by decide) (hg _ mw_256) (fun _ h9 => h9) rfl dX3_sizeOf_1 ?_
  refine lv_iload_n hx hb dX3_sizeOf_4 rfl (lv_at hl 1 rfl) ?_
  refine lv_iconst (v := 1) hx hb dX3_sizeOf_5 (by decide) ?_
  refine lv_iadd hx hb dX3_sizeOf_6 ?_
  refine kI (rSN hx hb hml hown hg hN hK hP hD (c_at l D cI cJ (XW ad cI cJ co fl ra li re wa pi) 35 (ad 35) 41 (gA pi 1) (k1 + 1) rfl (by decide)) mw_84 nw_96 mw_85 mw_77 pd_X7_at ⟨Nat.le_of_ble_eq_true rfl, Nat.le_of_ble_eq_true rfl⟩ rfl hl.1 rfl (Nat.le_of_ble_eq_true rfl) dX3_sizeOf_7 ⟨Nat.le_of_ble_eq_true rfl, Nat.le_of_ble_eq_true rfl⟩) hD hS hA (fun r_1 u_1 H locs hp hP hD hS => ?_)
  obtain ⟨er, eu⟩ := hp
  obtain rfl := er.symm
  obtain rfl := eu.symm
  refine lv_aload_n hx hb dX3_sizeOf_10 rfl (lv_at hl 0 rfl) ?_
  refine va_get (D := D) (ci := 3) (v := .ref (ad 35)) (C := RX3) (T := TX3) (N := 16) hx hb hg inGX3 hown hK hP 6 rfl rfl 2 (by decide) (hg _ mw_256) (fun _ h9 => h9) rfl dX3_sizeOf_11 ?_
  refine lv_iload_n hx hb dX3_sizeOf_14 rfl (lv_at hl 1 rfl) ?_
  refine kI (rSN hx hb hml hown hg hN hK hP hD (c_at l D cI cJ (XW ad cI cJ co fl ra li re wa pi) 35 (ad 35) 41 (gA pi 1) k1 rfl (by decide)) mw_84 nw_96 mw_85 mw_77 pd_X7_at ⟨Nat.le_of_ble_eq_true rfl, Nat.le_of_ble_eq_true rfl⟩ rfl hl.1 rfl (Nat.le_of_ble_eq_true rfl) dX3_sizeOf_15 ⟨Nat.le_of_ble_eq_true rfl, Nat.le_of_ble_eq_true rfl⟩) hD hS hA (fun r_2 u_2 H locs hp hP hD hS => ?_)
  obtain ⟨er, eu⟩ := hp
  obtain rfl := er.symm
  obtain rfl := eu.symm
  refine lv_isub hx hb dX3_sizeOf_18 ?_
  exact W.iret (v := ((rd (gA pi 1) 41 (k1 + 1)) - (rd (gA pi 1) 41 k1))) hx hb hr (fun t ht hW => ⟨⟨((rd (gA pi 1) 41 (k1 + 1)) - (rd (gA pi 1) 41 k1)), (XW ad cI cJ co fl ra li re wa pi), rfl, ⟨(show (((rd (gA pi 1) 41 (k1 + 1)) - (rd (gA pi 1) 41 k1)) : Int32) = (sizeOf pi k1) from (by first | with_reducible rfl | (simp only [sizeOf, gi_sl, gi_sA, gi_sB, gi_si_s, gi_si_n, gl_si, gl_sA, gl_sB, gl_sl_s, gl_sl_n, gA_si, gA_sl, gA_sB, gA_sA_s, gA_sA_n, gB_si, gB_sl, gB_sA, gB_sB_s, gB_sB_n, Nat.reduceBEq, if_true, if_false, eq_self, Bool.false_eq_true, reduceCtorEq, not_true_eq_false, not_false_eq_true, decide_true, decide_false, cond_true, cond_false, Bool.true_and, Bool.false_and, Bool.and_true, Bool.and_false, Bool.true_or, Bool.false_or, Bool.or_true, Bool.or_false, b2i_tt, b2i_ff]; done) | rfl)), xw_eq rfl rfl rfl rfl rfl rfl rfl⟩, ⟨by rw [ht]; exact hP, va_K.moved hW.alike hK, hD⟩⟩, hS.F ht⟩) hS.2.2 dX3_sizeOf_19
set_option maxHeartbeats 4000000 in
set_option maxRecDepth 100000 in
theorem c_shownAt (l : Launch) (D : va_G) (cI cJ : ClassId) (ad : Nat → Nat) (co fl ra li re wa pi : Ob) (k1 : Int32) (k2 : Int32) : CT l D (TY cI cJ) yX3_shownAt (.code yX3_shownAt cX3_shownAt 4 (some Jvm.ClassFile.FieldType.int)) 1 0 0 (XW ad cI cJ co fl ra li re wa pi) [.ref (ad 6), .int k1, .int k2] (QI D (TY cI cJ) (fun r u => r = (shownAt pi k1 k2) ∧ u = (XW ad cI cJ co fl ra li re wa pi))) := by
  refine ent (by decide) (Nat.le_of_ble_eq_true rfl) ?_
  intro p e s m below meth c ls A hx hb hr hg hown hml hlocks hnm hP hK hD hS hA hN hl
  have hl : lv_has ls 4 [(0, .ref (ad 6)), (1, .int k1), (2, .int k2)] := hl
  refine lv_aload_n hx hb dX3_shownAt_0 rfl (lv_at hl 0 rfl) ?_
  refine va_get (D := D) (ci := 3) (v := .ref (ad 38)) (C := RX3) (T := TX3) (N := 16) hx hb hg inGX3 hown hK hP 6 rfl rfl 5 (by decide) (hg _ mw_254) (fun _ h9 => h9) rfl dX3_shownAt_1 ?_
  refine lv_aload_n hx hb dX3_shownAt_4 rfl (lv_at hl 0 rfl) ?_
  refine va_get (D := D) (ci := 3) (v := .ref (ad 35)) (C := RX3) (T := TX3) (N := 16) hx hb hg inGX3 hown hK hP 6 rfl rfl 2 (by decide) (hg _ mw_256) (fun _ h9 => h9) rfl dX3_shownAt_5 ?_
  refine lv_iload_n hx hb dX3_shownAt_8 rfl (lv_at hl 1 rfl) ?_
  refine kI (rSN hx hb hml hown hg hN hK hP hD (c_at l D cI cJ (XW ad cI cJ co fl ra li re wa pi) 35 (ad 35) 41 (gA pi 1) k1 rfl (by decide)) mw_84 nw_96 mw_85 mw_77 pd_X7_at ⟨Nat.le_of_ble_eq_true rfl, Nat.le_of_ble_eq_true rfl⟩ rfl hl.1 rfl (Nat.le_of_ble_eq_true rfl) dX3_shownAt_9 ⟨Nat.le_of_ble_eq_true rfl, Nat.le_of_ble_eq_true rfl⟩) hD hS hA (fun r_1 u_1 H locs hp hP hD hS => ?_)
  obtain ⟨er, eu⟩ := hp
  obtain rfl := er.symm
  obtain rfl := eu.symm
  refine lv_iload_n hx hb dX3_shownAt_12 rfl (lv_at hl 2 rfl) ?_
  refine lv_iadd hx hb dX3_shownAt_13 ?_
  refine kI (rSN hx hb hml hown hg hN hK hP hD (c_at l D cI cJ (XW ad cI cJ co fl ra li re wa pi) 38 (ad 38) 1600 (gA pi 4) ((rd (gA pi 1) 41 k1) + k2) rfl (by decide)) mw_84 nw_96 mw_85 mw_77 pd_X7_at ⟨Nat.le_of_ble_eq_true rfl, Nat.le_of_ble_eq_true rfl⟩ rfl hl.1 rfl (Nat.le_of_ble_eq_true rfl) dX3_shownAt_14 ⟨Nat.le_of_ble_eq_true rfl, Nat.le_of_ble_eq_true rfl⟩) hD hS hA (fun r_2 u_2 H locs hp hP hD hS => ?_)
  obtain ⟨er, eu⟩ := hp
  obtain rfl := er.symm
  obtain rfl := eu.symm
  refine lv_istore_n (lv' := [(3, .int (rd (gA pi 4) 1600 ((rd (gA pi 1) 41 k1) + k2))), (0, .ref (ad 6)), (1, .int k1), (2, .int k2)]) hx hb dX3_shownAt_17 rfl hl (by decide) rfl (fun ls hl => ?_)
  refine lv_iload_n hx hb dX3_shownAt_18 rfl (lv_at hl 0 rfl) ?_
  refine lv_bipush (v := 40) hx hb dX3_shownAt_19 (by decide) ?_
  refine lv_icmp_ge (tgt := 28) hx hb dX3_shownAt_21 (by decide) (fun c_21 => ?_) (fun c_21 => ?_)
  · have c_21 : ¬ (rd (gA pi 4) 1600 ((rd (gA pi 1) 41 k1) + k2)) < 40 := i_ge c_21
    refine lv_iconst (v := (-1)) hx hb dX3_shownAt_28 (by decide) ?_
    refine lv_aload_n hx hb dX3_shownAt_29 rfl (lv_at hl 1 rfl) ?_
    refine va_get (D := D) (ci := 3) (v := .ref (ad 37)) (C := RX3) (T := TX3) (N := 16) hx hb hg inGX3 hown hK hP 6 rfl rfl 4 (by decide) (hg _ mw_253) (fun _ h9 => h9) rfl dX3_shownAt_30 ?_
    refine lv_iload_n hx hb dX3_shownAt_33 rfl (lv_at hl 0 rfl) ?_
    refine kI (rSN hx hb hml hown hg hN hK hP hD (c_at l D cI cJ (XW ad cI cJ co fl ra li re wa pi) 37 (ad 37) 1600 (gA pi 3) (rd (gA pi 4) 1600 ((rd (gA pi 1) 41 k1) + k2)) rfl (by decide)) mw_84 nw_96 mw_85 mw_77 pd_X7_at ⟨Nat.le_of_ble_eq_true rfl, Nat.le_of_ble_eq_true rfl⟩ rfl hl.1 rfl (Nat.le_of_ble_eq_true rfl) dX3_shownAt_34 ⟨Nat.le_of_ble_eq_true rfl, Nat.le_of_ble_eq_true rfl⟩) hD hS hA (fun r_3 u_3 H locs hp hP hD hS => ?_)
    obtain ⟨er, eu⟩ := hp
    obtain rfl := er.symm
    obtain rfl := eu.symm
    refine lv_isub hx hb dX3_shownAt_37 ?_
    exact W.iret (v := ((-1) - (rd (gA pi 3) 1600 (rd (gA pi 4) 1600 ((rd (gA pi 1) 41 k1) + k2))))) hx hb hr (fun t ht hW => ⟨⟨((-1) - (rd (gA pi 3) 1600 (rd (gA pi 4) 1600 ((rd (gA pi 1) 41 k1) + k2)))), (XW ad cI cJ co fl ra li re wa pi), rfl, ⟨(show (((-1) - (rd (gA pi 3) 1600 (rd (gA pi 4) 1600 ((rd (gA pi 1) 41 k1) + k2)))) : Int32) = (shownAt pi k1 k2) from (by first | (simp only [shownAt, shPt, if_neg c_21, decide_eq_false c_21, decide_eq_true c_21, if_pos c_21, gi_sl, gi_sA, gi_sB, gi_si_s, gi_si_n, gl_si, gl_sA, gl_sB, gl_sl_s, gl_sl_n, gA_si, gA_sl, gA_sB, gA_sA_s, gA_sA_n, gB_si, gB_sl, gB_sA, gB_sB_s, gB_sB_n, Nat.reduceBEq, if_true, if_false, eq_self, Bool.false_eq_true, reduceCtorEq, not_true_eq_false, not_false_eq_true, decide_true, decide_false, cond_true, cond_false, Bool.true_and, Bool.false_and, Bool.and_true, Bool.and_false, Bool.true_or, Bool.false_or, Bool.or_true, Bool.or_false, b2i_tt, b2i_ff]; done) | (simp only [shownAt, shPt, if_neg c_21, decide_eq_false c_21, decide_eq_true c_21, if_pos c_21, gi_sl, gi_sA, gi_sB, gi_si_s, gi_si_n, gl_si, gl_sA, gl_sB, gl_sl_s, gl_sl_n, gA_si, gA_sl, gA_sB, gA_sA_s, gA_sA_n, gB_si, gB_sl, gB_sA, gB_sB_s, gB_sB_n, Nat.reduceBEq, if_true, if_false, eq_self, Bool.false_eq_true, reduceCtorEq, not_true_eq_false, not_false_eq_true, decide_true, decide_false, cond_true, cond_false, Bool.true_and, Bool.false_and, Bool.and_true, Bool.and_false, Bool.true_or, Bool.false_or, Bool.or_true, Bool.or_false, b2i_tt, b2i_ff]; rfl) | (simp [shownAt, shPt, c_21, gi_sl, gi_sA, gi_sB, gi_si_s, gi_si_n, gl_si, gl_sA, gl_sB, gl_sl_s, gl_sl_n, gA_si, gA_sl, gA_sB, gA_sA_s, gA_sA_n, gB_si, gB_sl, gB_sA, gB_sB_s, gB_sB_n, Nat.reduceBEq]; done))), xw_eq rfl rfl rfl rfl rfl rfl rfl⟩, ⟨by rw [ht]; exact hP, va_K.moved hW.alike hK, hD⟩⟩, hS.F ht⟩) hS.2.2 dX3_shownAt_38
  · have c_21 : (rd (gA pi 4) 1600 ((rd (gA pi 1) 41 k1) + k2)) < 40 := i_nge c_21
    refine lv_iload_n hx hb dX3_shownAt_24 rfl (lv_at hl 0 rfl) ?_
    refine lv_goto (tgt := 38) hx hb dX3_shownAt_25 (by decide) ?_
    exact W.iret (v := (rd (gA pi 4) 1600 ((rd (gA pi 1) 41 k1) + k2))) hx hb hr (fun t ht hW => ⟨⟨(rd (gA pi 4) 1600 ((rd (gA pi 1) 41 k1) + k2)), (XW ad cI cJ co fl ra li re wa pi), rfl, ⟨(show ((rd (gA pi 4) 1600 ((rd (gA pi 1) 41 k1) + k2)) : Int32) = (shownAt pi k1 k2) from (by first | (simp only [shownAt, shPt, if_pos c_21, decide_eq_true c_21, decide_eq_false (not_not_intro c_21), gi_sl, gi_sA, gi_sB, gi_si_s, gi_si_n, gl_si, gl_sA, gl_sB, gl_sl_s, gl_sl_n, gA_si, gA_sl, gA_sB, gA_sA_s, gA_sA_n, gB_si, gB_sl, gB_sA, gB_sB_s, gB_sB_n, Nat.reduceBEq, if_true, if_false, eq_self, Bool.false_eq_true, reduceCtorEq, not_true_eq_false, not_false_eq_true, decide_true, decide_false, cond_true, cond_false, Bool.true_and, Bool.false_and, Bool.and_true, Bool.and_false, Bool.true_or, Bool.false_or, Bool.or_true, Bool.or_false, b2i_tt, b2i_ff]; done) | (simp only [shownAt, shPt, if_pos c_21, decide_eq_true c_21, decide_eq_false (not_not_intro c_21), gi_sl, gi_sA, gi_sB, gi_si_s, gi_si_n, gl_si, gl_sA, gl_sB, gl_sl_s, gl_sl_n, gA_si, gA_sl, gA_sB, gA_sA_s, gA_sA_n, gB_si, gB_sl, gB_sA, gB_sB_s, gB_sB_n, Nat.reduceBEq, if_true, if_false, eq_self, Bool.false_eq_true, reduceCtorEq, not_true_eq_false, not_false_eq_true, decide_true, decide_false, cond_true, cond_false, Bool.true_and, Bool.false_and, Bool.and_true, Bool.and_false, Bool.true_or, Bool.false_or, Bool.or_true, Bool.or_false, b2i_tt, b2i_ff]; rfl) | (simp [shownAt, shPt, c_21, gi_sl, gi_sA, gi_sB, gi_si_s, gi_si_n, gl_si, gl_sA, gl_sB, gl_sl_s, gl_sl_n, gA_si, gA_sl, gA_sB, gA_sA_s, gA_sA_n, gB_si, gB_sl, gB_sA, gB_sB_s, gB_sB_n, Nat.reduceBEq]; done))), xw_eq rfl rfl rfl rfl rfl rfl rfl⟩, ⟨by rw [ht]; exact hP, va_K.moved hW.alike hK, hD⟩⟩, hS.F ht⟩) hS.2.2 dX3_shownAt_38
set_option maxHeartbeats 4000000 in
set_option maxRecDepth 100000 in
theorem c_placeB (l : Launch) (D : va_G) (cI cJ : ClassId) (ad : Nat → Nat) (co fl ra li re wa pi : Ob) (k1 : Int32) : CT l D (TY cI cJ) yX3_placeOfBlock (.code yX3_placeOfBlock cX3_placeOfBlock 2 (some Jvm.ClassFile.FieldType.int)) 1 0 0 (XW ad cI cJ co fl ra li re wa pi) [.ref (ad 6), .int k1] (QI D (TY cI cJ) (fun r u => r = (placeB pi k1) ∧ u = (XW ad cI cJ co fl ra li re wa pi))) := by
  refine ent (by decide) (Nat.le_of_ble_eq_true rfl) ?_
  intro p e s m below meth c ls A hx hb hr hg hown hml hlocks hnm hP hK hD hS hA hN hl
  have hl : lv_has ls 2 [(0, .ref (ad 6)), (1, .int k1)] := hl
  refine lv_aload_n hx hb dX3_placeOfBlock_0 rfl (lv_at hl 0 rfl) ?_
  refine va_get (D := D) (ci := 3) (v := .ref (ad 34)) (C := RX3) (T := TX3) (N := 16) hx hb hg inGX3 hown hK hP 6 rfl rfl 1 (by decide) (hg _ mw_226) (fun _ h9 => h9) rfl dX3_placeOfBlock_1 ?_
  refine lv_iload_n hx hb dX3_placeOfBlock_4 rfl (lv_at hl 1 rfl) ?_
  refine kI (rSN hx hb hml hown hg hN hK hP hD (c_at l D cI cJ (XW ad cI cJ co fl ra li re wa pi) 34 (ad 34) 40 (gA pi 0) k1 rfl (by decide)) mw_84 nw_96 mw_85 mw_77 pd_X7_at ⟨Nat.le_of_ble_eq_true rfl, Nat.le_of_ble_eq_true rfl⟩ rfl hl.1 rfl (Nat.le_of_ble_eq_true rfl) dX3_placeOfBlock_5 ⟨Nat.le_of_ble_eq_true rfl, Nat.le_of_ble_eq_true rfl⟩) hD hS hA (fun r_1 u_1 H locs hp hP hD hS => ?_)
  obtain ⟨er, eu⟩ := hp
  obtain rfl := er.symm
  obtain rfl := eu.symm
  refine lv_if_ge (tgt := 15) hx hb dX3_placeOfBlock_8 (by decide) (fun c_8 => ?_) (fun c_8 => ?_)
  · have c_8 : ¬ (rd (gA pi 0) 40 k1) < 0 := i_ge c_8
    refine lv_aload_n hx hb dX3_placeOfBlock_15 rfl (lv_at hl 0 rfl) ?_
    refine va_get (D := D) (ci := 3) (v := .ref (ad 39)) (C := RX3) (T := TX3) (N := 16) hx hb hg inGX3 hown hK hP 6 rfl rfl 6 (by decide) (hg _ mw_255) (fun _ h9 => h9) rfl dX3_placeOfBlock_16 ?_
    refine lv_iload_n hx hb dX3_placeOfBlock_19 rfl (lv_at hl 1 rfl) ?_
    refine kI (rSN hx hb hml hown hg hN hK hP hD (c_at l D cI cJ (XW ad cI cJ co fl ra li re wa pi) 39 (ad 39) 1600 (gA pi 5) k1 rfl (by decide)) mw_84 nw_96 mw_85 mw_77 pd_X7_at ⟨Nat.le_of_ble_eq_true rfl, Nat.le_of_ble_eq_true rfl⟩ rfl hl.1 rfl (Nat.le_of_ble_eq_true rfl) dX3_placeOfBlock_20 ⟨Nat.le_of_ble_eq_true rfl, Nat.le_of_ble_eq_true rfl⟩) hD hS hA (fun r_2 u_2 H locs hp hP hD hS => ?_)
    obtain ⟨er, eu⟩ := hp
    obtain rfl := er.symm
    obtain rfl := eu.symm
    exact W.iret (v := (rd (gA pi 5) 1600 k1)) hx hb hr (fun t ht hW => ⟨⟨(rd (gA pi 5) 1600 k1), (XW ad cI cJ co fl ra li re wa pi), rfl, ⟨(show ((rd (gA pi 5) 1600 k1) : Int32) = (placeB pi k1) from (by first | (simp only [placeB, if_neg c_8, decide_eq_false c_8, decide_eq_true c_8, if_pos c_8, gi_sl, gi_sA, gi_sB, gi_si_s, gi_si_n, gl_si, gl_sA, gl_sB, gl_sl_s, gl_sl_n, gA_si, gA_sl, gA_sB, gA_sA_s, gA_sA_n, gB_si, gB_sl, gB_sA, gB_sB_s, gB_sB_n, Nat.reduceBEq, if_true, if_false, eq_self, Bool.false_eq_true, reduceCtorEq, not_true_eq_false, not_false_eq_true, decide_true, decide_false, cond_true, cond_false, Bool.true_and, Bool.false_and, Bool.and_true, Bool.and_false, Bool.true_or, Bool.false_or, Bool.or_true, Bool.or_false, b2i_tt, b2i_ff]; done) | (simp only [placeB, if_neg c_8, decide_eq_false c_8, decide_eq_true c_8, if_pos c_8, gi_sl, gi_sA, gi_sB, gi_si_s, gi_si_n, gl_si, gl_sA, gl_sB, gl_sl_s, gl_sl_n, gA_si, gA_sl, gA_sB, gA_sA_s, gA_sA_n, gB_si, gB_sl, gB_sA, gB_sB_s, gB_sB_n, Nat.reduceBEq, if_true, if_false, eq_self, Bool.false_eq_true, reduceCtorEq, not_true_eq_false, not_false_eq_true, decide_true, decide_false, cond_true, cond_false, Bool.true_and, Bool.false_and, Bool.and_true, Bool.and_false, Bool.true_or, Bool.false_or, Bool.or_true, Bool.or_false, b2i_tt, b2i_ff]; rfl) | (simp [placeB, c_8, gi_sl, gi_sA, gi_sB, gi_si_s, gi_si_n, gl_si, gl_sA, gl_sB, gl_sl_s, gl_sl_n, gA_si, gA_sl, gA_sB, gA_sA_s, gA_sA_n, gB_si, gB_sl, gB_sA, gB_sB_s, gB_sB_n, Nat.reduceBEq]; done))), xw_eq rfl rfl rfl rfl rfl rfl rfl⟩, ⟨by rw [ht]; exact hP, va_K.moved hW.alike hK, hD⟩⟩, hS.F ht⟩) hS.2.2 dX3_placeOfBlock_23
  · have c_8 : (rd (gA pi 0) 40 k1) < 0 := i_nge c_8
    refine lv_iconst (v := (-1)) hx hb dX3_placeOfBlock_11 (by decide) ?_
    refine lv_goto (tgt := 23) hx hb dX3_placeOfBlock_12 (by decide) ?_
    exact W.iret (v := (-1)) hx hb hr (fun t ht hW => ⟨⟨(-1), (XW ad cI cJ co fl ra li re wa pi), rfl, ⟨(show ((-1) : Int32) = (placeB pi k1) from (by first | (simp only [placeB, if_pos c_8, decide_eq_true c_8, decide_eq_false (not_not_intro c_8), gi_sl, gi_sA, gi_sB, gi_si_s, gi_si_n, gl_si, gl_sA, gl_sB, gl_sl_s, gl_sl_n, gA_si, gA_sl, gA_sB, gA_sA_s, gA_sA_n, gB_si, gB_sl, gB_sA, gB_sB_s, gB_sB_n, Nat.reduceBEq, if_true, if_false, eq_self, Bool.false_eq_true, reduceCtorEq, not_true_eq_false, not_false_eq_true, decide_true, decide_false, cond_true, cond_false, Bool.true_and, Bool.false_and, Bool.and_true, Bool.and_false, Bool.true_or, Bool.false_or, Bool.or_true, Bool.or_false, b2i_tt, b2i_ff]; done) | (simp only [placeB, if_pos c_8, decide_eq_true c_8, decide_eq_false (not_not_intro c_8), gi_sl, gi_sA, gi_sB, gi_si_s, gi_si_n, gl_si, gl_sA, gl_sB, gl_sl_s, gl_sl_n, gA_si, gA_sl, gA_sB, gA_sA_s, gA_sA_n, gB_si, gB_sl, gB_sA, gB_sB_s, gB_sB_n, Nat.reduceBEq, if_true, if_false, eq_self, Bool.false_eq_true, reduceCtorEq, not_true_eq_false, not_false_eq_true, decide_true, decide_false, cond_true, cond_false, Bool.true_and, Bool.false_and, Bool.and_true, Bool.and_false, Bool.true_or, Bool.false_or, Bool.or_true, Bool.or_false, b2i_tt, b2i_ff]; rfl) | (simp [placeB, c_8, gi_sl, gi_sA, gi_sB, gi_si_s, gi_si_n, gl_si, gl_sA, gl_sB, gl_sl_s, gl_sl_n, gA_si, gA_sl, gA_sB, gA_sA_s, gA_sA_n, gB_si, gB_sl, gB_sA, gB_sB_s, gB_sB_n, Nat.reduceBEq]; done))), xw_eq rfl rfl rfl rfl rfl rfl rfl⟩, ⟨by rw [ht]; exact hP, va_K.moved hW.alike hK, hD⟩⟩, hS.F ht⟩) hS.2.2 dX3_placeOfBlock_23
set_option maxHeartbeats 4000000 in
set_option maxRecDepth 100000 in
theorem c_placeBend (l : Launch) (D : va_G) (cI cJ : ClassId) (ad : Nat → Nat) (co fl ra li re wa pi : Ob) (k1 : Int32) (k2 : Int32) : CT l D (TY cI cJ) yX3_placeOfBend (.code yX3_placeOfBend cX3_placeOfBend 3 (some Jvm.ClassFile.FieldType.int)) 1 0 0 (XW ad cI cJ co fl ra li re wa pi) [.ref (ad 6), .int k1, .int k2] (QI D (TY cI cJ) (fun r u => r = (placeBend pi k1 k2) ∧ u = (XW ad cI cJ co fl ra li re wa pi))) := by
  refine ent (by decide) (Nat.le_of_ble_eq_true rfl) ?_
  intro p e s m below meth c ls A hx hb hr hg hown hml hlocks hnm hP hK hD hS hA hN hl
  have hl : lv_has ls 3 [(0, .ref (ad 6)), (1, .int k1), (2, .int k2)] := hl
  refine lv_aload_n hx hb dX3_placeOfBend_0 rfl (lv_at hl 0 rfl) ?_
  refine va_get (D := D) (ci := 3) (v := .ref (ad 39)) (C := RX3) (T := TX3) (N := 16) hx hb hg inGX3 hown hK hP 6 rfl rfl 6 (by decide) (hg _ mw_255) (fun _ h9 => h9) rfl dX3_placeOfBend_1 ?_
  refine lv_aload_n hx hb dX3_placeOfBend_4 rfl (lv_at hl 0 rfl) ?_
  refine va_get (D := D) (ci := 3) (v := .ref (ad 36)) (C := RX3) (T := TX3) (N := 16) hx hb hg inGX3 hown hK hP 6 rfl rfl 3 (by decide) (hg _ mw_248) (fun _ h9 => h9) rfl dX3_placeOfBend_5 ?_
  refine lv_iload_n hx hb dX3_placeOfBend_8 rfl (lv_at hl 1 rfl) ?_
  refine kI (rSN hx hb hml hown hg hN hK hP hD (c_at l D cI cJ (XW ad cI cJ co fl ra li re wa pi) 36 (ad 36) 80 (gA pi 2) k1 rfl (by decide)) mw_84 nw_96 mw_85 mw_77 pd_X7_at ⟨Nat.le_of_ble_eq_true rfl, Nat.le_of_ble_eq_true rfl⟩ rfl hl.1 rfl (Nat.le_of_ble_eq_true rfl) dX3_placeOfBend_9 ⟨Nat.le_of_ble_eq_true rfl, Nat.le_of_ble_eq_true rfl⟩) hD hS hA (fun r_1 u_1 H locs hp hP hD hS => ?_)
  obtain ⟨er, eu⟩ := hp
  obtain rfl := er.symm
  obtain rfl := eu.symm
  refine lv_iload_n hx hb dX3_placeOfBend_12 rfl (lv_at hl 2 rfl) ?_
  refine lv_iadd hx hb dX3_placeOfBend_13 ?_
  refine kI (rSN hx hb hml hown hg hN hK hP hD (c_at l D cI cJ (XW ad cI cJ co fl ra li re wa pi) 39 (ad 39) 1600 (gA pi 5) ((rd (gA pi 2) 80 k1) + k2) rfl (by decide)) mw_84 nw_96 mw_85 mw_77 pd_X7_at ⟨Nat.le_of_ble_eq_true rfl, Nat.le_of_ble_eq_true rfl⟩ rfl hl.1 rfl (Nat.le_of_ble_eq_true rfl) dX3_placeOfBend_14 ⟨Nat.le_of_ble_eq_true rfl, Nat.le_of_ble_eq_true rfl⟩) hD hS hA (fun r_2 u_2 H locs hp hP hD hS => ?_)
  obtain ⟨er, eu⟩ := hp
  obtain rfl := er.symm
  obtain rfl := eu.symm
  exact W.iret (v := (rd (gA pi 5) 1600 ((rd (gA pi 2) 80 k1) + k2))) hx hb hr (fun t ht hW => ⟨⟨(rd (gA pi 5) 1600 ((rd (gA pi 2) 80 k1) + k2)), (XW ad cI cJ co fl ra li re wa pi), rfl, ⟨(show ((rd (gA pi 5) 1600 ((rd (gA pi 2) 80 k1) + k2)) : Int32) = (placeBend pi k1 k2) from (by first | with_reducible rfl | (simp only [placeBend, gi_sl, gi_sA, gi_sB, gi_si_s, gi_si_n, gl_si, gl_sA, gl_sB, gl_sl_s, gl_sl_n, gA_si, gA_sl, gA_sB, gA_sA_s, gA_sA_n, gB_si, gB_sl, gB_sA, gB_sB_s, gB_sB_n, Nat.reduceBEq, if_true, if_false, eq_self, Bool.false_eq_true, reduceCtorEq, not_true_eq_false, not_false_eq_true, decide_true, decide_false, cond_true, cond_false, Bool.true_and, Bool.false_and, Bool.and_true, Bool.and_false, Bool.true_or, Bool.false_or, Bool.or_true, Bool.or_false, b2i_tt, b2i_ff]; done) | rfl)), xw_eq rfl rfl rfl rfl rfl rfl rfl⟩, ⟨by rw [ht]; exact hP, va_K.moved hW.alike hK, hD⟩⟩, hS.F ht⟩) hS.2.2 dX3_placeOfBend_17
set_option maxHeartbeats 4000000 in
set_option maxRecDepth 100000 in
theorem c_leaves (l : Launch) (D : va_G) (cI cJ : ClassId) (ad : Nat → Nat) (co fl ra li re wa pi : Ob) (k1 : Int32) (k2 : Int32) : CT l D (TY cI cJ) yX3_leaves (.code yX3_leaves cX3_leaves 3 (some Jvm.ClassFile.FieldType.boolean)) 2 0 0 (XW ad cI cJ co fl ra li re wa pi) [.ref (ad 6), .int k1, .int k2] (QI D (TY cI cJ) (fun r u => r = (b2i (leaves wa pi k1 k2)) ∧ u = (XW ad cI cJ co fl ra li re wa pi))) := by
  refine ent (by decide) (Nat.le_of_ble_eq_true rfl) ?_
  intro p e s m below meth c ls A hx hb hr hg hown hml hlocks hnm hP hK hD hS hA hN hl
  have hl : lv_has ls 3 [(0, .ref (ad 6)), (1, .int k1), (2, .int k2)] := hl
  refine lv_aload_n hx hb dX3_leaves_0 rfl (lv_at hl 0 rfl) ?_
  refine va_get (D := D) (ci := 3) (v := .ref (ad 7)) (C := RX3) (T := TX3) (N := 16) hx hb hg inGX3 hown hK hP 6 rfl rfl 0 (by decide) (hg _ mw_227) (fun _ h9 => h9) rfl dX3_leaves_1 ?_
  refine lv_iload_n hx hb dX3_leaves_4 rfl (lv_at hl 1 rfl) ?_
  refine kI (rV (q0 := 7) (ci := 6) hx hb hml hown hg hN hK hP hD (c_draws l D cI cJ ad co fl ra li re wa pi k1) mw_204 mw_229 mw_206 mw_207 mw_208 pdv_X6_draws ⟨Nat.le_of_ble_eq_true rfl, Nat.le_of_ble_eq_true rfl⟩ rfl rfl rfl hl.1 rfl (Nat.le_of_ble_eq_true rfl) dX3_leaves_5 ⟨Nat.le_of_ble_eq_true rfl, Nat.le_of_ble_eq_true rfl⟩) hD hS hA (fun r_1 u_1 H locs hp hP hD hS => ?_)
  obtain ⟨er, eu⟩ := hp
  obtain rfl := er.symm
  obtain rfl := eu.symm
  refine lv_if_eq (tgt := 33) hx hb dX3_leaves_8 (by decide) (fun c_8 => ?_) (fun c_8 => ?_)
  · have c_8 : ¬ (draws wa k1) = true := b2i_0 c_8
    refine lv_iconst (v := 0) hx hb dX3_leaves_33 (by decide) ?_
    exact W.zret (v := 0) hx hb hr rfl (fun t ht hW => ⟨⟨0, (XW ad cI cJ co fl ra li re wa pi), rfl, ⟨(show (0 : Int32) = (b2i (leaves wa pi k1 k2)) from (by first | (simp only [leaves, if_neg c_8, bf_of c_8, gi_sl, gi_sA, gi_sB, gi_si_s, gi_si_n, gl_si, gl_sA, gl_sB, gl_sl_s, gl_sl_n, gA_si, gA_sl, gA_sB, gA_sA_s, gA_sA_n, gB_si, gB_sl, gB_sA, gB_sB_s, gB_sB_n, Nat.reduceBEq, if_true, if_false, eq_self, Bool.false_eq_true, reduceCtorEq, not_true_eq_false, not_false_eq_true, decide_true, decide_false, cond_true, cond_false, Bool.true_and, Bool.false_and, Bool.and_true, Bool.and_false, Bool.true_or, Bool.false_or, Bool.or_true, Bool.or_false, b2i_tt, b2i_ff]; done) | (simp only [leaves, if_neg c_8, bf_of c_8, gi_sl, gi_sA, gi_sB, gi_si_s, gi_si_n, gl_si, gl_sA, gl_sB, gl_sl_s, gl_sl_n, gA_si, gA_sl, gA_sB, gA_sA_s, gA_sA_n, gB_si, gB_sl, gB_sA, gB_sB_s, gB_sB_n, Nat.reduceBEq, if_true, if_false, eq_self, Bool.false_eq_true, reduceCtorEq, not_true_eq_false, not_false_eq_true, decide_true, decide_false, cond_true, cond_false, Bool.true_and, Bool.false_and, Bool.and_true, Bool.and_false, Bool.true_or, Bool.false_or, Bool.or_true, Bool.or_false, b2i_tt, b2i_ff]; rfl) | (simp [leaves, c_8, gi_sl, gi_sA, gi_sB, gi_si_s, gi_si_n, gl_si, gl_sA, gl_sB, gl_sl_s, gl_sl_n, gA_si, gA_sl, gA_sB, gA_sA_s, gA_sA_n, gB_si, gB_sl, gB_sA, gB_sB_s, gB_sB_n, Nat.reduceBEq]; done))), xw_eq rfl rfl rfl rfl rfl rfl rfl⟩, ⟨by rw [ht]; exact hP, va_K.moved hW.alike hK, hD⟩⟩, hS.F ht⟩) hS.2.2 dX3_leaves_34
  · have c_8 : (draws wa k1) = true := b2i_1 c_8
    refine lv_aload_n hx hb dX3_leaves_11 rfl (lv_at hl 0 rfl) ?_
    refine lv_iload_n hx hb dX3_leaves_12 rfl (lv_at hl 1 rfl) ?_
    refine kI (rV (q0 := 6) (ci := 3) hx hb hml hown hg hN hK hP hD (c_top l D cI cJ ad co fl ra li re wa pi k1) mw_230 mw_231 mw_232 mw_233 mw_234 pdv_X3_top ⟨Nat.le_of_ble_eq_true rfl, Nat.le_of_ble_eq_true rfl⟩ rfl rfl rfl hl.1 rfl (Nat.le_of_ble_eq_true rfl) dX3_leaves_13 ⟨Nat.le_of_ble_eq_true rfl, Nat.le_of_ble_eq_true rfl⟩) hD hS hA (fun r_2 u_2 H locs hp hP hD hS => ?_)
    obtain ⟨er, eu⟩ := hp
    obtain rfl := er.symm
    obtain rfl := eu.symm
    refine lv_iload_n hx hb dX3_leaves_16 rfl (lv_at hl 2 rfl) ?_
    refine lv_icmp_gt (tgt := 33) hx hb dX3_leaves_17 (by decide) (fun c_17 => ?_) (fun c_17 => ?_)
    · refine lv_iconst (v := 0) hx hb dX3_leaves_33 (by decide) ?_
      exact W.zret (v := 0) hx hb hr rfl (fun t ht hW => ⟨⟨0, (XW ad cI cJ co fl ra li re wa pi), rfl, ⟨(show (0 : Int32) = (b2i (leaves wa pi k1 k2)) from (by first | (simp only [leaves, if_pos c_8, c_8, if_pos c_17, decide_eq_true c_17, decide_eq_false (not_not_intro c_17), gi_sl, gi_sA, gi_sB, gi_si_s, gi_si_n, gl_si, gl_sA, gl_sB, gl_sl_s, gl_sl_n, gA_si, gA_sl, gA_sB, gA_sA_s, gA_sA_n, gB_si, gB_sl, gB_sA, gB_sB_s, gB_sB_n, Nat.reduceBEq, if_true, if_false, eq_self, Bool.false_eq_true, reduceCtorEq, not_true_eq_false, not_false_eq_true, decide_true, decide_false, cond_true, cond_false, Bool.true_and, Bool.false_and, Bool.and_true, Bool.and_false, Bool.true_or, Bool.false_or, Bool.or_true, Bool.or_false, b2i_tt, b2i_ff]; done) | (simp only [leaves, if_pos c_8, c_8, if_pos c_17, decide_eq_true c_17, decide_eq_false (not_not_intro c_17), gi_sl, gi_sA, gi_sB, gi_si_s, gi_si_n, gl_si, gl_sA, gl_sB, gl_sl_s, gl_sl_n, gA_si, gA_sl, gA_sB, gA_sA_s, gA_sA_n, gB_si, gB_sl, gB_sA, gB_sB_s, gB_sB_n, Nat.reduceBEq, if_true, if_false, eq_self, Bool.false_eq_true, reduceCtorEq, not_true_eq_false, not_false_eq_true, decide_true, decide_false, cond_true, cond_false, Bool.true_and, Bool.false_and, Bool.and_true, Bool.and_false, Bool.true_or, Bool.false_or, Bool.or_true, Bool.or_false, b2i_tt, b2i_ff]; rfl) | (simp [leaves, c_8, c_17, gi_sl, gi_sA, gi_sB, gi_si_s, gi_si_n, gl_si, gl_sA, gl_sB, gl_sl_s, gl_sl_n, gA_si, gA_sl, gA_sB, gA_sA_s, gA_sA_n, gB_si, gB_sl, gB_sA, gB_sB_s, gB_sB_n, Nat.reduceBEq]; done))), xw_eq rfl rfl rfl rfl rfl rfl rfl⟩, ⟨by rw [ht]; exact hP, va_K.moved hW.alike hK, hD⟩⟩, hS.F ht⟩) hS.2.2 dX3_leaves_34
    · refine lv_iload_n hx hb dX3_leaves_20 rfl (lv_at hl 2 rfl) ?_
      refine lv_aload_n hx hb dX3_leaves_21 rfl (lv_at hl 0 rfl) ?_
      refine lv_iload_n hx hb dX3_leaves_22 rfl (lv_at hl 1 rfl) ?_
      refine kI (rV (q0 := 6) (ci := 3) hx hb hml hown hg hN hK hP hD (c_bottom l D cI cJ ad co fl ra li re wa pi k1) mw_244 mw_245 mw_246 mw_247 mw_234 pdv_X3_bottom ⟨Nat.le_of_ble_eq_true rfl, Nat.le_of_ble_eq_true rfl⟩ rfl rfl rfl hl.1 rfl (Nat.le_of_ble_eq_true rfl) dX3_leaves_23 ⟨Nat.le_of_ble_eq_true rfl, Nat.le_of_ble_eq_true rfl⟩) hD hS hA (fun r_3 u_3 H locs hp hP hD hS => ?_)
      obtain ⟨er, eu⟩ := hp
      obtain rfl := er.symm
      obtain rfl := eu.symm
      refine lv_icmp_ge (tgt := 33) hx hb dX3_leaves_26 (by decide) (fun c_26 => ?_) (fun c_26 => ?_)
      · have c_26 : ¬ k2 < (botE wa pi k1) := i_ge c_26
        refine lv_iconst (v := 0) hx hb dX3_leaves_33 (by decide) ?_
        exact W.zret (v := 0) hx hb hr rfl (fun t ht hW => ⟨⟨0, (XW ad cI cJ co fl ra li re wa pi), rfl, ⟨(show (0 : Int32) = (b2i (leaves wa pi k1 k2)) from (by first | (simp only [leaves, if_pos c_8, c_8, if_neg c_17, decide_eq_false c_17, decide_eq_true c_17, if_pos c_17, if_neg c_26, decide_eq_false c_26, decide_eq_true c_26, if_pos c_26, gi_sl, gi_sA, gi_sB, gi_si_s, gi_si_n, gl_si, gl_sA, gl_sB, gl_sl_s, gl_sl_n, gA_si, gA_sl, gA_sB, gA_sA_s, gA_sA_n, gB_si, gB_sl, gB_sA, gB_sB_s, gB_sB_n, Nat.reduceBEq, if_true, if_false, eq_self, Bool.false_eq_true, reduceCtorEq, not_true_eq_false, not_false_eq_true, decide_true, decide_false, cond_true, cond_false, Bool.true_and, Bool.false_and, Bool.and_true, Bool.and_false, Bool.true_or, Bool.false_or, Bool.or_true, Bool.or_false, b2i_tt, b2i_ff]; done) | (simp only [leaves, if_pos c_8, c_8, if_neg c_17, decide_eq_false c_17, decide_eq_true c_17, if_pos c_17, if_neg c_26, decide_eq_false c_26, decide_eq_true c_26, if_pos c_26, gi_sl, gi_sA, gi_sB, gi_si_s, gi_si_n, gl_si, gl_sA, gl_sB, gl_sl_s, gl_sl_n, gA_si, gA_sl, gA_sB, gA_sA_s, gA_sA_n, gB_si, gB_sl, gB_sA, gB_sB_s, gB_sB_n, Nat.reduceBEq, if_true, if_false, eq_self, Bool.false_eq_true, reduceCtorEq, not_true_eq_false, not_false_eq_true, decide_true, decide_false, cond_true, cond_false, Bool.true_and, Bool.false_and, Bool.and_true, Bool.and_false, Bool.true_or, Bool.false_or, Bool.or_true, Bool.or_false, b2i_tt, b2i_ff]; rfl) | (simp [leaves, c_8, c_17, c_26, gi_sl, gi_sA, gi_sB, gi_si_s, gi_si_n, gl_si, gl_sA, gl_sB, gl_sl_s, gl_sl_n, gA_si, gA_sl, gA_sB, gA_sA_s, gA_sA_n, gB_si, gB_sl, gB_sA, gB_sB_s, gB_sB_n, Nat.reduceBEq]; done))), xw_eq rfl rfl rfl rfl rfl rfl rfl⟩, ⟨by rw [ht]; exact hP, va_K.moved hW.alike hK, hD⟩⟩, hS.F ht⟩) hS.2.2 dX3_leaves_34
      · have c_26 : k2 < (botE wa pi k1) := i_nge c_26
        refine lv_iconst (v := 1) hx hb dX3_leaves_29 (by decide) ?_
        refine lv_goto (tgt := 34) hx hb dX3_leaves_30 (by decide) ?_
        exact W.zret (v := 1) hx hb hr rfl (fun t ht hW => ⟨⟨1, (XW ad cI cJ co fl ra li re wa pi), rfl, ⟨(show (1 : Int32) = (b2i (leaves wa pi k1 k2)) from (by first | (simp only [leaves, if_pos c_8, c_8, if_neg c_17, decide_eq_false c_17, decide_eq_true c_17, if_pos c_17, if_pos c_26, decide_eq_true c_26, decide_eq_false (not_not_intro c_26), gi_sl, gi_sA, gi_sB, gi_si_s, gi_si_n, gl_si, gl_sA, gl_sB, gl_sl_s, gl_sl_n, gA_si, gA_sl, gA_sB, gA_sA_s, gA_sA_n, gB_si, gB_sl, gB_sA, gB_sB_s, gB_sB_n, Nat.reduceBEq, if_true, if_false, eq_self, Bool.false_eq_true, reduceCtorEq, not_true_eq_false, not_false_eq_true, decide_true, decide_false, cond_true, cond_false, Bool.true_and, Bool.false_and, Bool.and_true, Bool.and_false, Bool.true_or, Bool.false_or, Bool.or_true, Bool.or_false, b2i_tt, b2i_ff]; done) | (simp only [leaves, if_pos c_8, c_8, if_neg c_17, decide_eq_false c_17, decide_eq_true c_17, if_pos c_17, if_pos c_26, decide_eq_true c_26, decide_eq_false (not_not_intro c_26), gi_sl, gi_sA, gi_sB, gi_si_s, gi_si_n, gl_si, gl_sA, gl_sB, gl_sl_s, gl_sl_n, gA_si, gA_sl, gA_sB, gA_sA_s, gA_sA_n, gB_si, gB_sl, gB_sA, gB_sB_s, gB_sB_n, Nat.reduceBEq, if_true, if_false, eq_self, Bool.false_eq_true, reduceCtorEq, not_true_eq_false, not_false_eq_true, decide_true, decide_false, cond_true, cond_false, Bool.true_and, Bool.false_and, Bool.and_true, Bool.and_false, Bool.true_or, Bool.false_or, Bool.or_true, Bool.or_false, b2i_tt, b2i_ff]; rfl) | (simp [leaves, c_8, c_17, c_26, gi_sl, gi_sA, gi_sB, gi_si_s, gi_si_n, gl_si, gl_sA, gl_sB, gl_sl_s, gl_sl_n, gA_si, gA_sl, gA_sB, gA_sA_s, gA_sA_n, gB_si, gB_sl, gB_sA, gB_sB_s, gB_sB_n, Nat.reduceBEq]; done))), xw_eq rfl rfl rfl rfl rfl rfl rfl⟩, ⟨by rw [ht]; exact hP, va_K.moved hW.alike hK, hD⟩⟩, hS.F ht⟩) hS.2.2 dX3_leaves_34
