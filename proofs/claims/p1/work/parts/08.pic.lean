theorem dX6_goThrough_0 : decode cX6_goThrough 0 = .ok (.aload_n 0, 1) := by decide +kernel
theorem dX6_goThrough_1 : decode cX6_goThrough 1 = .ok (.iconst 0, 1) := by decide +kernel
theorem dX6_goThrough_2 : decode cX6_goThrough 2 = .ok (.putfield 27, 3) := by decide +kernel
theorem dX6_goThrough_5 : decode cX6_goThrough 5 = .ok (.aload_n 0, 1) := by decide +kernel
theorem dX6_goThrough_6 : decode cX6_goThrough 6 = .ok (.iconst 0, 1) := by decide +kernel
theorem dX6_goThrough_7 : decode cX6_goThrough 7 = .ok (.putfield 31, 3) := by decide +kernel
theorem dX6_goThrough_10 : decode cX6_goThrough 10 = .ok (.aload_n 0, 1) := by decide +kernel
theorem dX6_goThrough_11 : decode cX6_goThrough 11 = .ok (.lconst 0, 1) := by decide +kernel
theorem dX6_goThrough_12 : decode cX6_goThrough 12 = .ok (.putfield 34, 3) := by decide +kernel
theorem dX6_goThrough_15 : decode cX6_goThrough 15 = .ok (.aload_n 0, 1) := by decide +kernel
theorem dX6_goThrough_16 : decode cX6_goThrough 16 = .ok (.lconst 0, 1) := by decide +kernel
theorem dX6_goThrough_17 : decode cX6_goThrough 17 = .ok (.putfield 38, 3) := by decide +kernel
theorem dX6_goThrough_20 : decode cX6_goThrough 20 = .ok (.iconst 0, 1) := by decide +kernel
theorem dX6_goThrough_21 : decode cX6_goThrough 21 = .ok (.istore_n 2, 1) := by decide +kernel
theorem dX6_goThrough_22 : decode cX6_goThrough 22 = .ok (.iload_n 2, 1) := by decide +kernel
theorem dX6_goThrough_23 : decode cX6_goThrough 23 = .ok (.bipush 80, 2) := by decide +kernel
theorem dX6_goThrough_25 : decode cX6_goThrough 25 = .ok (.if_icmp .ge 27, 3) := by decide +kernel
theorem dX6_goThrough_28 : decode cX6_goThrough 28 = .ok (.aload_n 0, 1) := by decide +kernel
theorem dX6_goThrough_29 : decode cX6_goThrough 29 = .ok (.getfield 15, 3) := by decide +kernel
theorem dX6_goThrough_32 : decode cX6_goThrough 32 = .ok (.iload_n 2, 1) := by decide +kernel
theorem dX6_goThrough_33 : decode cX6_goThrough 33 = .ok (.iconst (-1), 1) := by decide +kernel
theorem dX6_goThrough_34 : decode cX6_goThrough 34 = .ok (.invokestatic 41, 3) := by decide +kernel
theorem dX6_goThrough_37 : decode cX6_goThrough 37 = .ok (.aload_n 0, 1) := by decide +kernel
theorem dX6_goThrough_38 : decode cX6_goThrough 38 = .ok (.getfield 18, 3) := by decide +kernel
theorem dX6_goThrough_41 : decode cX6_goThrough 41 = .ok (.iload_n 2, 1) := by decide +kernel
theorem dX6_goThrough_42 : decode cX6_goThrough 42 = .ok (.iconst (-1), 1) := by decide +kernel
theorem dX6_goThrough_43 : decode cX6_goThrough 43 = .ok (.invokestatic 41, 3) := by decide +kernel
theorem dX6_goThrough_46 : decode cX6_goThrough 46 = .ok (.iinc 2 1, 3) := by decide +kernel
theorem dX6_goThrough_49 : decode cX6_goThrough 49 = .ok (.goto (-27), 3) := by decide +kernel
theorem dX6_goThrough_52 : decode cX6_goThrough 52 = .ok (.aload_n 1, 1) := by decide +kernel
theorem dX6_goThrough_53 : decode cX6_goThrough 53 = .ok (.getfield 45, 3) := by decide +kernel
theorem dX6_goThrough_56 : decode cX6_goThrough 56 = .ok (.ifCond .le 9, 3) := by decide +kernel
theorem dX6_goThrough_65 : decode cX6_goThrough 65 = .ok (.iconst 0, 1) := by decide +kernel
theorem dX6_goThrough_66 : decode cX6_goThrough 66 = .ok (.istore_n 2, 1) := by decide +kernel
theorem dX6_goThrough_67 : decode cX6_goThrough 67 = .ok (.iload_n 2, 1) := by decide +kernel
theorem dX6_goThrough_68 : decode cX6_goThrough 68 = .ok (.bipush 120, 2) := by decide +kernel
theorem dX6_goThrough_70 : decode cX6_goThrough 70 = .ok (.if_icmp .ge 34, 3) := by decide +kernel
theorem dX6_goThrough_73 : decode cX6_goThrough 73 = .ok (.aload_n 0, 1) := by decide +kernel
theorem dX6_goThrough_74 : decode cX6_goThrough 74 = .ok (.getfield 31, 3) := by decide +kernel
theorem dX6_goThrough_77 : decode cX6_goThrough 77 = .ok (.ifCond .le 27, 3) := by decide +kernel
theorem dX6_goThrough_104 : decode cX6_goThrough 104 = .ok (.return_, 1) := by decide +kernel
theorem dX3_pushDown_0 : decode cX3_pushDown 0 = .ok (.iconst 0, 1) := by decide +kernel
theorem dX3_pushDown_1 : decode cX3_pushDown 1 = .ok (.istore_n 1, 1) := by decide +kernel
theorem dX3_pushDown_2 : decode cX3_pushDown 2 = .ok (.iconst 0, 1) := by decide +kernel
theorem dX3_pushDown_3 : decode cX3_pushDown 3 = .ok (.istore_n 2, 1) := by decide +kernel
theorem dX3_pushDown_4 : decode cX3_pushDown 4 = .ok (.iload_n 2, 1) := by decide +kernel
theorem dX3_pushDown_5 : decode cX3_pushDown 5 = .ok (.aload_n 0, 1) := by decide +kernel
theorem dX3_pushDown_6 : decode cX3_pushDown 6 = .ok (.getfield 58, 3) := by decide +kernel
theorem dX3_pushDown_9 : decode cX3_pushDown 9 = .ok (.if_icmp .ge 73, 3) := by decide +kernel
theorem dX3_pushDown_82 : decode cX3_pushDown 82 = .ok (.iload_n 1, 1) := by decide +kernel
theorem dX3_pushDown_83 : decode cX3_pushDown 83 = .ok (.ireturn, 1) := by decide +kernel
theorem dX3_setLayers_0 : decode cX3_setLayers 0 = .ok (.iconst 0, 1) := by decide +kernel
theorem dX3_setLayers_1 : decode cX3_setLayers 1 = .ok (.istore_n 1, 1) := by decide +kernel
theorem dX3_setLayers_2 : decode cX3_setLayers 2 = .ok (.iload_n 1, 1) := by decide +kernel
theorem dX3_setLayers_3 : decode cX3_setLayers 3 = .ok (.bipush 40, 2) := by decide +kernel
theorem dX3_setLayers_5 : decode cX3_setLayers 5 = .ok (.if_icmp .ge 36, 3) := by decide +kernel
theorem dX3_setLayers_8 : decode cX3_setLayers 8 = .ok (.aload_n 0, 1) := by decide +kernel
theorem dX3_setLayers_9 : decode cX3_setLayers 9 = .ok (.getfield 18, 3) := by decide +kernel
theorem dX3_setLayers_12 : decode cX3_setLayers 12 = .ok (.iload_n 1, 1) := by decide +kernel
theorem dX3_setLayers_13 : decode cX3_setLayers 13 = .ok (.aload_n 0, 1) := by decide +kernel
theorem dX3_setLayers_14 : decode cX3_setLayers 14 = .ok (.getfield 12, 3) := by decide +kernel
theorem dX3_setLayers_17 : decode cX3_setLayers 17 = .ok (.getfield 83, 3) := by decide +kernel
theorem dX3_setLayers_20 : decode cX3_setLayers 20 = .ok (.iload_n 1, 1) := by decide +kernel
theorem dX3_setLayers_21 : decode cX3_setLayers 21 = .ok (.invokestatic 87, 3) := by decide +kernel
theorem dX3_setLayers_24 : decode cX3_setLayers 24 = .ok (.ifCond .eq 7, 3) := by decide +kernel
theorem dX3_setLayers_31 : decode cX3_setLayers 31 = .ok (.iconst (-1), 1) := by decide +kernel
theorem dX3_setLayers_32 : decode cX3_setLayers 32 = .ok (.invokestatic 75, 3) := by decide +kernel
theorem dX3_setLayers_35 : decode cX3_setLayers 35 = .ok (.iinc 1 1, 3) := by decide +kernel
theorem dX3_setLayers_38 : decode cX3_setLayers 38 = .ok (.goto (-36), 3) := by decide +kernel
theorem dX3_setLayers_41 : decode cX3_setLayers 41 = .ok (.iconst 1, 1) := by decide +kernel
theorem dX3_setLayers_42 : decode cX3_setLayers 42 = .ok (.istore_n 1, 1) := by decide +kernel
theorem dX3_setLayers_43 : decode cX3_setLayers 43 = .ok (.iconst 0, 1) := by decide +kernel
theorem dX3_setLayers_44 : decode cX3_setLayers 44 = .ok (.istore_n 2, 1) := by decide +kernel
theorem dX3_setLayers_45 : decode cX3_setLayers 45 = .ok (.iload_n 2, 1) := by decide +kernel
theorem dX3_setLayers_46 : decode cX3_setLayers 46 = .ok (.bipush 40, 2) := by decide +kernel
theorem dX3_setLayers_48 : decode cX3_setLayers 48 = .ok (.if_icmp .ge 18, 3) := by decide +kernel
theorem dX3_setLayers_51 : decode cX3_setLayers 51 = .ok (.iload_n 1, 1) := by decide +kernel
theorem dX3_setLayers_52 : decode cX3_setLayers 52 = .ok (.ifCond .eq 14, 3) := by decide +kernel
theorem dX3_setLayers_55 : decode cX3_setLayers 55 = .ok (.aload_n 0, 1) := by decide +kernel
theorem dX3_setLayers_56 : decode cX3_setLayers 56 = .ok (.invokevirtual 91, 3) := by decide +kernel
theorem dX3_setLayers_59 : decode cX3_setLayers 59 = .ok (.istore_n 1, 1) := by decide +kernel
theorem dX3_setLayers_60 : decode cX3_setLayers 60 = .ok (.iinc 2 1, 3) := by decide +kernel
theorem dX3_setLayers_63 : decode cX3_setLayers 63 = .ok (.goto (-18), 3) := by decide +kernel
theorem dX3_setLayers_66 : decode cX3_setLayers 66 = .ok (.aload_n 0, 1) := by decide +kernel
theorem dX3_setLayers_67 : decode cX3_setLayers 67 = .ok (.iconst 0, 1) := by decide +kernel
theorem dX3_setLayers_68 : decode cX3_setLayers 68 = .ok (.putfield 72, 3) := by decide +kernel
theorem dX3_setLayers_71 : decode cX3_setLayers 71 = .ok (.iconst 0, 1) := by decide +kernel
theorem dX3_setLayers_72 : decode cX3_setLayers 72 = .ok (.istore_n 2, 1) := by decide +kernel
theorem dX3_setLayers_73 : decode cX3_setLayers 73 = .ok (.iload_n 2, 1) := by decide +kernel
theorem dX3_setLayers_74 : decode cX3_setLayers 74 = .ok (.bipush 40, 2) := by decide +kernel
theorem dX3_setLayers_76 : decode cX3_setLayers 76 = .ok (.if_icmp .ge 30, 3) := by decide +kernel
theorem dX3_setLayers_79 : decode cX3_setLayers 79 = .ok (.aload_n 0, 1) := by decide +kernel
theorem dX3_setLayers_80 : decode cX3_setLayers 80 = .ok (.aload_n 0, 1) := by decide +kernel
theorem dX3_setLayers_81 : decode cX3_setLayers 81 = .ok (.getfield 72, 3) := by decide +kernel
theorem dX3_setLayers_84 : decode cX3_setLayers 84 = .ok (.aload_n 0, 1) := by decide +kernel
theorem dX3_setLayers_85 : decode cX3_setLayers 85 = .ok (.getfield 18, 3) := by decide +kernel
theorem dX3_setLayers_88 : decode cX3_setLayers 88 = .ok (.iload_n 2, 1) := by decide +kernel
theorem dX3_setLayers_89 : decode cX3_setLayers 89 = .ok (.invokestatic 95, 3) := by decide +kernel
theorem dX3_setLayers_92 : decode cX3_setLayers 92 = .ok (.iconst 1, 1) := by decide +kernel
theorem dX3_setLayers_93 : decode cX3_setLayers 93 = .ok (.iadd, 1) := by decide +kernel
theorem dX3_setLayers_94 : decode cX3_setLayers 94 = .ok (.invokestatic 99, 3) := by decide +kernel
theorem dX3_setLayers_97 : decode cX3_setLayers 97 = .ok (.putfield 72, 3) := by decide +kernel
theorem dX3_setLayers_100 : decode cX3_setLayers 100 = .ok (.iinc 2 1, 3) := by decide +kernel
theorem dX3_setLayers_103 : decode cX3_setLayers 103 = .ok (.goto (-30), 3) := by decide +kernel
theorem dX3_setLayers_106 : decode cX3_setLayers 106 = .ok (.return_, 1) := by decide +kernel
theorem dX3_numberBends_0 : decode cX3_numberBends 0 = .ok (.bipush 40, 2) := by decide +kernel
theorem dX3_numberBends_2 : decode cX3_numberBends 2 = .ok (.istore_n 1, 1) := by decide +kernel
theorem dX3_numberBends_3 : decode cX3_numberBends 3 = .ok (.iconst 0, 1) := by decide +kernel
theorem dX3_numberBends_4 : decode cX3_numberBends 4 = .ok (.istore_n 2, 1) := by decide +kernel
theorem dX3_numberBends_5 : decode cX3_numberBends 5 = .ok (.iload_n 2, 1) := by decide +kernel
theorem dX3_numberBends_6 : decode cX3_numberBends 6 = .ok (.aload_n 0, 1) := by decide +kernel
theorem dX3_numberBends_7 : decode cX3_numberBends 7 = .ok (.getfield 58, 3) := by decide +kernel
theorem dX3_numberBends_10 : decode cX3_numberBends 10 = .ok (.if_icmp .ge 51, 3) := by decide +kernel
theorem dX3_numberBends_61 : decode cX3_numberBends 61 = .ok (.return_, 1) := by decide +kernel
theorem dX3_draw_0 : decode cX3_draw 0 = .ok (.aload_n 0, 1) := by decide +kernel
theorem dX3_draw_1 : decode cX3_draw 1 = .ok (.aload_n 1, 1) := by decide +kernel
theorem dX3_draw_2 : decode cX3_draw 2 = .ok (.getfield 52, 3) := by decide +kernel
theorem dX3_draw_5 : decode cX3_draw 5 = .ok (.putfield 58, 3) := by decide +kernel
theorem dX3_draw_8 : decode cX3_draw 8 = .ok (.aload_n 0, 1) := by decide +kernel
theorem dX3_draw_9 : decode cX3_draw 9 = .ok (.iconst 0, 1) := by decide +kernel
theorem dX3_draw_10 : decode cX3_draw 10 = .ok (.putfield 59, 3) := by decide +kernel
theorem dX3_draw_13 : decode cX3_draw 13 = .ok (.aload_n 0, 1) := by decide +kernel
theorem dX3_draw_14 : decode cX3_draw 14 = .ok (.getfield 12, 3) := by decide +kernel
theorem dX3_draw_17 : decode cX3_draw 17 = .ok (.aload_n 1, 1) := by decide +kernel
theorem dX3_draw_18 : decode cX3_draw 18 = .ok (.invokevirtual 62, 3) := by decide +kernel
theorem dX3_draw_21 : decode cX3_draw 21 = .ok (.aload_n 0, 1) := by decide +kernel
theorem dX3_draw_22 : decode cX3_draw 22 = .ok (.invokevirtual 66, 3) := by decide +kernel
theorem dX3_draw_25 : decode cX3_draw 25 = .ok (.aload_n 0, 1) := by decide +kernel
theorem dX3_draw_26 : decode cX3_draw 26 = .ok (.invokevirtual 69, 3) := by decide +kernel
theorem dX3_draw_29 : decode cX3_draw 29 = .ok (.iconst 0, 1) := by decide +kernel
theorem dX3_draw_30 : decode cX3_draw 30 = .ok (.istore_n 2, 1) := by decide +kernel
theorem dX3_draw_31 : decode cX3_draw 31 = .ok (.iconst 0, 1) := by decide +kernel
theorem dX3_draw_32 : decode cX3_draw 32 = .ok (.istore_n 3, 1) := by decide +kernel
theorem dX3_draw_33 : decode cX3_draw 33 = .ok (.iload_n 3, 1) := by decide +kernel
theorem dX3_draw_34 : decode cX3_draw 34 = .ok (.aload_n 0, 1) := by decide +kernel
theorem dX3_draw_35 : decode cX3_draw 35 = .ok (.getfield 72, 3) := by decide +kernel
theorem dX3_draw_38 : decode cX3_draw 38 = .ok (.if_icmp .ge 25, 3) := by decide +kernel
theorem dX3_draw_63 : decode cX3_draw 63 = .ok (.aload_n 0, 1) := by decide +kernel
theorem dX3_draw_64 : decode cX3_draw 64 = .ok (.getfield 22, 3) := by decide +kernel
theorem dX3_draw_67 : decode cX3_draw 67 = .ok (.aload_n 0, 1) := by decide +kernel
theorem dX3_draw_68 : decode cX3_draw 68 = .ok (.getfield 72, 3) := by decide +kernel
theorem dX3_draw_71 : decode cX3_draw 71 = .ok (.iload_n 2, 1) := by decide +kernel
theorem dX3_draw_72 : decode cX3_draw 72 = .ok (.invokestatic 75, 3) := by decide +kernel
theorem dX3_draw_75 : decode cX3_draw 75 = .ok (.return_, 1) := by decide +kernel
theorem dX7_freshLives_0 : decode cX7_freshLives 0 = .ok (.aload_n 0, 1) := by decide +kernel
theorem dX7_freshLives_1 : decode cX7_freshLives 1 = .ok (.getfield 33, 3) := by decide +kernel
theorem dX7_freshLives_4 : decode cX7_freshLives 4 = .ok (.getfield 119, 3) := by decide +kernel
theorem dX7_freshLives_7 : decode cX7_freshLives 7 = .ok (.ifCond .ne 26, 3) := by decide +kernel
theorem dX7_freshLives_10 : decode cX7_freshLives 10 = .ok (.aload_n 0, 1) := by decide +kernel
theorem dX7_freshLives_11 : decode cX7_freshLives 11 = .ok (.getfield 33, 3) := by decide +kernel
theorem dX7_freshLives_14 : decode cX7_freshLives 14 = .ok (.aload_n 0, 1) := by decide +kernel
theorem dX7_freshLives_15 : decode cX7_freshLives 15 = .ok (.getfield 10, 3) := by decide +kernel
theorem dX7_freshLives_18 : decode cX7_freshLives 18 = .ok (.aload_n 0, 1) := by decide +kernel
theorem dX7_freshLives_19 : decode cX7_freshLives 19 = .ok (.invokevirtual 123, 3) := by decide +kernel
theorem dX7_freshLives_22 : decode cX7_freshLives 22 = .ok (.invokevirtual 345, 3) := by decide +kernel
theorem dX7_freshLives_25 : decode cX7_freshLives 25 = .ok (.aload_n 0, 1) := by decide +kernel
theorem dX7_freshLives_26 : decode cX7_freshLives 26 = .ok (.getfield 33, 3) := by decide +kernel
theorem dX7_freshLives_29 : decode cX7_freshLives 29 = .ok (.iconst 1, 1) := by decide +kernel
theorem dX7_freshLives_30 : decode cX7_freshLives 30 = .ok (.putfield 119, 3) := by decide +kernel
theorem dX7_freshLives_33 : decode cX7_freshLives 33 = .ok (.aload_n 0, 1) := by decide +kernel
theorem dX7_freshLives_34 : decode cX7_freshLives 34 = .ok (.getfield 33, 3) := by decide +kernel
theorem dX7_freshLives_37 : decode cX7_freshLives 37 = .ok (.areturn, 1) := by decide +kernel
theorem dX7_freshReduction_0 : decode cX7_freshReduction 0 = .ok (.aload_n 0, 1) := by decide +kernel
theorem dX7_freshReduction_1 : decode cX7_freshReduction 1 = .ok (.getfield 40, 3) := by decide +kernel
theorem dX7_freshReduction_4 : decode cX7_freshReduction 4 = .ok (.getfield 335, 3) := by decide +kernel
theorem dX7_freshReduction_7 : decode cX7_freshReduction 7 = .ok (.ifCond .ne 22, 3) := by decide +kernel
theorem dX7_freshReduction_10 : decode cX7_freshReduction 10 = .ok (.aload_n 0, 1) := by decide +kernel
theorem dX7_freshReduction_11 : decode cX7_freshReduction 11 = .ok (.getfield 40, 3) := by decide +kernel
theorem dX7_freshReduction_14 : decode cX7_freshReduction 14 = .ok (.aload_n 0, 1) := by decide +kernel
theorem dX7_freshReduction_15 : decode cX7_freshReduction 15 = .ok (.invokevirtual 123, 3) := by decide +kernel
theorem dX7_freshReduction_18 : decode cX7_freshReduction 18 = .ok (.invokevirtual 349, 3) := by decide +kernel
theorem dX7_freshReduction_21 : decode cX7_freshReduction 21 = .ok (.aload_n 0, 1) := by decide +kernel
theorem dX7_freshReduction_22 : decode cX7_freshReduction 22 = .ok (.getfield 40, 3) := by decide +kernel
theorem dX7_freshReduction_25 : decode cX7_freshReduction 25 = .ok (.iconst 1, 1) := by decide +kernel
theorem dX7_freshReduction_26 : decode cX7_freshReduction 26 = .ok (.putfield 335, 3) := by decide +kernel
theorem dX7_freshReduction_29 : decode cX7_freshReduction 29 = .ok (.aload_n 0, 1) := by decide +kernel
theorem dX7_freshReduction_30 : decode cX7_freshReduction 30 = .ok (.getfield 40, 3) := by decide +kernel
theorem dX7_freshReduction_33 : decode cX7_freshReduction 33 = .ok (.areturn, 1) := by decide +kernel
theorem dX7_freshPicture_0 : decode cX7_freshPicture 0 = .ok (.aload_n 0, 1) := by decide +kernel
theorem dX7_freshPicture_1 : decode cX7_freshPicture 1 = .ok (.getfield 47, 3) := by decide +kernel
theorem dX7_freshPicture_4 : decode cX7_freshPicture 4 = .ok (.getfield 336, 3) := by decide +kernel
theorem dX7_freshPicture_7 : decode cX7_freshPicture 7 = .ok (.ifCond .ne 22, 3) := by decide +kernel
theorem dX7_freshPicture_10 : decode cX7_freshPicture 10 = .ok (.aload_n 0, 1) := by decide +kernel
theorem dX7_freshPicture_11 : decode cX7_freshPicture 11 = .ok (.getfield 47, 3) := by decide +kernel
theorem dX7_freshPicture_14 : decode cX7_freshPicture 14 = .ok (.aload_n 0, 1) := by decide +kernel
theorem dX7_freshPicture_15 : decode cX7_freshPicture 15 = .ok (.invokevirtual 123, 3) := by decide +kernel
theorem dX7_freshPicture_18 : decode cX7_freshPicture 18 = .ok (.invokevirtual 352, 3) := by decide +kernel
theorem dX7_freshPicture_21 : decode cX7_freshPicture 21 = .ok (.aload_n 0, 1) := by decide +kernel
theorem dX7_freshPicture_22 : decode cX7_freshPicture 22 = .ok (.getfield 47, 3) := by decide +kernel
theorem dX7_freshPicture_25 : decode cX7_freshPicture 25 = .ok (.iconst 1, 1) := by decide +kernel
theorem dX7_freshPicture_26 : decode cX7_freshPicture 26 = .ok (.putfield 336, 3) := by decide +kernel
theorem dX7_freshPicture_29 : decode cX7_freshPicture 29 = .ok (.aload_n 0, 1) := by decide +kernel
theorem dX7_freshPicture_30 : decode cX7_freshPicture 30 = .ok (.getfield 47, 3) := by decide +kernel
theorem dX7_freshPicture_33 : decode cX7_freshPicture 33 = .ok (.areturn, 1) := by decide +kernel
theorem mw_168 : Cond.fieldLink RX6 27 "OrielChart$Walk" "cameCount" "I" ∈ GW := gw_mem (inT1 _ (List.mem_of_getElem? (i := 233) rfl)) rfl
theorem mw_169 : Cond.fieldLink RX6 31 "OrielChart$Walk" "openCount" "I" ∈ GW := gw_mem (inT1 _ (List.mem_of_getElem? (i := 235) rfl)) rfl
theorem mw_170 : Cond.fieldLink RX6 34 "OrielChart$Walk" "seen" "J" ∈ GW := gw_mem (inT1 _ (List.mem_of_getElem? (i := 236) rfl)) rfl
theorem mw_171 : Cond.fieldLink RX6 38 "OrielChart$Walk" "stillGoing" "J" ∈ GW := gw_mem (inT1 _ (List.mem_of_getElem? (i := 238) rfl)) rfl
theorem mw_172 : Cond.fieldLink RX6 15 "OrielChart$Walk" "upper" "[I" ∈ GW := gw_mem (inT1 _ (List.mem_of_getElem? (i := 227) rfl)) rfl
theorem mw_173 : Cond.fieldLink RX6 18 "OrielChart$Walk" "lower" "[I" ∈ GW := gw_mem (inT1 _ (List.mem_of_getElem? (i := 229) rfl)) rfl
theorem mw_174 : Cond.fieldLink RX3 58 "OrielChart$Picture" "edgeCount" "I" ∈ GW := gw_mem (inT2 _ (List.mem_of_getElem? (i := 32) rfl)) rfl
theorem mw_175 : Cond.code yX3_pushDown cX3_pushDown 3 (some Jvm.ClassFile.FieldType.boolean) ∈ GW := gw_mem (inT3 _ (List.mem_of_getElem? (i := 94) rfl)) rfl
theorem mw_176 : Cond.methodLink RX3 91 yX3_pushDown ∈ GW := gw_mem (inT3 _ (List.mem_of_getElem? (i := 91) rfl)) rfl
theorem mw_177 : Cond.instanceMethod yX3_pushDown ∈ GW := gw_mem (inT3 _ (List.mem_of_getElem? (i := 93) rfl)) rfl
theorem mw_178 : Cond.selects RX3 yX3_pushDown yX3_pushDown ∈ GW := gw_mem (inTp (q := (yX3_pushDown, 16)) (List.mem_of_getElem? (i := 23) rfl)) rfl
theorem mw_179 : Cond.initialized RX3 ∈ GW := gw_mem (inT1 _ (List.mem_of_getElem? (i := 7) rfl)) rfl
theorem mw_180 : Cond.fieldLink RX3 72 "OrielChart$Picture" "layerCount" "I" ∈ GW := gw_mem (inT2 _ (List.mem_of_getElem? (i := 33) rfl)) rfl
theorem mw_181 : Cond.fieldLink RX3 18 "OrielChart$Picture" "layer" "[I" ∈ GW := gw_mem (inT2 _ (List.mem_of_getElem? (i := 20) rfl)) rfl
theorem mw_182 : Cond.code yX7_at cX7_at 2 (some Jvm.ClassFile.FieldType.int) ∈ GW := gw_mem (inT2 _ (List.mem_of_getElem? (i := 111) rfl)) rfl
theorem mw_183 : Cond.static yX7_at ∈ GW := gw_mem (inT2 _ (List.mem_of_getElem? (i := 110) rfl)) rfl
theorem mw_184 : Cond.methodLink RX3 99 Lib.Math.max.name ∈ GW := gw_mem (inT3 _ (List.mem_of_getElem? (i := 104) rfl)) rfl
theorem mw_185 : Cond.static Lib.Math.max.name ∈ GW := gw_mem (inT3 _ (List.mem_of_getElem? (i := 105) rfl)) rfl
theorem mw_186 : Cond.initialized "java/lang/Math" ∈ GW := gw_mem (inT1 _ (List.mem_of_getElem? (i := 15) rfl)) rfl
theorem mw_187 : Cond.code Lib.Math.max.name Lib.Math.max.code 2 (some .int) ∈ GW := gw_mem (inT3 _ (List.mem_of_getElem? (i := 106) rfl)) rfl
theorem mw_188 : Cond.fieldLink RX3 12 "OrielChart$Picture" "walk" "LOrielChart$Walk;" ∈ GW := gw_mem (inT2 _ (List.mem_of_getElem? (i := 18) rfl)) rfl
theorem mw_189 : Cond.fieldLink RX3 59 "OrielChart$Picture" "sweeps" "I" ∈ GW := gw_mem (inT2 _ (List.mem_of_getElem? (i := 35) rfl)) rfl
theorem mw_190 : Cond.code yX6_goThrough cX6_goThrough 3 (none : Option FieldType) ∈ GW := gw_mem (inT3 _ (List.mem_of_getElem? (i := 71) rfl)) rfl
theorem mw_191 : Cond.methodLink RX3 62 yX6_goThrough ∈ GW := gw_mem (inT3 _ (List.mem_of_getElem? (i := 68) rfl)) rfl
theorem mw_192 : Cond.instanceMethod yX6_goThrough ∈ GW := gw_mem (inT3 _ (List.mem_of_getElem? (i := 69) rfl)) rfl
theorem mw_193 : Cond.selects RX6 yX6_goThrough yX6_goThrough ∈ GW := gw_mem (inT3 _ (List.mem_of_getElem? (i := 70) rfl)) rfl
theorem mw_194 : Cond.initialized RX6 ∈ GW := gw_mem (inT1 _ (List.mem_of_getElem? (i := 8) rfl)) rfl
theorem mw_195 : Cond.code yX3_setLayers cX3_setLayers 3 (none : Option FieldType) ∈ GW := gw_mem (inT3 _ (List.mem_of_getElem? (i := 88) rfl)) rfl
theorem mw_196 : Cond.methodLink RX3 66 yX3_setLayers ∈ GW := gw_mem (inT3 _ (List.mem_of_getElem? (i := 85) rfl)) rfl
theorem mw_197 : Cond.instanceMethod yX3_setLayers ∈ GW := gw_mem (inT3 _ (List.mem_of_getElem? (i := 87) rfl)) rfl
theorem mw_198 : Cond.selects RX3 yX3_setLayers yX3_setLayers ∈ GW := gw_mem (inTp (q := (yX3_setLayers, 16)) (List.mem_of_getElem? (i := 22) rfl)) rfl
theorem mw_199 : Cond.code yX3_numberBends cX3_numberBends 5 (none : Option FieldType) ∈ GW := gw_mem (inT3 _ (List.mem_of_getElem? (i := 110) rfl)) rfl
theorem mw_200 : Cond.methodLink RX3 69 yX3_numberBends ∈ GW := gw_mem (inT3 _ (List.mem_of_getElem? (i := 107) rfl)) rfl
theorem mw_201 : Cond.instanceMethod yX3_numberBends ∈ GW := gw_mem (inT3 _ (List.mem_of_getElem? (i := 109) rfl)) rfl
theorem mw_202 : Cond.selects RX3 yX3_numberBends yX3_numberBends ∈ GW := gw_mem (inTp (q := (yX3_numberBends, 16)) (List.mem_of_getElem? (i := 25) rfl)) rfl
theorem mw_203 : Cond.fieldLink RX3 22 "OrielChart$Picture" "start" "[I" ∈ GW := gw_mem (inT2 _ (List.mem_of_getElem? (i := 22) rfl)) rfl
theorem mw_204 : Cond.fieldLink RX7 33 "OrielChart" "lives" "LOrielChart$Lives;" ∈ GW := gw_mem (inT2 _ (List.mem_of_getElem? (i := 74) rfl)) rfl
theorem mw_205 : Cond.code yX2_follow cX2_follow 5 (none : Option FieldType) ∈ GW := gw_mem (inT2 _ (List.mem_of_getElem? (i := 210) rfl)) rfl
theorem mw_206 : Cond.methodLink RX7 345 yX2_follow ∈ GW := gw_mem (inT2 _ (List.mem_of_getElem? (i := 207) rfl)) rfl
theorem mw_207 : Cond.instanceMethod yX2_follow ∈ GW := gw_mem (inT2 _ (List.mem_of_getElem? (i := 208) rfl)) rfl
theorem mw_208 : Cond.selects RX2 yX2_follow yX2_follow ∈ GW := gw_mem (inT2 _ (List.mem_of_getElem? (i := 209) rfl)) rfl
theorem mw_209 : Cond.fieldLink RX7 40 "OrielChart" "reduction" "LOrielChart$Reduction;" ∈ GW := gw_mem (inT2 _ (List.mem_of_getElem? (i := 75) rfl)) rfl
theorem mw_210 : Cond.code yX5_reduce cX5_reduce 4 (none : Option FieldType) ∈ GW := gw_mem (inT3 _ (List.mem_of_getElem? (i := 10) rfl)) rfl
theorem mw_211 : Cond.methodLink RX7 349 yX5_reduce ∈ GW := gw_mem (inT3 _ (List.mem_of_getElem? (i := 7) rfl)) rfl
theorem mw_212 : Cond.instanceMethod yX5_reduce ∈ GW := gw_mem (inT3 _ (List.mem_of_getElem? (i := 8) rfl)) rfl
theorem mw_213 : Cond.selects RX5 yX5_reduce yX5_reduce ∈ GW := gw_mem (inT3 _ (List.mem_of_getElem? (i := 9) rfl)) rfl
theorem mw_214 : Cond.fieldLink RX7 47 "OrielChart" "picture" "LOrielChart$Picture;" ∈ GW := gw_mem (inT2 _ (List.mem_of_getElem? (i := 76) rfl)) rfl
theorem mw_215 : Cond.code yX3_draw cX3_draw 4 (none : Option FieldType) ∈ GW := gw_mem (inT3 _ (List.mem_of_getElem? (i := 67) rfl)) rfl
theorem mw_216 : Cond.methodLink RX7 352 yX3_draw ∈ GW := gw_mem (inT3 _ (List.mem_of_getElem? (i := 64) rfl)) rfl
theorem mw_217 : Cond.instanceMethod yX3_draw ∈ GW := gw_mem (inT3 _ (List.mem_of_getElem? (i := 65) rfl)) rfl
theorem mw_218 : Cond.selects RX3 yX3_draw yX3_draw ∈ GW := gw_mem (inT3 _ (List.mem_of_getElem? (i := 66) rfl)) rfl
theorem pdv_X3_pushDown : yX3_pushDown.cls = RX3 ∧ yX3_pushDown.cls ≠ "java/lang/invoke/MethodHandle" ∧ yX3_pushDown.cls ≠ "java/lang/invoke/VarHandle" ∧ (parseMethodDescriptor yX3_pushDown.desc).map (fun d => d.parameters.length) = some 0 := by decide +kernel
theorem pd_X7_at : yX7_at.cls ≠ "java/lang/invoke/MethodHandle" ∧ yX7_at.cls ≠ "java/lang/invoke/VarHandle" ∧ (parseMethodDescriptor yX7_at.desc).map (fun d => d.parameters.length) = some 2 := by decide +kernel
theorem pdv_X6_goThrough : yX6_goThrough.cls = RX6 ∧ yX6_goThrough.cls ≠ "java/lang/invoke/MethodHandle" ∧ yX6_goThrough.cls ≠ "java/lang/invoke/VarHandle" ∧ (parseMethodDescriptor yX6_goThrough.desc).map (fun d => d.parameters.length) = some 1 := by decide +kernel
theorem pdv_X3_setLayers : yX3_setLayers.cls = RX3 ∧ yX3_setLayers.cls ≠ "java/lang/invoke/MethodHandle" ∧ yX3_setLayers.cls ≠ "java/lang/invoke/VarHandle" ∧ (parseMethodDescriptor yX3_setLayers.desc).map (fun d => d.parameters.length) = some 0 := by decide +kernel
theorem pdv_X3_numberBends : yX3_numberBends.cls = RX3 ∧ yX3_numberBends.cls ≠ "java/lang/invoke/MethodHandle" ∧ yX3_numberBends.cls ≠ "java/lang/invoke/VarHandle" ∧ (parseMethodDescriptor yX3_numberBends.desc).map (fun d => d.parameters.length) = some 0 := by decide +kernel
theorem pdv_X2_follow : yX2_follow.cls = RX2 ∧ yX2_follow.cls ≠ "java/lang/invoke/MethodHandle" ∧ yX2_follow.cls ≠ "java/lang/invoke/VarHandle" ∧ (parseMethodDescriptor yX2_follow.desc).map (fun d => d.parameters.length) = some 2 := by decide +kernel
theorem pdv_X5_reduce : yX5_reduce.cls = RX5 ∧ yX5_reduce.cls ≠ "java/lang/invoke/MethodHandle" ∧ yX5_reduce.cls ≠ "java/lang/invoke/VarHandle" ∧ (parseMethodDescriptor yX5_reduce.desc).map (fun d => d.parameters.length) = some 1 := by decide +kernel
theorem pdv_X3_draw : yX3_draw.cls = RX3 ∧ yX3_draw.cls ≠ "java/lang/invoke/MethodHandle" ∧ yX3_draw.cls ≠ "java/lang/invoke/VarHandle" ∧ (parseMethodDescriptor yX3_draw.desc).map (fun d => d.parameters.length) = some 1 := by decide +kernel
theorem lay_step {f f9 : Nat → Int32} {i : Nat} (hi : i < 40) (hF : ∀ j, j < i → f j = -1) (h : vp_in (nI i) 40 → f9 = upd f (nI i).toNatClampNeg (-1)) : ∀ j, j < i + 1 → f9 j = -1 := by
  intro j hj
  rw [h (vp_in_nI hi (by decide)), nI_clamp (by omega)]
  by_cases hji : j = i
  · rw [hji]; exact pk_us
  · rw [pk_un hji]; exact hF j (by omega)
set_option maxHeartbeats 4000000 in
set_option maxRecDepth 100000 in
theorem c_goThrough (l : Launch) (D : va_G) (cI cJ cZ : ClassId) (ad : Nat → Nat) (b : Nat → Int32) (F : Nat → Nat → Int32) (G : Nat → Nat → Int64) (R : va_W) : CT l D (TY cI cJ cZ) yX6_goThrough (.code yX6_goThrough cX6_goThrough 3 (none : Option FieldType)) 1 0 0 (XW ad cI cJ 0 b F G ++ R) [.ref (ad 7), .ref (ad 2)] (QV D (TY cI cJ cZ) (fun u => ∃ F' G', u = XW ad cI cJ 0 b F' G' ++ R)) := by
  refine ent (by decide) (Nat.le_of_ble_eq_true rfl) ?_
  intro p e s m below meth c ls A hx hb hr hg hown hml hlocks hnm hP hK hD hS hA hN hl
  have hl : lv_has ls 3 [(0, .ref (ad 7)), (1, .ref (ad 2))] := hl
  refine lv_aload_n hx hb dX6_goThrough_0 rfl (lv_at hl 0 rfl) ?_
  refine lv_iconst (v := 0) hx hb dX6_goThrough_1 (by decide) ?_
  refine va_put (D := D) (ci := 6) (v := .int 0) (C := RX6) (T := TX6) (N := 9) hx hb hg inGX6 tyX6 tyX6_ok nmX6 hown hK hP hD hS 7 rfl rfl 5 (by decide) (hg _ mw_168) (fun _ h9 => h9) rfl (tyX6_ok 5 (by decide)) rfl rfl (Nat.le_of_ble_eq_true rfl) dX6_goThrough_2 (fun H locs hP hD hS => ?_)
  have hP : va_P D vwCl (XW ad cI cJ 0 b F G ++ R) H := hP
  have hD : va_D A (XW ad cI cJ 0 b F G ++ R) := hD
  refine lv_aload_n hx hb dX6_goThrough_5 rfl (lv_at hl 0 rfl) ?_
  refine lv_iconst (v := 0) hx hb dX6_goThrough_6 (by decide) ?_
  refine va_put (D := D) (ci := 6) (v := .int 0) (C := RX6) (T := TX6) (N := 9) hx hb hg inGX6 tyX6 tyX6_ok nmX6 hown hK hP hD hS 7 rfl rfl 6 (by decide) (hg _ mw_169) (fun _ h9 => h9) rfl (tyX6_ok 6 (by decide)) rfl rfl (Nat.le_of_ble_eq_true rfl) dX6_goThrough_7 (fun H locs hP hD hS => ?_)
  have hP : va_P D vwCl (XW ad cI cJ 0 b F G ++ R) H := hP
  have hD : va_D A (XW ad cI cJ 0 b F G ++ R) := hD
  refine lv_aload_n hx hb dX6_goThrough_10 rfl (lv_at hl 0 rfl) ?_
  refine lv_lconst (v := 0) hx hb dX6_goThrough_11 (by decide) ?_
  refine va_put (D := D) (ci := 6) (v := .long 0) (C := RX6) (T := TX6) (N := 9) hx hb hg inGX6 tyX6 tyX6_ok nmX6 hown hK hP hD hS 7 rfl rfl 7 (by decide) (hg _ mw_170) (fun _ h9 => h9) rfl (tyX6_ok 7 (by decide)) rfl rfl (Nat.le_of_ble_eq_true rfl) dX6_goThrough_12 (fun H locs hP hD hS => ?_)
  have hP : va_P D vwCl (XW ad cI cJ 0 b F G ++ R) H := hP
  have hD : va_D A (XW ad cI cJ 0 b F G ++ R) := hD
  refine lv_aload_n hx hb dX6_goThrough_15 rfl (lv_at hl 0 rfl) ?_
  refine lv_lconst (v := 0) hx hb dX6_goThrough_16 (by decide) ?_
  refine va_put (D := D) (ci := 6) (v := .long 0) (C := RX6) (T := TX6) (N := 9) hx hb hg inGX6 tyX6 tyX6_ok nmX6 hown hK hP hD hS 7 rfl rfl 8 (by decide) (hg _ mw_171) (fun _ h9 => h9) rfl (tyX6_ok 8 (by decide)) rfl rfl (Nat.le_of_ble_eq_true rfl) dX6_goThrough_17 (fun H locs hP hD hS => ?_)
  have hP : va_P D vwCl (XW ad cI cJ 0 b F G ++ R) H := hP
  have hD : va_D A (XW ad cI cJ 0 b F G ++ R) := hD
  refine lv_iconst (v := 0) hx hb dX6_goThrough_20 (by decide) ?_
  refine lv_istore_n (lv' := [(2, .int 0), (0, .ref (ad 7)), (1, .ref (ad 2))]) hx hb dX6_goThrough_21 rfl hl (by decide) rfl (fun ls hl => ?_)
  -- the loop at 22
  refine w_loop (σ := (Nat → Nat → Int32) × (Nat → Nat → Int64)) (fun (i : Nat) (u_1 : (Nat → Nat → Int32) × (Nat → Nat → Int64)) (H : Heap) (locs : List Loc) (ls : Array Slot) => (True) ∧ va_P D vwCl (XW ad cI cJ 0 b u_1.1 u_1.2 ++ R) H ∧ va_D A (XW ad cI cJ 0 b u_1.1 u_1.2 ++ R) ∧ va_S A s.heap H locs ∧ lv_has ls 3 [(0, .ref (ad 7)), (1, .ref (ad 2)), (2, .int (nI i))]) 80 (fun u_1 H locs ls hI => ?_) (fun i u_1 H locs ls hi hI ih => ?_) 0 (F, G) (Nat.zero_le _) ⟨trivial, hP, hD, hS, by rw [nI_0]; exact lv_sub hl [1, 2, 0] rfl⟩
  · obtain ⟨hF_1, hP, hD, hS, hl⟩ := hI
    have hP : va_P D vwCl (XW ad cI cJ 0 b u_1.1 u_1.2 ++ R) H := hP
    have hD : va_D A (XW ad cI cJ 0 b u_1.1 u_1.2 ++ R) := hD
    have hl : lv_has ls 3 [(0, .ref (ad 7)), (1, .ref (ad 2)), (2, .int (nI 80))] := hl
    refine lv_iload_n hx hb dX6_goThrough_22 rfl (lv_at hl 2 rfl) ?_
    refine lv_bipush (v := 80) hx hb dX6_goThrough_23 (by decide) ?_
    refine lv_icmp_ge (tgt := 52) hx hb dX6_goThrough_25 (by decide) (fun c_25 => ?_) (fun c_25 => absurd (by decide) c_25)
    refine lv_aload_n hx hb dX6_goThrough_52 rfl (lv_at hl 1 rfl) ?_
    refine va_getN (D := D) (ci := 1) (v := .int 0) (C := RX1) (T := TX1) (N := 11) hx hb hg inGX1 hown hK hP 2 rfl rfl 7 (by decide) (hN.use nw_25) (fun _ h9 => h9) rfl dX6_goThrough_53 ?_
    refine lv_if_le (tgt := 65) hx hb dX6_goThrough_56 (by decide) (fun c_56 => ?_) (fun c_56 => absurd (by decide) c_56)
    refine lv_iconst (v := 0) hx hb dX6_goThrough_65 (by decide) ?_
    refine lv_istore_n (lv' := [(2, .int 0), (0, .ref (ad 7)), (1, .ref (ad 2))]) hx hb dX6_goThrough_66 rfl hl (by decide) rfl (fun ls hl => ?_)
    refine lv_iload_n hx hb dX6_goThrough_67 rfl (lv_at hl 0 rfl) ?_
    refine lv_bipush (v := 120) hx hb dX6_goThrough_68 (by decide) ?_
    refine lv_icmp_ge (tgt := 104) hx hb dX6_goThrough_70 (by decide) (fun c_70 => absurd c_70 (by decide)) (fun c_70 => ?_)
    refine lv_aload_n hx hb dX6_goThrough_73 rfl (lv_at hl 1 rfl) ?_
    refine va_get (D := D) (ci := 6) (v := .int 0) (C := RX6) (T := TX6) (N := 9) hx hb hg inGX6 hown hK hP 7 rfl rfl 6 (by decide) (hg _ mw_169) (fun _ h9 => h9) rfl dX6_goThrough_74 ?_
    refine lv_if_le (tgt := 104) hx hb dX6_goThrough_77 (by decide) (fun c_77 => ?_) (fun c_77 => absurd (by decide) c_77)
    exact W.vret hx hb hr (fun t ht hW => ⟨⟨(XW ad cI cJ 0 b u_1.1 u_1.2 ++ R), rfl, ⟨_, _, rfl⟩, ⟨by rw [ht]; exact hP, va_K.moved hW.alike hK, hD⟩⟩, hS.F ht⟩) hS.2.2 dX6_goThrough_104
  · obtain ⟨hF_1, hP, hD, hS, hl⟩ := hI
    have hP : va_P D vwCl (XW ad cI cJ 0 b u_1.1 u_1.2 ++ R) H := hP
    have hD : va_D A (XW ad cI cJ 0 b u_1.1 u_1.2 ++ R) := hD
    have hl : lv_has ls 3 [(0, .ref (ad 7)), (1, .ref (ad 2)), (2, .int (nI i))] := hl
    refine lv_iload_n hx hb dX6_goThrough_22 rfl (lv_at hl 2 rfl) ?_
    refine lv_bipush (v := 80) hx hb dX6_goThrough_23 (by decide) ?_
    refine lv_icmp_ge (tgt := 52) hx hb dX6_goThrough_25 (by decide) (fun c_25 => absurd c_25 (nI_ge hi (by decide))) (fun c_25 => ?_)
    refine lv_aload_n hx hb dX6_goThrough_28 rfl (lv_at hl 0 rfl) ?_
    refine va_get (D := D) (ci := 6) (v := .ref (ad 30)) (C := RX6) (T := TX6) (N := 9) hx hb hg inGX6 hown hK hP 7 rfl rfl 1 (by decide) (hg _ mw_172) (fun _ h9 => h9) rfl dX6_goThrough_29 ?_
    refine lv_iload_n hx hb dX6_goThrough_32 rfl (lv_at hl 2 rfl) ?_
    refine lv_iconst (v := (-1)) hx hb dX6_goThrough_33 (by decide) ?_
    refine kV (rSN hx hb hml hown hg hN hK hP hD (c_put l D cI cJ cZ (XW ad cI cJ 0 b u_1.1 u_1.2 ++ R) 30 (ad 30) 80 (u_1.1 30) (nI i) (-1) rfl (by decide)) mw_108 nw_90 mw_109 mw_110 pd_X7_put ⟨Nat.le_of_ble_eq_true rfl, Nat.le_of_ble_eq_true rfl⟩ rfl hl.1 rfl (Nat.le_of_ble_eq_true rfl) dX6_goThrough_34 ⟨Nat.le_of_ble_eq_true rfl, Nat.le_of_ble_eq_true rfl⟩) hD hS hA (fun u_2 H locs hp hP hD hS => ?_)
    obtain ⟨f_3, rfl, hp1, hp2⟩ := hp
    have hP : va_P D vwCl (XW ad cI cJ 0 b (va_up u_1.1 30 f_3) u_1.2 ++ R) H := hP
    have hD : va_D A (XW ad cI cJ 0 b (va_up u_1.1 30 f_3) u_1.2 ++ R) := hD
    refine lv_aload_n hx hb dX6_goThrough_37 rfl (lv_at hl 0 rfl) ?_
    refine va_get (D := D) (ci := 6) (v := .ref (ad 31)) (C := RX6) (T := TX6) (N := 9) hx hb hg inGX6 hown hK hP 7 rfl rfl 2 (by decide) (hg _ mw_173) (fun _ h9 => h9) rfl dX6_goThrough_38 ?_
    refine lv_iload_n hx hb dX6_goThrough_41 rfl (lv_at hl 2 rfl) ?_
    refine lv_iconst (v := (-1)) hx hb dX6_goThrough_42 (by decide) ?_
    refine kV (rSN hx hb hml hown hg hN hK hP hD (c_put l D cI cJ cZ (XW ad cI cJ 0 b (va_up u_1.1 30 f_3) u_1.2 ++ R) 31 (ad 31) 80 ((va_up u_1.1 30 f_3) 31) (nI i) (-1) rfl (by decide)) mw_108 nw_90 mw_109 mw_110 pd_X7_put ⟨Nat.le_of_ble_eq_true rfl, Nat.le_of_ble_eq_true rfl⟩ rfl hl.1 rfl (Nat.le_of_ble_eq_true rfl) dX6_goThrough_43 ⟨Nat.le_of_ble_eq_true rfl, Nat.le_of_ble_eq_true rfl⟩) hD hS hA (fun u_4 H locs hp hP hD hS => ?_)
    obtain ⟨f_5, rfl, hp1, hp2⟩ := hp
    have hP : va_P D vwCl (XW ad cI cJ 0 b (va_up (va_up u_1.1 30 f_3) 31 f_5) u_1.2 ++ R) H := hP
    have hD : va_D A (XW ad cI cJ 0 b (va_up (va_up u_1.1 30 f_3) 31 f_5) u_1.2 ++ R) := hD
    refine lv_iinc (v := nI (i + 1)) (lv' := [(2, .int (nI (i + 1))), (0, .ref (ad 7)), (1, .ref (ad 2))]) hx hb dX6_goThrough_46 hl (k := 2) rfl (nI_1 i) (by decide) rfl (fun ls hl => ?_)
    refine lv_goto (tgt := 22) hx hb dX6_goThrough_49 (by decide) ?_
    exact ih ((va_up (va_up u_1.1 30 f_3) 31 f_5), u_1.2) H locs ls ⟨trivial, hP, hD, hS, lv_sub hl [1, 2, 0] rfl⟩
set_option maxHeartbeats 4000000 in
set_option maxRecDepth 100000 in
theorem c_pushDown (l : Launch) (D : va_G) (cI cJ cZ : ClassId) (ad : Nat → Nat) (b : Nat → Int32) (F : Nat → Nat → Int32) (G : Nat → Nat → Int64) (R : va_W) : CT l D (TY cI cJ cZ) yX3_pushDown (.code yX3_pushDown cX3_pushDown 3 (some Jvm.ClassFile.FieldType.boolean)) 0 0 0 (XW ad cI cJ 0 b F G ++ R) [.ref (ad 6)] (QI D (TY cI cJ cZ) (fun r u => r = 0 ∧ u = XW ad cI cJ 0 b F G ++ R)) := by
  refine ent (by decide) (Nat.le_of_ble_eq_true rfl) ?_
  intro p e s m below meth c ls A hx hb hr hg hown hml hlocks hnm hP hK hD hS hA hN hl
  have hl : lv_has ls 3 [(0, .ref (ad 6))] := hl
  refine lv_iconst (v := 0) hx hb dX3_pushDown_0 (by decide) ?_
  refine lv_istore_n (lv' := [(1, .int 0), (0, .ref (ad 6))]) hx hb dX3_pushDown_1 rfl hl (by decide) rfl (fun ls hl => ?_)
  refine lv_iconst (v := 0) hx hb dX3_pushDown_2 (by decide) ?_
  refine lv_istore_n (lv' := [(2, .int 0), (1, .int 0), (0, .ref (ad 6))]) hx hb dX3_pushDown_3 rfl hl (by decide) rfl (fun ls hl => ?_)
  refine lv_iload_n hx hb dX3_pushDown_4 rfl (lv_at hl 0 rfl) ?_
  refine lv_aload_n hx hb dX3_pushDown_5 rfl (lv_at hl 2 rfl) ?_
  refine va_get (D := D) (ci := 3) (v := .int 0) (C := RX3) (T := TX3) (N := 16) hx hb hg inGX3 hown hK hP 6 rfl rfl 12 (by decide) (hg _ mw_174) (fun _ h9 => h9) rfl dX3_pushDown_6 ?_
  refine lv_icmp_ge (tgt := 82) hx hb dX3_pushDown_9 (by decide) (fun c_9 => ?_) (fun c_9 => absurd (by decide) c_9)
  refine lv_iload_n hx hb dX3_pushDown_82 rfl (lv_at hl 1 rfl) ?_
  exact W.zret (v := 0) hx hb hr rfl (fun t ht hW => ⟨⟨0, (XW ad cI cJ 0 b F G ++ R), rfl, ⟨rfl, rfl⟩, ⟨by rw [ht]; exact hP, va_K.moved hW.alike hK, hD⟩⟩, hS.F ht⟩) hS.2.2 dX3_pushDown_83
set_option maxHeartbeats 4000000 in
set_option maxRecDepth 100000 in
theorem c_setLayers (l : Launch) (D : va_G) (cI cJ cZ : ClassId) (ad : Nat → Nat) (b : Nat → Int32) (F : Nat → Nat → Int32) (G : Nat → Nat → Int64) (R : va_W) : CT l D (TY cI cJ cZ) yX3_setLayers (.code yX3_setLayers cX3_setLayers 3 (none : Option FieldType)) 1 0 0 (XW ad cI cJ 0 b F G ++ R) [.ref (ad 6)] (QV D (TY cI cJ cZ) (fun u => ∃ F' G', u = XW ad cI cJ 0 b F' G' ++ R ∧ ∀ j, j < 40 → F' 34 j = -1)) := by
  refine ent (by decide) (Nat.le_of_ble_eq_true rfl) ?_
  intro p e s m below meth c ls A hx hb hr hg hown hml hlocks hnm hP hK hD hS hA hN hl
  have hl : lv_has ls 3 [(0, .ref (ad 6))] := hl
  refine lv_iconst (v := 0) hx hb dX3_setLayers_0 (by decide) ?_
  refine lv_istore_n (lv' := [(1, .int 0), (0, .ref (ad 6))]) hx hb dX3_setLayers_1 rfl hl (by decide) rfl (fun ls hl => ?_)
  -- the loop at 2
  refine w_loop (σ := (Nat → Nat → Int32) × (Nat → Nat → Int64)) (fun (i : Nat) (u_1 : (Nat → Nat → Int32) × (Nat → Nat → Int64)) (H : Heap) (locs : List Loc) (ls : Array Slot) => (∀ j, j < i → u_1.1 34 j = -1) ∧ va_P D vwCl (XW ad cI cJ 0 b u_1.1 u_1.2 ++ R) H ∧ va_D A (XW ad cI cJ 0 b u_1.1 u_1.2 ++ R) ∧ va_S A s.heap H locs ∧ lv_has ls 3 [(0, .ref (ad 6)), (1, .int (nI i))]) 40 (fun u_1 H locs ls hI => ?_) (fun i u_1 H locs ls hi hI ih => ?_) 0 (F, G) (Nat.zero_le _) ⟨(fun j hj => absurd hj (Nat.not_lt_zero j)), hP, hD, hS, by rw [nI_0]; exact lv_sub hl [1, 0] rfl⟩
  · obtain ⟨hF_1, hP, hD, hS, hl⟩ := hI
    have hP : va_P D vwCl (XW ad cI cJ 0 b u_1.1 u_1.2 ++ R) H := hP
    have hD : va_D A (XW ad cI cJ 0 b u_1.1 u_1.2 ++ R) := hD
    have hl : lv_has ls 3 [(0, .ref (ad 6)), (1, .int (nI 40))] := hl
    refine lv_iload_n hx hb dX3_setLayers_2 rfl (lv_at hl 1 rfl) ?_
    refine lv_bipush (v := 40) hx hb dX3_setLayers_3 (by decide) ?_
    refine lv_icmp_ge (tgt := 41) hx hb dX3_setLayers_5 (by decide) (fun c_5 => ?_) (fun c_5 => absurd (by decide) c_5)
    refine lv_iconst (v := 1) hx hb dX3_setLayers_41 (by decide) ?_
    refine lv_istore_n (lv' := [(1, .int 1), (0, .ref (ad 6))]) hx hb dX3_setLayers_42 rfl hl (by decide) rfl (fun ls hl => ?_)
    refine lv_iconst (v := 0) hx hb dX3_setLayers_43 (by decide) ?_
    refine lv_istore_n (lv' := [(2, .int 0), (1, .int 1), (0, .ref (ad 6))]) hx hb dX3_setLayers_44 rfl hl (by decide) rfl (fun ls hl => ?_)
    refine lv_iload_n hx hb dX3_setLayers_45 rfl (lv_at hl 0 rfl) ?_
    refine lv_bipush (v := 40) hx hb dX3_setLayers_46 (by decide) ?_
    refine lv_icmp_ge (tgt := 66) hx hb dX3_setLayers_48 (by decide) (fun c_48 => absurd c_48 (by decide)) (fun c_48 => ?_)
    refine lv_iload_n hx hb dX3_setLayers_51 rfl (lv_at hl 1 rfl) ?_
    refine lv_if_eq (tgt := 66) hx hb dX3_setLayers_52 (by decide) (fun c_52 => absurd c_52 (by decide)) (fun c_52 => ?_)
    refine lv_aload_n hx hb dX3_setLayers_55 rfl (lv_at hl 2 rfl) ?_
    refine kI (rV (q0 := 6) (ci := 3) hx hb hml hown hg hN hK hP hD (c_pushDown l D cI cJ cZ ad b u_1.1 u_1.2 R) mw_175 mw_176 mw_177 mw_178 mw_179 pdv_X3_pushDown ⟨Nat.le_of_ble_eq_true rfl, Nat.le_of_ble_eq_true rfl⟩ rfl rfl rfl hl.1 rfl (Nat.le_of_ble_eq_true rfl) dX3_setLayers_56 ⟨Nat.le_of_ble_eq_true rfl, Nat.le_of_ble_eq_true rfl⟩) hD hS hA (fun r_2 u_2 H locs hp hP hD hS => ?_)
    obtain ⟨rfl, rfl⟩ := hp
    refine lv_istore_n (lv' := [(1, .int 0), (2, .int 0), (0, .ref (ad 6))]) hx hb dX3_setLayers_59 rfl hl (by decide) rfl (fun ls hl => ?_)
    refine lv_iinc (v := 1) (lv' := [(2, .int 1), (1, .int 0), (0, .ref (ad 6))]) hx hb dX3_setLayers_60 hl (k := 1) rfl (by decide) (by decide) rfl (fun ls hl => ?_)
    refine lv_goto (tgt := 45) hx hb dX3_setLayers_63 (by decide) ?_
    refine lv_iload_n hx hb dX3_setLayers_45 rfl (lv_at hl 0 rfl) ?_
    refine lv_bipush (v := 40) hx hb dX3_setLayers_46 (by decide) ?_
    refine lv_icmp_ge (tgt := 66) hx hb dX3_setLayers_48 (by decide) (fun c_48 => absurd c_48 (by decide)) (fun c_48 => ?_)
    refine lv_iload_n hx hb dX3_setLayers_51 rfl (lv_at hl 1 rfl) ?_
    refine lv_if_eq (tgt := 66) hx hb dX3_setLayers_52 (by decide) (fun c_52 => ?_) (fun c_52 => absurd (by decide) c_52)
    refine lv_aload_n hx hb dX3_setLayers_66 rfl (lv_at hl 2 rfl) ?_
    refine lv_iconst (v := 0) hx hb dX3_setLayers_67 (by decide) ?_
    refine va_put (D := D) (ci := 3) (v := .int 0) (C := RX3) (T := TX3) (N := 16) hx hb hg inGX3 tyX3 tyX3_ok nmX3 hown hK hP hD hS 6 rfl rfl 13 (by decide) (hg _ mw_180) (fun _ h9 => h9) rfl (tyX3_ok 13 (by decide)) rfl rfl (Nat.le_of_ble_eq_true rfl) dX3_setLayers_68 (fun H locs hP hD hS => ?_)
    have hP : va_P D vwCl (XW ad cI cJ 0 b u_1.1 u_1.2 ++ R) H := hP
    have hD : va_D A (XW ad cI cJ 0 b u_1.1 u_1.2 ++ R) := hD
    refine lv_iconst (v := 0) hx hb dX3_setLayers_71 (by decide) ?_
    refine lv_istore_n (lv' := [(2, .int 0), (1, .int 0), (0, .ref (ad 6))]) hx hb dX3_setLayers_72 rfl hl (by decide) rfl (fun ls hl => ?_)
    -- the loop at 73
    refine w_loop (σ := Unit) (fun (i : Nat) (u_3 : Unit) (H : Heap) (locs : List Loc) (ls : Array Slot) => (True) ∧ va_P D vwCl (XW ad cI cJ 0 b u_1.1 u_1.2 ++ R) H ∧ va_D A (XW ad cI cJ 0 b u_1.1 u_1.2 ++ R) ∧ va_S A s.heap H locs ∧ lv_has ls 3 [(0, .ref (ad 6)), (1, .int 0), (2, .int (nI i))]) 40 (fun u_3 H locs ls hI => ?_) (fun i u_3 H locs ls hi hI ih => ?_) 0 () (Nat.zero_le _) ⟨trivial, hP, hD, hS, by rw [nI_0]; exact lv_sub hl [2, 1, 0] rfl⟩
    · obtain ⟨hF_3, hP, hD, hS, hl⟩ := hI
      have hP : va_P D vwCl (XW ad cI cJ 0 b u_1.1 u_1.2 ++ R) H := hP
      have hD : va_D A (XW ad cI cJ 0 b u_1.1 u_1.2 ++ R) := hD
      have hl : lv_has ls 3 [(0, .ref (ad 6)), (1, .int 0), (2, .int (nI 40))] := hl
      refine lv_iload_n hx hb dX3_setLayers_73 rfl (lv_at hl 2 rfl) ?_
      refine lv_bipush (v := 40) hx hb dX3_setLayers_74 (by decide) ?_
      refine lv_icmp_ge (tgt := 106) hx hb dX3_setLayers_76 (by decide) (fun c_76 => ?_) (fun c_76 => absurd (by decide) c_76)
      exact W.vret hx hb hr (fun t ht hW => ⟨⟨(XW ad cI cJ 0 b u_1.1 u_1.2 ++ R), rfl, ⟨_, _, rfl, hF_1⟩, ⟨by rw [ht]; exact hP, va_K.moved hW.alike hK, hD⟩⟩, hS.F ht⟩) hS.2.2 dX3_setLayers_106
    · obtain ⟨hF_3, hP, hD, hS, hl⟩ := hI
      have hP : va_P D vwCl (XW ad cI cJ 0 b u_1.1 u_1.2 ++ R) H := hP
      have hD : va_D A (XW ad cI cJ 0 b u_1.1 u_1.2 ++ R) := hD
      have hl : lv_has ls 3 [(0, .ref (ad 6)), (1, .int 0), (2, .int (nI i))] := hl
      refine lv_iload_n hx hb dX3_setLayers_73 rfl (lv_at hl 2 rfl) ?_
      refine lv_bipush (v := 40) hx hb dX3_setLayers_74 (by decide) ?_
      refine lv_icmp_ge (tgt := 106) hx hb dX3_setLayers_76 (by decide) (fun c_76 => absurd c_76 (nI_ge hi (by decide))) (fun c_76 => ?_)
      refine lv_aload_n hx hb dX3_setLayers_79 rfl (lv_at hl 0 rfl) ?_
      refine lv_aload_n hx hb dX3_setLayers_80 rfl (lv_at hl 0 rfl) ?_
      refine va_get (D := D) (ci := 3) (v := .int 0) (C := RX3) (T := TX3) (N := 16) hx hb hg inGX3 hown hK hP 6 rfl rfl 13 (by decide) (hg _ mw_180) (fun _ h9 => h9) rfl dX3_setLayers_81 ?_
      refine lv_aload_n hx hb dX3_setLayers_84 rfl (lv_at hl 0 rfl) ?_
      refine va_get (D := D) (ci := 3) (v := .ref (ad 34)) (C := RX3) (T := TX3) (N := 16) hx hb hg inGX3 hown hK hP 6 rfl rfl 1 (by decide) (hg _ mw_181) (fun _ h9 => h9) rfl dX3_setLayers_85 ?_
      refine lv_iload_n hx hb dX3_setLayers_88 rfl (lv_at hl 2 rfl) ?_
      refine kI (rSN hx hb hml hown hg hN hK hP hD (c_at l D cI cJ cZ (XW ad cI cJ 0 b u_1.1 u_1.2 ++ R) 34 (ad 34) 40 (u_1.1 34) (nI i) rfl (by decide)) mw_182 nw_96 mw_183 mw_110 pd_X7_at ⟨Nat.le_of_ble_eq_true rfl, Nat.le_of_ble_eq_true rfl⟩ rfl hl.1 rfl (Nat.le_of_ble_eq_true rfl) dX3_setLayers_89 ⟨Nat.le_of_ble_eq_true rfl, Nat.le_of_ble_eq_true rfl⟩) hD hS hA (fun r_4 u_4 H locs hp hP hD hS => ?_)
      obtain ⟨hp1, hp2, rfl⟩ := hp
      obtain rfl : r_4 = -1 := by rw [hp1 (vp_in_nI hi (by decide)), nI_clamp (by omega)]; exact hF_1 i hi
      refine lv_iconst (v := 1) hx hb dX3_setLayers_92 (by decide) ?_
      refine lv_iadd hx hb dX3_setLayers_93 ?_
      refine lv_topi (fun v_5 ev_5 => ?_)
      obtain rfl : v_5 = (0 : Int32) := ev_5.trans (by decide)
      refine va_mmax hx hb (by rw [hml]; exact hl.1.symm) hown (hg _ mw_184) (hg _ mw_185) (hg _ mw_186) (hg _ mw_187) (Nat.le_of_ble_eq_true rfl) (Nat.le_of_ble_eq_true rfl) (Nat.le_of_ble_eq_true rfl) (Nat.le_of_ble_eq_true rfl) dX3_setLayers_94 ?_
      refine lv_topi (fun v_6 ev_6 => ?_)
      obtain rfl : v_6 = (0 : Int32) := ev_6.trans (by decide)
      refine va_put (D := D) (ci := 3) (v := .int 0) (C := RX3) (T := TX3) (N := 16) hx hb hg inGX3 tyX3 tyX3_ok nmX3 hown hK hP hD hS 6 rfl rfl 13 (by decide) (hg _ mw_180) (fun _ h9 => h9) rfl (tyX3_ok 13 (by decide)) rfl rfl (Nat.le_of_ble_eq_true rfl) dX3_setLayers_97 (fun H locs hP hD hS => ?_)
      have hP : va_P D vwCl (XW ad cI cJ 0 b u_1.1 u_1.2 ++ R) H := hP
      have hD : va_D A (XW ad cI cJ 0 b u_1.1 u_1.2 ++ R) := hD
      refine lv_iinc (v := nI (i + 1)) (lv' := [(2, .int (nI (i + 1))), (0, .ref (ad 6)), (1, .int 0)]) hx hb dX3_setLayers_100 hl (k := 2) rfl (nI_1 i) (by decide) rfl (fun ls hl => ?_)
      refine lv_goto (tgt := 73) hx hb dX3_setLayers_103 (by decide) ?_
      exact ih () H locs ls ⟨trivial, hP, hD, hS, lv_sub hl [1, 2, 0] rfl⟩
  · obtain ⟨hF_1, hP, hD, hS, hl⟩ := hI
    have hP : va_P D vwCl (XW ad cI cJ 0 b u_1.1 u_1.2 ++ R) H := hP
    have hD : va_D A (XW ad cI cJ 0 b u_1.1 u_1.2 ++ R) := hD
    have hl : lv_has ls 3 [(0, .ref (ad 6)), (1, .int (nI i))] := hl
    refine lv_iload_n hx hb dX3_setLayers_2 rfl (lv_at hl 1 rfl) ?_
    refine lv_bipush (v := 40) hx hb dX3_setLayers_3 (by decide) ?_
    refine lv_icmp_ge (tgt := 41) hx hb dX3_setLayers_5 (by decide) (fun c_5 => absurd c_5 (nI_ge hi (by decide))) (fun c_5 => ?_)
    refine lv_aload_n hx hb dX3_setLayers_8 rfl (lv_at hl 0 rfl) ?_
    refine va_get (D := D) (ci := 3) (v := .ref (ad 34)) (C := RX3) (T := TX3) (N := 16) hx hb hg inGX3 hown hK hP 6 rfl rfl 1 (by decide) (hg _ mw_181) (fun _ h9 => h9) rfl dX3_setLayers_9 ?_
    refine lv_iload_n hx hb dX3_setLayers_12 rfl (lv_at hl 1 rfl) ?_
    refine lv_aload_n hx hb dX3_setLayers_13 rfl (lv_at hl 0 rfl) ?_
    refine va_get (D := D) (ci := 3) (v := .ref (ad 7)) (C := RX3) (T := TX3) (N := 16) hx hb hg inGX3 hown hK hP 6 rfl rfl 0 (by decide) (hg _ mw_188) (fun _ h9 => h9) rfl dX3_setLayers_14 ?_
    refine va_getN (D := D) (ci := 6) (v := .long 0) (C := RX6) (T := TX6) (N := 9) hx hb hg inGX6 hown hK hP 7 rfl rfl 7 (by decide) (hN.use nw_59) (fun _ h9 => h9) rfl dX3_setLayers_17 ?_
    refine lv_iload_n hx hb dX3_setLayers_20 rfl (lv_at hl 1 rfl) ?_
    refine kI (rSN hx hb hml hown hg hN hK hP hD (c_has0 l D cI cJ cZ (XW ad cI cJ 0 b u_1.1 u_1.2 ++ R) (nI i)) mw_129 nw_94 mw_130 mw_110 pd_X7_has ⟨Nat.le_of_ble_eq_true rfl, Nat.le_of_ble_eq_true rfl⟩ rfl hl.1 rfl (Nat.le_of_ble_eq_true rfl) dX3_setLayers_21 ⟨Nat.le_of_ble_eq_true rfl, Nat.le_of_ble_eq_true rfl⟩) hD hS hA (fun r_7 u_7 H locs hp hP hD hS => ?_)
    obtain ⟨rfl, rfl⟩ := hp
    refine lv_if_eq (tgt := 31) hx hb dX3_setLayers_24 (by decide) (fun c_24 => ?_) (fun c_24 => absurd (by decide) c_24)
    refine lv_iconst (v := (-1)) hx hb dX3_setLayers_31 (by decide) ?_
    refine kV (rSN hx hb hml hown hg hN hK hP hD (c_put l D cI cJ cZ (XW ad cI cJ 0 b u_1.1 u_1.2 ++ R) 34 (ad 34) 40 (u_1.1 34) (nI i) (-1) rfl (by decide)) mw_108 nw_95 mw_109 mw_110 pd_X7_put ⟨Nat.le_of_ble_eq_true rfl, Nat.le_of_ble_eq_true rfl⟩ rfl hl.1 rfl (Nat.le_of_ble_eq_true rfl) dX3_setLayers_32 ⟨Nat.le_of_ble_eq_true rfl, Nat.le_of_ble_eq_true rfl⟩) hD hS hA (fun u_8 H locs hp hP hD hS => ?_)
    obtain ⟨f_9, rfl, hp1, hp2⟩ := hp
    have hP : va_P D vwCl (XW ad cI cJ 0 b (va_up u_1.1 34 f_9) u_1.2 ++ R) H := hP
    have hD : va_D A (XW ad cI cJ 0 b (va_up u_1.1 34 f_9) u_1.2 ++ R) := hD
    refine lv_iinc (v := nI (i + 1)) (lv' := [(1, .int (nI (i + 1))), (0, .ref (ad 6))]) hx hb dX3_setLayers_35 hl (k := 1) rfl (nI_1 i) (by decide) rfl (fun ls hl => ?_)
    refine lv_goto (tgt := 2) hx hb dX3_setLayers_38 (by decide) ?_
    exact ih ((va_up u_1.1 34 f_9), u_1.2) H locs ls ⟨(lay_step hi hF_1 hp1), hP, hD, hS, lv_sub hl [1, 0] rfl⟩
set_option maxHeartbeats 4000000 in
set_option maxRecDepth 100000 in
theorem c_numberBends (l : Launch) (D : va_G) (cI cJ cZ : ClassId) (ad : Nat → Nat) (b : Nat → Int32) (F : Nat → Nat → Int32) (G : Nat → Nat → Int64) (R : va_W) : CT l D (TY cI cJ cZ) yX3_numberBends (.code yX3_numberBends cX3_numberBends 5 (none : Option FieldType)) 0 0 0 (XW ad cI cJ 0 b F G ++ R) [.ref (ad 6)] (QV D (TY cI cJ cZ) (fun u => u = XW ad cI cJ 0 b F G ++ R)) := by
  refine ent (by decide) (Nat.le_of_ble_eq_true rfl) ?_
  intro p e s m below meth c ls A hx hb hr hg hown hml hlocks hnm hP hK hD hS hA hN hl
  have hl : lv_has ls 5 [(0, .ref (ad 6))] := hl
  refine lv_bipush (v := 40) hx hb dX3_numberBends_0 (by decide) ?_
  refine lv_istore_n (lv' := [(1, .int 40), (0, .ref (ad 6))]) hx hb dX3_numberBends_2 rfl hl (by decide) rfl (fun ls hl => ?_)
  refine lv_iconst (v := 0) hx hb dX3_numberBends_3 (by decide) ?_
  refine lv_istore_n (lv' := [(2, .int 0), (1, .int 40), (0, .ref (ad 6))]) hx hb dX3_numberBends_4 rfl hl (by decide) rfl (fun ls hl => ?_)
  refine lv_iload_n hx hb dX3_numberBends_5 rfl (lv_at hl 0 rfl) ?_
  refine lv_aload_n hx hb dX3_numberBends_6 rfl (lv_at hl 2 rfl) ?_
  refine va_get (D := D) (ci := 3) (v := .int 0) (C := RX3) (T := TX3) (N := 16) hx hb hg inGX3 hown hK hP 6 rfl rfl 12 (by decide) (hg _ mw_174) (fun _ h9 => h9) rfl dX3_numberBends_7 ?_
  refine lv_icmp_ge (tgt := 61) hx hb dX3_numberBends_10 (by decide) (fun c_10 => ?_) (fun c_10 => absurd (by decide) c_10)
  exact W.vret hx hb hr (fun t ht hW => ⟨⟨(XW ad cI cJ 0 b F G ++ R), rfl, rfl, ⟨by rw [ht]; exact hP, va_K.moved hW.alike hK, hD⟩⟩, hS.F ht⟩) hS.2.2 dX3_numberBends_61
set_option maxHeartbeats 4000000 in
set_option maxRecDepth 100000 in
theorem c_draw (l : Launch) (D : va_G) (cI cJ cZ : ClassId) (ad : Nat → Nat) (b : Nat → Int32) (F : Nat → Nat → Int32) (G : Nat → Nat → Int64) (R : va_W) : CT l D (TY cI cJ cZ) yX3_draw (.code yX3_draw cX3_draw 4 (none : Option FieldType)) 2 0 0 (XW ad cI cJ 0 b F G ++ R) [.ref (ad 6), .ref (ad 2)] (QV D (TY cI cJ cZ) (fun u => ∃ F' G', u = XW ad cI cJ 0 (va_up b 5 0) F' G' ++ R)) := by
  refine ent (by decide) (Nat.le_of_ble_eq_true rfl) ?_
  intro p e s m below meth c ls A hx hb hr hg hown hml hlocks hnm hP hK hD hS hA hN hl
  have hl : lv_has ls 4 [(0, .ref (ad 6)), (1, .ref (ad 2))] := hl
  refine lv_aload_n hx hb dX3_draw_0 rfl (lv_at hl 0 rfl) ?_
  refine lv_aload_n hx hb dX3_draw_1 rfl (lv_at hl 1 rfl) ?_
  refine va_getN (D := D) (ci := 1) (v := .int 0) (C := RX1) (T := TX1) (N := 11) hx hb hg inGX1 hown hK hP 2 rfl rfl 8 (by decide) (hN.use nw_29) (fun _ h9 => h9) rfl dX3_draw_2 ?_
  refine va_put (D := D) (ci := 3) (v := .int 0) (C := RX3) (T := TX3) (N := 16) hx hb hg inGX3 tyX3 tyX3_ok nmX3 hown hK hP hD hS 6 rfl rfl 12 (by decide) (hg _ mw_174) (fun _ h9 => h9) rfl (tyX3_ok 12 (by decide)) rfl rfl (Nat.le_of_ble_eq_true rfl) dX3_draw_5 (fun H locs hP hD hS => ?_)
  have hP : va_P D vwCl (XW ad cI cJ 0 b F G ++ R) H := hP
  have hD : va_D A (XW ad cI cJ 0 b F G ++ R) := hD
  refine lv_aload_n hx hb dX3_draw_8 rfl (lv_at hl 0 rfl) ?_
  refine lv_iconst (v := 0) hx hb dX3_draw_9 (by decide) ?_
  refine va_put (D := D) (ci := 3) (v := .int 0) (C := RX3) (T := TX3) (N := 16) hx hb hg inGX3 tyX3 tyX3_ok nmX3 hown hK hP hD hS 6 rfl rfl 14 (by decide) (hg _ mw_189) (fun _ h9 => h9) rfl (tyX3_ok 14 (by decide)) rfl rfl (Nat.le_of_ble_eq_true rfl) dX3_draw_10 (fun H locs hP hD hS => ?_)
  have hP : va_P D vwCl (XW ad cI cJ 0 (va_up b 5 0) F G ++ R) H := hP
  have hD : va_D A (XW ad cI cJ 0 (va_up b 5 0) F G ++ R) := hD
  refine lv_aload_n hx hb dX3_draw_13 rfl (lv_at hl 0 rfl) ?_
  refine va_get (D := D) (ci := 3) (v := .ref (ad 7)) (C := RX3) (T := TX3) (N := 16) hx hb hg inGX3 hown hK hP 6 rfl rfl 0 (by decide) (hg _ mw_188) (fun _ h9 => h9) rfl dX3_draw_14 ?_
  refine lv_aload_n hx hb dX3_draw_17 rfl (lv_at hl 1 rfl) ?_
  refine kV (rV (q0 := 7) (ci := 6) hx hb hml hown hg hN hK hP hD (c_goThrough l D cI cJ cZ ad (va_up b 5 0) F G R) mw_190 mw_191 mw_192 mw_193 mw_194 pdv_X6_goThrough ⟨Nat.le_of_ble_eq_true rfl, Nat.le_of_ble_eq_true rfl⟩ rfl rfl rfl hl.1 rfl (Nat.le_of_ble_eq_true rfl) dX3_draw_18 ⟨Nat.le_of_ble_eq_true rfl, Nat.le_of_ble_eq_true rfl⟩) hD hS hA (fun u_1 H locs hp hP hD hS => ?_)
  obtain ⟨F_3, G_4, rfl⟩ := hp
  refine lv_aload_n hx hb dX3_draw_21 rfl (lv_at hl 0 rfl) ?_
  refine kV (rV (q0 := 6) (ci := 3) hx hb hml hown hg hN hK hP hD (c_setLayers l D cI cJ cZ ad (va_up b 5 0) F_3 G_4 R) mw_195 mw_196 mw_197 mw_198 mw_179 pdv_X3_setLayers ⟨Nat.le_of_ble_eq_true rfl, Nat.le_of_ble_eq_true rfl⟩ rfl rfl rfl hl.1 rfl (Nat.le_of_ble_eq_true rfl) dX3_draw_22 ⟨Nat.le_of_ble_eq_true rfl, Nat.le_of_ble_eq_true rfl⟩) hD hS hA (fun u_5 H locs hp hP hD hS => ?_)
  obtain ⟨F_7, G_8, rfl, hlayF_7⟩ := hp
  refine lv_aload_n hx hb dX3_draw_25 rfl (lv_at hl 0 rfl) ?_
  refine kV (rV (q0 := 6) (ci := 3) hx hb hml hown hg hN hK hP hD (c_numberBends l D cI cJ cZ ad (va_up b 5 0) F_7 G_8 R) mw_199 mw_200 mw_201 mw_202 mw_179 pdv_X3_numberBends ⟨Nat.le_of_ble_eq_true rfl, Nat.le_of_ble_eq_true rfl⟩ rfl rfl rfl hl.1 rfl (Nat.le_of_ble_eq_true rfl) dX3_draw_26 ⟨Nat.le_of_ble_eq_true rfl, Nat.le_of_ble_eq_true rfl⟩) hD hS hA (fun u_9 H locs hp hP hD hS => ?_)
  obtain rfl := hp
  refine lv_iconst (v := 0) hx hb dX3_draw_29 (by decide) ?_
  refine lv_istore_n (lv' := [(2, .int 0), (0, .ref (ad 6)), (1, .ref (ad 2))]) hx hb dX3_draw_30 rfl hl (by decide) rfl (fun ls hl => ?_)
  refine lv_iconst (v := 0) hx hb dX3_draw_31 (by decide) ?_
  refine lv_istore_n (lv' := [(3, .int 0), (2, .int 0), (0, .ref (ad 6)), (1, .ref (ad 2))]) hx hb dX3_draw_32 rfl hl (by decide) rfl (fun ls hl => ?_)
  refine lv_iload_n hx hb dX3_draw_33 rfl (lv_at hl 0 rfl) ?_
  refine lv_aload_n hx hb dX3_draw_34 rfl (lv_at hl 2 rfl) ?_
  refine va_get (D := D) (ci := 3) (v := .int 0) (C := RX3) (T := TX3) (N := 16) hx hb hg inGX3 hown hK hP 6 rfl rfl 13 (by decide) (hg _ mw_180) (fun _ h9 => h9) rfl dX3_draw_35 ?_
  refine lv_icmp_ge (tgt := 63) hx hb dX3_draw_38 (by decide) (fun c_38 => ?_) (fun c_38 => absurd (by decide) c_38)
  refine lv_aload_n hx hb dX3_draw_63 rfl (lv_at hl 2 rfl) ?_
  refine va_get (D := D) (ci := 3) (v := .ref (ad 35)) (C := RX3) (T := TX3) (N := 16) hx hb hg inGX3 hown hK hP 6 rfl rfl 2 (by decide) (hg _ mw_203) (fun _ h9 => h9) rfl dX3_draw_64 ?_
  refine lv_aload_n hx hb dX3_draw_67 rfl (lv_at hl 2 rfl) ?_
  refine va_get (D := D) (ci := 3) (v := .int 0) (C := RX3) (T := TX3) (N := 16) hx hb hg inGX3 hown hK hP 6 rfl rfl 13 (by decide) (hg _ mw_180) (fun _ h9 => h9) rfl dX3_draw_68 ?_
  refine lv_iload_n hx hb dX3_draw_71 rfl (lv_at hl 1 rfl) ?_
  refine kV (rSN hx hb hml hown hg hN hK hP hD (c_put l D cI cJ cZ (XW ad cI cJ 0 (va_up b 5 0) F_7 G_8 ++ R) 35 (ad 35) 41 (fun _ => 0) 0 0 rfl (by decide)) mw_108 nw_95 mw_109 mw_110 pd_X7_put ⟨Nat.le_of_ble_eq_true rfl, Nat.le_of_ble_eq_true rfl⟩ rfl hl.1 rfl (Nat.le_of_ble_eq_true rfl) dX3_draw_72 ⟨Nat.le_of_ble_eq_true rfl, Nat.le_of_ble_eq_true rfl⟩) hD hS hA (fun u_10 H locs hp hP hD hS => ?_)
  obtain ⟨f_11, rfl, hp1, hp2⟩ := hp
  obtain rfl : f_11 = (fun _ => 0) := putcI rfl hp1 hp2
  have hP : va_P D vwCl (XW ad cI cJ 0 (va_up b 5 0) F_7 G_8 ++ R) H := hP
  have hD : va_D A (XW ad cI cJ 0 (va_up b 5 0) F_7 G_8 ++ R) := hD
  exact W.vret hx hb hr (fun t ht hW => ⟨⟨(XW ad cI cJ 0 (va_up b 5 0) F_7 G_8 ++ R), rfl, ⟨_, _, rfl⟩, ⟨by rw [ht]; exact hP, va_K.moved hW.alike hK, hD⟩⟩, hS.F ht⟩) hS.2.2 dX3_draw_75
set_option maxHeartbeats 4000000 in
set_option maxRecDepth 100000 in
theorem c_freshLives (l : Launch) (D : va_G) (cI cJ cZ : ClassId) (ad : Nat → Nat) (b : Nat → Int32) (F : Nat → Nat → Int32) (G : Nat → Nat → Int64) (R : va_W) : CT l D (TY cI cJ cZ) yX7_freshLives (.code yX7_freshLives cX7_freshLives 1 (some (Jvm.ClassFile.FieldType.object "OrielChart$Lives"))) 4 0 0 (XW ad cI cJ 0 b F G ++ R) [.ref (ad 0)] (QR D (TY cI cJ cZ) (fun r u => r = ad 4 ∧ ∃ b' F' G', u = XW ad cI cJ 0 b' F' G' ++ R ∧ ∀ k, k ≠ 0 → k ≠ 3 → b' k = b k)) := by
  refine ent (by decide) (Nat.le_of_ble_eq_true rfl) ?_
  intro p e s m below meth c ls A hx hb hr hg hown hml hlocks hnm hP hK hD hS hA hN hl
  have hl : lv_has ls 1 [(0, .ref (ad 0))] := hl
  refine lv_aload_n hx hb dX7_freshLives_0 rfl (lv_at hl 0 rfl) ?_
  refine va_get (D := D) (ci := 7) (v := .ref (ad 4)) (C := RX7) (T := TX7) (N := 6) hx hb hg inGX7 hown hK hP 0 rfl rfl 3 (by decide) (hg _ mw_204) (fun _ h9 => h9) rfl dX7_freshLives_1 ?_
  refine va_getN (D := D) (ci := 2) (v := .int (b 3)) (C := RX2) (T := TX2) (N := 3) hx hb hg inGX2 hown hK hP 4 rfl rfl 2 (by decide) (hN.use nw_45) (fun _ h9 => h9) rfl dX7_freshLives_4 ?_
  refine lv_if_ne (tgt := 33) hx hb dX7_freshLives_7 (by decide) (fun c_7 => ?_) (fun c_7 => ?_)
  · refine lv_aload_n hx hb dX7_freshLives_33 rfl (lv_at hl 0 rfl) ?_
    refine va_get (D := D) (ci := 7) (v := .ref (ad 4)) (C := RX7) (T := TX7) (N := 6) hx hb hg inGX7 hown hK hP 0 rfl rfl 3 (by decide) (hg _ mw_204) (fun _ h9 => h9) rfl dX7_freshLives_34 ?_
    exact W.aret (v := .ref (ad 4)) hx hb hr (Or.inl ⟨_, rfl⟩) (Or.inr ⟨_, rfl⟩) (fun t ht hW => ⟨⟨(XW ad cI cJ 0 b F G ++ R), (ad 4), rfl, trivial, ⟨rfl, b, F, G, rfl, fun k _ _ => rfl⟩, ⟨by rw [ht]; exact hP, va_K.moved hW.alike hK, hD⟩⟩, hS.F ht⟩) hS.2.2 dX7_freshLives_37
  · refine lv_aload_n hx hb dX7_freshLives_10 rfl (lv_at hl 0 rfl) ?_
    refine va_get (D := D) (ci := 7) (v := .ref (ad 4)) (C := RX7) (T := TX7) (N := 6) hx hb hg inGX7 hown hK hP 0 rfl rfl 3 (by decide) (hg _ mw_204) (fun _ h9 => h9) rfl dX7_freshLives_11 ?_
    refine lv_aload_n hx hb dX7_freshLives_14 rfl (lv_at hl 0 rfl) ?_
    refine va_get (D := D) (ci := 7) (v := .ref (ad 1)) (C := RX7) (T := TX7) (N := 6) hx hb hg inGX7 hown hK hP 0 rfl rfl 0 (by decide) (hg _ mw_113) (fun _ h9 => h9) rfl dX7_freshLives_15 ?_
    refine lv_aload_n hx hb dX7_freshLives_18 rfl (lv_at hl 0 rfl) ?_
    refine kR (rV (q0 := 0) (ci := 7) hx hb hml hown hg hN hK hP hD (c_freshFlow l D cI cJ cZ ad b F G R) mw_134 mw_135 mw_136 mw_137 mw_110 pdv_X7_freshFlow ⟨Nat.le_of_ble_eq_true rfl, Nat.le_of_ble_eq_true rfl⟩ rfl rfl rfl hl.1 rfl (Nat.le_of_ble_eq_true rfl) dX7_freshLives_19 ⟨Nat.le_of_ble_eq_true rfl, Nat.le_of_ble_eq_true rfl⟩) hD hS hA (fun r_1 u_1 H locs hp hP hD hS => ?_)
    obtain ⟨rfl, b_2, F_3, G_4, rfl, hb_2⟩ := hp
    refine kV (rV (q0 := 4) (ci := 2) hx hb hml hown hg hN hK hP hD (c_follow l D cI cJ cZ ad b_2 F_3 G_4 R) mw_205 mw_206 mw_207 mw_208 mw_146 pdv_X2_follow ⟨Nat.le_of_ble_eq_true rfl, Nat.le_of_ble_eq_true rfl⟩ rfl rfl rfl hl.1 rfl (Nat.le_of_ble_eq_true rfl) dX7_freshLives_22 ⟨Nat.le_of_ble_eq_true rfl, Nat.le_of_ble_eq_true rfl⟩) hD hS hA (fun u_5 H locs hp hP hD hS => ?_)
    obtain ⟨F_7, G_8, rfl⟩ := hp
    refine lv_aload_n hx hb dX7_freshLives_25 rfl (lv_at hl 0 rfl) ?_
    refine va_get (D := D) (ci := 7) (v := .ref (ad 4)) (C := RX7) (T := TX7) (N := 6) hx hb hg inGX7 hown hK hP 0 rfl rfl 3 (by decide) (hg _ mw_204) (fun _ h9 => h9) rfl dX7_freshLives_26 ?_
    refine lv_iconst (v := 1) hx hb dX7_freshLives_29 (by decide) ?_
    refine va_putN (D := D) (ci := 2) (v := .int 1) (C := RX2) (T := TX2) (N := 3) hx hb hg inGX2 tyX2 tyX2_ok nmX2 hown hK hP hD hS 4 rfl rfl 2 (by decide) (hN.use nw_45) (fun _ h9 => h9) rfl (tyX2_ok 2 (by decide)) rfl rfl (Nat.le_of_ble_eq_true rfl) dX7_freshLives_30 (fun H locs hP hD hS => ?_)
    have hP : va_P D vwCl (XW ad cI cJ 0 (va_up b_2 3 1) F_7 G_8 ++ R) H := hP
    have hD : va_D A (XW ad cI cJ 0 (va_up b_2 3 1) F_7 G_8 ++ R) := hD
    refine lv_aload_n hx hb dX7_freshLives_33 rfl (lv_at hl 0 rfl) ?_
    refine va_get (D := D) (ci := 7) (v := .ref (ad 4)) (C := RX7) (T := TX7) (N := 6) hx hb hg inGX7 hown hK hP 0 rfl rfl 3 (by decide) (hg _ mw_204) (fun _ h9 => h9) rfl dX7_freshLives_34 ?_
    exact W.aret (v := .ref (ad 4)) hx hb hr (Or.inl ⟨_, rfl⟩) (Or.inr ⟨_, rfl⟩) (fun t ht hW => ⟨⟨(XW ad cI cJ 0 (va_up b_2 3 1) F_7 G_8 ++ R), (ad 4), rfl, trivial, ⟨rfl, _, _, _, rfl, fun k h0 h1 => by simp [va_up, h0, h1, hb_2]⟩, ⟨by rw [ht]; exact hP, va_K.moved hW.alike hK, hD⟩⟩, hS.F ht⟩) hS.2.2 dX7_freshLives_37
set_option maxHeartbeats 4000000 in
set_option maxRecDepth 100000 in
theorem c_freshReduction (l : Launch) (D : va_G) (cI cJ cZ : ClassId) (ad : Nat → Nat) (b : Nat → Int32) (F : Nat → Nat → Int32) (G : Nat → Nat → Int64) (R : va_W) : CT l D (TY cI cJ cZ) yX7_freshReduction (.code yX7_freshReduction cX7_freshReduction 1 (some (Jvm.ClassFile.FieldType.object "OrielChart$Reduction"))) 4 0 0 (XW ad cI cJ 0 b F G ++ R) [.ref (ad 0)] (QR D (TY cI cJ cZ) (fun r u => r = ad 5 ∧ ∃ b' F' G', u = XW ad cI cJ 0 b' F' G' ++ R ∧ ∀ k, k ≠ 0 → k ≠ 4 → b' k = b k)) := by
  refine ent (by decide) (Nat.le_of_ble_eq_true rfl) ?_
  intro p e s m below meth c ls A hx hb hr hg hown hml hlocks hnm hP hK hD hS hA hN hl
  have hl : lv_has ls 1 [(0, .ref (ad 0))] := hl
  refine lv_aload_n hx hb dX7_freshReduction_0 rfl (lv_at hl 0 rfl) ?_
  refine va_get (D := D) (ci := 7) (v := .ref (ad 5)) (C := RX7) (T := TX7) (N := 6) hx hb hg inGX7 hown hK hP 0 rfl rfl 4 (by decide) (hg _ mw_209) (fun _ h9 => h9) rfl dX7_freshReduction_1 ?_
  refine va_getN (D := D) (ci := 5) (v := .int (b 4)) (C := RX5) (T := TX5) (N := 8) hx hb hg inGX5 hown hK hP 5 rfl rfl 7 (by decide) (hN.use nw_52) (fun _ h9 => h9) rfl dX7_freshReduction_4 ?_
  refine lv_if_ne (tgt := 29) hx hb dX7_freshReduction_7 (by decide) (fun c_7 => ?_) (fun c_7 => ?_)
  · refine lv_aload_n hx hb dX7_freshReduction_29 rfl (lv_at hl 0 rfl) ?_
    refine va_get (D := D) (ci := 7) (v := .ref (ad 5)) (C := RX7) (T := TX7) (N := 6) hx hb hg inGX7 hown hK hP 0 rfl rfl 4 (by decide) (hg _ mw_209) (fun _ h9 => h9) rfl dX7_freshReduction_30 ?_
    exact W.aret (v := .ref (ad 5)) hx hb hr (Or.inl ⟨_, rfl⟩) (Or.inr ⟨_, rfl⟩) (fun t ht hW => ⟨⟨(XW ad cI cJ 0 b F G ++ R), (ad 5), rfl, trivial, ⟨rfl, b, F, G, rfl, fun k _ _ => rfl⟩, ⟨by rw [ht]; exact hP, va_K.moved hW.alike hK, hD⟩⟩, hS.F ht⟩) hS.2.2 dX7_freshReduction_33
  · refine lv_aload_n hx hb dX7_freshReduction_10 rfl (lv_at hl 0 rfl) ?_
    refine va_get (D := D) (ci := 7) (v := .ref (ad 5)) (C := RX7) (T := TX7) (N := 6) hx hb hg inGX7 hown hK hP 0 rfl rfl 4 (by decide) (hg _ mw_209) (fun _ h9 => h9) rfl dX7_freshReduction_11 ?_
    refine lv_aload_n hx hb dX7_freshReduction_14 rfl (lv_at hl 0 rfl) ?_
    refine kR (rV (q0 := 0) (ci := 7) hx hb hml hown hg hN hK hP hD (c_freshFlow l D cI cJ cZ ad b F G R) mw_134 mw_135 mw_136 mw_137 mw_110 pdv_X7_freshFlow ⟨Nat.le_of_ble_eq_true rfl, Nat.le_of_ble_eq_true rfl⟩ rfl rfl rfl hl.1 rfl (Nat.le_of_ble_eq_true rfl) dX7_freshReduction_15 ⟨Nat.le_of_ble_eq_true rfl, Nat.le_of_ble_eq_true rfl⟩) hD hS hA (fun r_1 u_1 H locs hp hP hD hS => ?_)
    obtain ⟨rfl, b_2, F_3, G_4, rfl, hb_2⟩ := hp
    refine kV (rV (q0 := 5) (ci := 5) hx hb hml hown hg hN hK hP hD (c_reduce l D cI cJ cZ ad b_2 F_3 G_4 R) mw_210 mw_211 mw_212 mw_213 mw_160 pdv_X5_reduce ⟨Nat.le_of_ble_eq_true rfl, Nat.le_of_ble_eq_true rfl⟩ rfl rfl rfl hl.1 rfl (Nat.le_of_ble_eq_true rfl) dX7_freshReduction_18 ⟨Nat.le_of_ble_eq_true rfl, Nat.le_of_ble_eq_true rfl⟩) hD hS hA (fun u_5 H locs hp hP hD hS => ?_)
    obtain ⟨F_7, G_8, rfl⟩ := hp
    refine lv_aload_n hx hb dX7_freshReduction_21 rfl (lv_at hl 0 rfl) ?_
    refine va_get (D := D) (ci := 7) (v := .ref (ad 5)) (C := RX7) (T := TX7) (N := 6) hx hb hg inGX7 hown hK hP 0 rfl rfl 4 (by decide) (hg _ mw_209) (fun _ h9 => h9) rfl dX7_freshReduction_22 ?_
    refine lv_iconst (v := 1) hx hb dX7_freshReduction_25 (by decide) ?_
    refine va_putN (D := D) (ci := 5) (v := .int 1) (C := RX5) (T := TX5) (N := 8) hx hb hg inGX5 tyX5 tyX5_ok nmX5 hown hK hP hD hS 5 rfl rfl 7 (by decide) (hN.use nw_52) (fun _ h9 => h9) rfl (tyX5_ok 7 (by decide)) rfl rfl (Nat.le_of_ble_eq_true rfl) dX7_freshReduction_26 (fun H locs hP hD hS => ?_)
    have hP : va_P D vwCl (XW ad cI cJ 0 (va_up b_2 4 1) F_7 G_8 ++ R) H := hP
    have hD : va_D A (XW ad cI cJ 0 (va_up b_2 4 1) F_7 G_8 ++ R) := hD
    refine lv_aload_n hx hb dX7_freshReduction_29 rfl (lv_at hl 0 rfl) ?_
    refine va_get (D := D) (ci := 7) (v := .ref (ad 5)) (C := RX7) (T := TX7) (N := 6) hx hb hg inGX7 hown hK hP 0 rfl rfl 4 (by decide) (hg _ mw_209) (fun _ h9 => h9) rfl dX7_freshReduction_30 ?_
    exact W.aret (v := .ref (ad 5)) hx hb hr (Or.inl ⟨_, rfl⟩) (Or.inr ⟨_, rfl⟩) (fun t ht hW => ⟨⟨(XW ad cI cJ 0 (va_up b_2 4 1) F_7 G_8 ++ R), (ad 5), rfl, trivial, ⟨rfl, _, _, _, rfl, fun k h0 h1 => by simp [va_up, h0, h1, hb_2]⟩, ⟨by rw [ht]; exact hP, va_K.moved hW.alike hK, hD⟩⟩, hS.F ht⟩) hS.2.2 dX7_freshReduction_33
set_option maxHeartbeats 4000000 in
set_option maxRecDepth 100000 in
theorem c_freshPicture (l : Launch) (D : va_G) (cI cJ cZ : ClassId) (ad : Nat → Nat) (b : Nat → Int32) (F : Nat → Nat → Int32) (G : Nat → Nat → Int64) (R : va_W) : CT l D (TY cI cJ cZ) yX7_freshPicture (.code yX7_freshPicture cX7_freshPicture 1 (some (Jvm.ClassFile.FieldType.object "OrielChart$Picture"))) 4 0 0 (XW ad cI cJ 0 b F G ++ R) [.ref (ad 0)] (QR D (TY cI cJ cZ) (fun r u => r = ad 6 ∧ ∃ b' F' G', u = XW ad cI cJ 0 b' F' G' ++ R ∧ (b 6 = 0 → b' 5 = 0) ∧ (¬ b 6 = 0 → b' 5 = b 5) ∧ ∀ k, k ≠ 0 → k ≠ 6 → k ≠ 5 → b' k = b k)) := by
  refine ent (by decide) (Nat.le_of_ble_eq_true rfl) ?_
  intro p e s m below meth c ls A hx hb hr hg hown hml hlocks hnm hP hK hD hS hA hN hl
  have hl : lv_has ls 1 [(0, .ref (ad 0))] := hl
  refine lv_aload_n hx hb dX7_freshPicture_0 rfl (lv_at hl 0 rfl) ?_
  refine va_get (D := D) (ci := 7) (v := .ref (ad 6)) (C := RX7) (T := TX7) (N := 6) hx hb hg inGX7 hown hK hP 0 rfl rfl 5 (by decide) (hg _ mw_214) (fun _ h9 => h9) rfl dX7_freshPicture_1 ?_
  refine va_getN (D := D) (ci := 3) (v := .int (b 6)) (C := RX3) (T := TX3) (N := 16) hx hb hg inGX3 hown hK hP 6 rfl rfl 15 (by decide) (hN.use nw_64) (fun _ h9 => h9) rfl dX7_freshPicture_4 ?_
  refine lv_if_ne (tgt := 29) hx hb dX7_freshPicture_7 (by decide) (fun c_7 => ?_) (fun c_7 => ?_)
  · refine lv_aload_n hx hb dX7_freshPicture_29 rfl (lv_at hl 0 rfl) ?_
    refine va_get (D := D) (ci := 7) (v := .ref (ad 6)) (C := RX7) (T := TX7) (N := 6) hx hb hg inGX7 hown hK hP 0 rfl rfl 5 (by decide) (hg _ mw_214) (fun _ h9 => h9) rfl dX7_freshPicture_30 ?_
    exact W.aret (v := .ref (ad 6)) hx hb hr (Or.inl ⟨_, rfl⟩) (Or.inr ⟨_, rfl⟩) (fun t ht hW => ⟨⟨(XW ad cI cJ 0 b F G ++ R), (ad 6), rfl, trivial, ⟨rfl, b, F, G, rfl, fun h => absurd h c_7, fun _ => rfl, fun k _ _ _ => rfl⟩, ⟨by rw [ht]; exact hP, va_K.moved hW.alike hK, hD⟩⟩, hS.F ht⟩) hS.2.2 dX7_freshPicture_33
  · refine lv_aload_n hx hb dX7_freshPicture_10 rfl (lv_at hl 0 rfl) ?_
    refine va_get (D := D) (ci := 7) (v := .ref (ad 6)) (C := RX7) (T := TX7) (N := 6) hx hb hg inGX7 hown hK hP 0 rfl rfl 5 (by decide) (hg _ mw_214) (fun _ h9 => h9) rfl dX7_freshPicture_11 ?_
    refine lv_aload_n hx hb dX7_freshPicture_14 rfl (lv_at hl 0 rfl) ?_
    refine kR (rV (q0 := 0) (ci := 7) hx hb hml hown hg hN hK hP hD (c_freshFlow l D cI cJ cZ ad b F G R) mw_134 mw_135 mw_136 mw_137 mw_110 pdv_X7_freshFlow ⟨Nat.le_of_ble_eq_true rfl, Nat.le_of_ble_eq_true rfl⟩ rfl rfl rfl hl.1 rfl (Nat.le_of_ble_eq_true rfl) dX7_freshPicture_15 ⟨Nat.le_of_ble_eq_true rfl, Nat.le_of_ble_eq_true rfl⟩) hD hS hA (fun r_1 u_1 H locs hp hP hD hS => ?_)
    obtain ⟨rfl, b_2, F_3, G_4, rfl, hb_2⟩ := hp
    refine kV (rV (q0 := 6) (ci := 3) hx hb hml hown hg hN hK hP hD (c_draw l D cI cJ cZ ad b_2 F_3 G_4 R) mw_215 mw_216 mw_217 mw_218 mw_179 pdv_X3_draw ⟨Nat.le_of_ble_eq_true rfl, Nat.le_of_ble_eq_true rfl⟩ rfl rfl rfl hl.1 rfl (Nat.le_of_ble_eq_true rfl) dX7_freshPicture_18 ⟨Nat.le_of_ble_eq_true rfl, Nat.le_of_ble_eq_true rfl⟩) hD hS hA (fun u_5 H locs hp hP hD hS => ?_)
    obtain ⟨F_7, G_8, rfl⟩ := hp
    refine lv_aload_n hx hb dX7_freshPicture_21 rfl (lv_at hl 0 rfl) ?_
    refine va_get (D := D) (ci := 7) (v := .ref (ad 6)) (C := RX7) (T := TX7) (N := 6) hx hb hg inGX7 hown hK hP 0 rfl rfl 5 (by decide) (hg _ mw_214) (fun _ h9 => h9) rfl dX7_freshPicture_22 ?_
    refine lv_iconst (v := 1) hx hb dX7_freshPicture_25 (by decide) ?_
    refine va_putN (D := D) (ci := 3) (v := .int 1) (C := RX3) (T := TX3) (N := 16) hx hb hg inGX3 tyX3 tyX3_ok nmX3 hown hK hP hD hS 6 rfl rfl 15 (by decide) (hN.use nw_64) (fun _ h9 => h9) rfl (tyX3_ok 15 (by decide)) rfl rfl (Nat.le_of_ble_eq_true rfl) dX7_freshPicture_26 (fun H locs hP hD hS => ?_)
    have hP : va_P D vwCl (XW ad cI cJ 0 (va_up (va_up b_2 5 0) 6 1) F_7 G_8 ++ R) H := hP
    have hD : va_D A (XW ad cI cJ 0 (va_up (va_up b_2 5 0) 6 1) F_7 G_8 ++ R) := hD
    refine lv_aload_n hx hb dX7_freshPicture_29 rfl (lv_at hl 0 rfl) ?_
    refine va_get (D := D) (ci := 7) (v := .ref (ad 6)) (C := RX7) (T := TX7) (N := 6) hx hb hg inGX7 hown hK hP 0 rfl rfl 5 (by decide) (hg _ mw_214) (fun _ h9 => h9) rfl dX7_freshPicture_30 ?_
    exact W.aret (v := .ref (ad 6)) hx hb hr (Or.inl ⟨_, rfl⟩) (Or.inr ⟨_, rfl⟩) (fun t ht hW => ⟨⟨(XW ad cI cJ 0 (va_up (va_up b_2 5 0) 6 1) F_7 G_8 ++ R), (ad 6), rfl, trivial, ⟨rfl, _, _, _, rfl, fun _ => by simp [va_up], fun h => absurd c_7 h, fun k h0 h1 h5 => by simp [va_up, h0, h1, h5, hb_2]⟩, ⟨by rw [ht]; exact hP, va_K.moved hW.alike hK, hD⟩⟩, hS.F ht⟩) hS.2.2 dX7_freshPicture_33
