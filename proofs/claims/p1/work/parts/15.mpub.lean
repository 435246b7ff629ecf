theorem dX8_loopsNow_0 : decode cX8_loopsNow 0 = .ok (.iconst 0, 1) := by decide +kernel
theorem dX8_loopsNow_1 : decode cX8_loopsNow 1 = .ok (.istore_n 1, 1) := by decide +kernel
theorem dX8_loopsNow_2 : decode cX8_loopsNow 2 = .ok (.iconst 0, 1) := by decide +kernel
theorem dX8_loopsNow_3 : decode cX8_loopsNow 3 = .ok (.istore_n 2, 1) := by decide +kernel
theorem dX8_loopsNow_4 : decode cX8_loopsNow 4 = .ok (.iload_n 2, 1) := by decide +kernel
theorem dX8_loopsNow_5 : decode cX8_loopsNow 5 = .ok (.aload_n 0, 1) := by decide +kernel
theorem dX8_loopsNow_6 : decode cX8_loopsNow 6 = .ok (.getfield 88, 3) := by decide +kernel
theorem dX8_loopsNow_9 : decode cX8_loopsNow 9 = .ok (.if_icmp .ge 28, 3) := by decide +kernel
theorem dX8_loopsNow_37 : decode cX8_loopsNow 37 = .ok (.iload_n 1, 1) := by decide +kernel
theorem dX8_loopsNow_38 : decode cX8_loopsNow 38 = .ok (.ireturn, 1) := by decide +kernel
theorem dX8_vainNow_0 : decode cX8_vainNow 0 = .ok (.iconst 0, 1) := by decide +kernel
theorem dX8_vainNow_1 : decode cX8_vainNow 1 = .ok (.istore_n 1, 1) := by decide +kernel
theorem dX8_vainNow_2 : decode cX8_vainNow 2 = .ok (.iconst 0, 1) := by decide +kernel
theorem dX8_vainNow_3 : decode cX8_vainNow 3 = .ok (.istore_n 2, 1) := by decide +kernel
theorem dX8_vainNow_4 : decode cX8_vainNow 4 = .ok (.iload_n 2, 1) := by decide +kernel
theorem dX8_vainNow_5 : decode cX8_vainNow 5 = .ok (.aload_n 0, 1) := by decide +kernel
theorem dX8_vainNow_6 : decode cX8_vainNow 6 = .ok (.getfield 88, 3) := by decide +kernel
theorem dX8_vainNow_9 : decode cX8_vainNow 9 = .ok (.if_icmp .ge 96, 3) := by decide +kernel
theorem dX8_vainNow_105 : decode cX8_vainNow 105 = .ok (.iload_n 1, 1) := by decide +kernel
theorem dX8_vainNow_106 : decode cX8_vainNow 106 = .ok (.ireturn, 1) := by decide +kernel
theorem dX8_windingsNow_0 : decode cX8_windingsNow 0 = .ok (.aload_n 0, 1) := by decide +kernel
theorem dX8_windingsNow_1 : decode cX8_windingsNow 1 = .ok (.getfield 78, 3) := by decide +kernel
theorem dX8_windingsNow_4 : decode cX8_windingsNow 4 = .ok (.ifCond .ne 5, 3) := by decide +kernel
theorem dX8_windingsNow_7 : decode cX8_windingsNow 7 = .ok (.iconst 0, 1) := by decide +kernel
theorem dX8_windingsNow_8 : decode cX8_windingsNow 8 = .ok (.ireturn, 1) := by decide +kernel
theorem dX8_isTameNow_0 : decode cX8_isTameNow 0 = .ok (.bipush 80, 2) := by decide +kernel
theorem dX8_isTameNow_2 : decode cX8_isTameNow 2 = .ok (.newarray .boolean, 2) := by decide +kernel
theorem dX8_isTameNow_4 : decode cX8_isTameNow 4 = .ok (.astore_n 1, 1) := by decide +kernel
theorem dX8_isTameNow_5 : decode cX8_isTameNow 5 = .ok (.iconst 0, 1) := by decide +kernel
theorem dX8_isTameNow_6 : decode cX8_isTameNow 6 = .ok (.istore_n 2, 1) := by decide +kernel
theorem dX8_isTameNow_7 : decode cX8_isTameNow 7 = .ok (.iload_n 2, 1) := by decide +kernel
theorem dX8_isTameNow_8 : decode cX8_isTameNow 8 = .ok (.aload_n 0, 1) := by decide +kernel
theorem dX8_isTameNow_9 : decode cX8_isTameNow 9 = .ok (.getfield 81, 3) := by decide +kernel
theorem dX8_isTameNow_12 : decode cX8_isTameNow 12 = .ok (.if_icmp .ge 17, 3) := by decide +kernel
theorem dX8_isTameNow_29 : decode cX8_isTameNow 29 = .ok (.aload_n 0, 1) := by decide +kernel
theorem dX8_isTameNow_30 : decode cX8_isTameNow 30 = .ok (.getfield 107, 3) := by decide +kernel
theorem dX8_isTameNow_33 : decode cX8_isTameNow 33 = .ok (.lstore_n 2, 1) := by decide +kernel
theorem dX8_isTameNow_34 : decode cX8_isTameNow 34 = .ok (.iconst 1, 1) := by decide +kernel
theorem dX8_isTameNow_35 : decode cX8_isTameNow 35 = .ok (.istore 4, 2) := by decide +kernel
theorem dX8_isTameNow_37 : decode cX8_isTameNow 37 = .ok (.iload 4, 2) := by decide +kernel
theorem dX8_isTameNow_39 : decode cX8_isTameNow 39 = .ok (.ifCond .eq 125, 3) := by decide +kernel
theorem dX8_isTameNow_42 : decode cX8_isTameNow 42 = .ok (.iconst 0, 1) := by decide +kernel
theorem dX8_isTameNow_43 : decode cX8_isTameNow 43 = .ok (.istore 4, 2) := by decide +kernel
theorem dX8_isTameNow_45 : decode cX8_isTameNow 45 = .ok (.iconst 0, 1) := by decide +kernel
theorem dX8_isTameNow_46 : decode cX8_isTameNow 46 = .ok (.istore 5, 2) := by decide +kernel
theorem dX8_isTameNow_48 : decode cX8_isTameNow 48 = .ok (.iload 5, 2) := by decide +kernel
theorem dX8_isTameNow_50 : decode cX8_isTameNow 50 = .ok (.aload_n 0, 1) := by decide +kernel
theorem dX8_isTameNow_51 : decode cX8_isTameNow 51 = .ok (.getfield 88, 3) := by decide +kernel
theorem dX8_isTameNow_54 : decode cX8_isTameNow 54 = .ok (.if_icmp .ge 107, 3) := by decide +kernel
theorem dX8_isTameNow_161 : decode cX8_isTameNow 161 = .ok (.goto (-124), 3) := by decide +kernel
theorem dX8_isTameNow_164 : decode cX8_isTameNow 164 = .ok (.lload_n 2, 1) := by decide +kernel
theorem dX8_isTameNow_165 : decode cX8_isTameNow 165 = .ok (.lconst 0, 1) := by decide +kernel
theorem dX8_isTameNow_166 : decode cX8_isTameNow 166 = .ok (.lcmp, 1) := by decide +kernel
theorem dX8_isTameNow_167 : decode cX8_isTameNow 167 = .ok (.ifCond .ne 7, 3) := by decide +kernel
theorem dX8_isTameNow_170 : decode cX8_isTameNow 170 = .ok (.iconst 1, 1) := by decide +kernel
theorem dX8_isTameNow_171 : decode cX8_isTameNow 171 = .ok (.goto 4, 3) := by decide +kernel
theorem dX8_isTameNow_175 : decode cX8_isTameNow 175 = .ok (.ireturn, 1) := by decide +kernel
theorem dX8_crossingsIn_0 : decode cX8_crossingsIn 0 = .ok (.iconst 0, 1) := by decide +kernel
theorem dX8_crossingsIn_1 : decode cX8_crossingsIn 1 = .ok (.istore_n 2, 1) := by decide +kernel
theorem dX8_crossingsIn_2 : decode cX8_crossingsIn 2 = .ok (.bipush 80, 2) := by decide +kernel
theorem dX8_crossingsIn_4 : decode cX8_crossingsIn 4 = .ok (.newarray .int, 2) := by decide +kernel
theorem dX8_crossingsIn_6 : decode cX8_crossingsIn 6 = .ok (.astore_n 3, 1) := by decide +kernel
theorem dX8_crossingsIn_7 : decode cX8_crossingsIn 7 = .ok (.bipush 80, 2) := by decide +kernel
theorem dX8_crossingsIn_9 : decode cX8_crossingsIn 9 = .ok (.newarray .int, 2) := by decide +kernel
theorem dX8_crossingsIn_11 : decode cX8_crossingsIn 11 = .ok (.astore 4, 2) := by decide +kernel
theorem dX8_crossingsIn_13 : decode cX8_crossingsIn 13 = .ok (.iconst 0, 1) := by decide +kernel
theorem dX8_crossingsIn_14 : decode cX8_crossingsIn 14 = .ok (.istore 5, 2) := by decide +kernel
theorem dX8_crossingsIn_16 : decode cX8_crossingsIn 16 = .ok (.iload 5, 2) := by decide +kernel
theorem dX8_crossingsIn_18 : decode cX8_crossingsIn 18 = .ok (.iconst 1, 1) := by decide +kernel
theorem dX8_crossingsIn_19 : decode cX8_crossingsIn 19 = .ok (.iadd, 1) := by decide +kernel
theorem dX8_crossingsIn_20 : decode cX8_crossingsIn 20 = .ok (.aload_n 0, 1) := by decide +kernel
theorem dX8_crossingsIn_21 : decode cX8_crossingsIn 21 = .ok (.getfield 216, 3) := by decide +kernel
theorem dX8_crossingsIn_24 : decode cX8_crossingsIn 24 = .ok (.if_icmp .ge 151, 3) := by decide +kernel
theorem dX8_crossingsIn_175 : decode cX8_crossingsIn 175 = .ok (.iload_n 2, 1) := by decide +kernel
theorem dX8_crossingsIn_176 : decode cX8_crossingsIn 176 = .ok (.ireturn, 1) := by decide +kernel
theorem dX8_sweepOnce_0 : decode cX8_sweepOnce 0 = .ok (.iload_n 2, 1) := by decide +kernel
theorem dX8_sweepOnce_1 : decode cX8_sweepOnce 1 = .ok (.ifCond .eq 31, 3) := by decide +kernel
theorem dX8_sweepOnce_4 : decode cX8_sweepOnce 4 = .ok (.iconst 1, 1) := by decide +kernel
theorem dX8_sweepOnce_5 : decode cX8_sweepOnce 5 = .ok (.istore_n 3, 1) := by decide +kernel
theorem dX8_sweepOnce_6 : decode cX8_sweepOnce 6 = .ok (.iload_n 3, 1) := by decide +kernel
theorem dX8_sweepOnce_7 : decode cX8_sweepOnce 7 = .ok (.aload_n 0, 1) := by decide +kernel
theorem dX8_sweepOnce_8 : decode cX8_sweepOnce 8 = .ok (.getfield 216, 3) := by decide +kernel
theorem dX8_sweepOnce_11 : decode cX8_sweepOnce 11 = .ok (.if_icmp .ge 18, 3) := by decide +kernel
theorem dX8_sweepOnce_29 : decode cX8_sweepOnce 29 = .ok (.goto 29, 3) := by decide +kernel
theorem dX8_sweepOnce_32 : decode cX8_sweepOnce 32 = .ok (.aload_n 0, 1) := by decide +kernel
theorem dX8_sweepOnce_33 : decode cX8_sweepOnce 33 = .ok (.getfield 216, 3) := by decide +kernel
theorem dX8_sweepOnce_36 : decode cX8_sweepOnce 36 = .ok (.iconst 2, 1) := by decide +kernel
theorem dX8_sweepOnce_37 : decode cX8_sweepOnce 37 = .ok (.isub, 1) := by decide +kernel
theorem dX8_sweepOnce_38 : decode cX8_sweepOnce 38 = .ok (.istore_n 3, 1) := by decide +kernel
theorem dX8_sweepOnce_39 : decode cX8_sweepOnce 39 = .ok (.iload_n 3, 1) := by decide +kernel
theorem dX8_sweepOnce_40 : decode cX8_sweepOnce 40 = .ok (.ifCond .lt 18, 3) := by decide +kernel
theorem dX8_sweepOnce_58 : decode cX8_sweepOnce 58 = .ok (.return_, 1) := by decide +kernel
theorem dX8_swept_0 : decode cX8_swept 0 = .ok (.iconst 0, 1) := by decide +kernel
theorem dX8_swept_1 : decode cX8_swept 1 = .ok (.istore_n 3, 1) := by decide +kernel
theorem dX8_swept_2 : decode cX8_swept 2 = .ok (.iload_n 3, 1) := by decide +kernel
theorem dX8_swept_3 : decode cX8_swept 3 = .ok (.iload_n 2, 1) := by decide +kernel
theorem dX8_swept_4 : decode cX8_swept 4 = .ok (.if_icmp .ge 30, 3) := by decide +kernel
theorem dX8_swept_7 : decode cX8_swept 7 = .ok (.aload_n 0, 1) := by decide +kernel
theorem dX8_swept_8 : decode cX8_swept 8 = .ok (.aload_n 1, 1) := by decide +kernel
theorem dX8_swept_9 : decode cX8_swept 9 = .ok (.aload_n 0, 1) := by decide +kernel
theorem dX8_swept_10 : decode cX8_swept 10 = .ok (.getfield 228, 3) := by decide +kernel
theorem dX8_swept_13 : decode cX8_swept 13 = .ok (.iload_n 3, 1) := by decide +kernel
theorem dX8_swept_14 : decode cX8_swept 14 = .ok (.iadd, 1) := by decide +kernel
theorem dX8_swept_15 : decode cX8_swept 15 = .ok (.iconst 2, 1) := by decide +kernel
theorem dX8_swept_16 : decode cX8_swept 16 = .ok (.irem, 1) := by decide +kernel
theorem dX8_swept_17 : decode cX8_swept 17 = .ok (.ifCond .ne 7, 3) := by decide +kernel
theorem dX8_swept_20 : decode cX8_swept 20 = .ok (.iconst 1, 1) := by decide +kernel
theorem dX8_swept_21 : decode cX8_swept 21 = .ok (.goto 4, 3) := by decide +kernel
theorem dX8_swept_24 : decode cX8_swept 24 = .ok (.iconst 0, 1) := by decide +kernel
theorem dX8_swept_25 : decode cX8_swept 25 = .ok (.invokevirtual 331, 3) := by decide +kernel
theorem dX8_swept_28 : decode cX8_swept 28 = .ok (.iinc 3 1, 3) := by decide +kernel
theorem dX8_swept_31 : decode cX8_swept 31 = .ok (.goto (-29), 3) := by decide +kernel
theorem dX8_swept_34 : decode cX8_swept 34 = .ok (.aload_n 0, 1) := by decide +kernel
theorem dX8_swept_35 : decode cX8_swept 35 = .ok (.aload_n 1, 1) := by decide +kernel
theorem dX8_swept_36 : decode cX8_swept 36 = .ok (.invokevirtual 327, 3) := by decide +kernel
theorem dX8_swept_39 : decode cX8_swept 39 = .ok (.ireturn, 1) := by decide +kernel
theorem dX8_add_0 : decode cX8_add 0 = .ok (.aload_n 0, 1) := by decide +kernel
theorem dX8_add_1 : decode cX8_add 1 = .ok (.aload_n 0, 1) := by decide +kernel
theorem dX8_add_2 : decode cX8_add 2 = .ok (.getfield 340, 3) := by decide +kernel
theorem dX8_add_5 : decode cX8_add 5 = .ok (.ldc2_w 343, 3) := by decide +kernel
theorem dX8_add_8 : decode cX8_add 8 = .ok (.lmul, 1) := by decide +kernel
theorem dX8_add_9 : decode cX8_add 9 = .ok (.iload_n 1, 1) := by decide +kernel
theorem dX8_add_10 : decode cX8_add 10 = .ok (.i2l, 1) := by decide +kernel
theorem dX8_add_11 : decode cX8_add 11 = .ok (.ladd, 1) := by decide +kernel
theorem dX8_add_12 : decode cX8_add 12 = .ok (.putfield 340, 3) := by decide +kernel
theorem dX8_add_15 : decode cX8_add 15 = .ok (.return_, 1) := by decide +kernel
theorem dX8_add__0 : decode cX8_add_ 0 = .ok (.aload_n 0, 1) := by decide +kernel
theorem dX8_add__1 : decode cX8_add_ 1 = .ok (.iload_n 1, 1) := by decide +kernel
theorem dX8_add__2 : decode cX8_add_ 2 = .ok (.ifCond .eq 7, 3) := by decide +kernel
theorem dX8_add__5 : decode cX8_add_ 5 = .ok (.iconst 1, 1) := by decide +kernel
theorem dX8_add__6 : decode cX8_add_ 6 = .ok (.goto 4, 3) := by decide +kernel
theorem dX8_add__9 : decode cX8_add_ 9 = .ok (.iconst 0, 1) := by decide +kernel
theorem dX8_add__10 : decode cX8_add_ 10 = .ok (.invokevirtual 345, 3) := by decide +kernel
theorem dX8_add__13 : decode cX8_add_ 13 = .ok (.return_, 1) := by decide +kernel
theorem dX8_isBlock_0 : decode cX8_isBlock 0 = .ok (.aload_n 0, 1) := by decide +kernel
theorem dX8_isBlock_1 : decode cX8_isBlock 1 = .ok (.invokevirtual 279, 3) := by decide +kernel
theorem dX8_isBlock_4 : decode cX8_isBlock 4 = .ok (.aload_n 0, 1) := by decide +kernel
theorem dX8_isBlock_5 : decode cX8_isBlock 5 = .ok (.iload_n 1, 1) := by decide +kernel
theorem dX8_isBlock_6 : decode cX8_isBlock 6 = .ok (.iconst 0, 1) := by decide +kernel
theorem dX8_isBlock_7 : decode cX8_isBlock 7 = .ok (.aload_n 0, 1) := by decide +kernel
theorem dX8_isBlock_8 : decode cX8_isBlock 8 = .ok (.getfield 88, 3) := by decide +kernel
theorem dX8_isBlock_11 : decode cX8_isBlock 11 = .ok (.iconst 1, 1) := by decide +kernel
theorem dX8_isBlock_12 : decode cX8_isBlock 12 = .ok (.isub, 1) := by decide +kernel
theorem dX8_isBlock_13 : decode cX8_isBlock 13 = .ok (.invokestatic 261, 3) := by decide +kernel
theorem dX8_isBlock_16 : decode cX8_isBlock 16 = .ok (.ifCond .eq 7, 3) := by decide +kernel
theorem dX8_isBlock_23 : decode cX8_isBlock 23 = .ok (.iconst 1, 1) := by decide +kernel
theorem dX8_isBlock_24 : decode cX8_isBlock 24 = .ok (.putfield 74, 3) := by decide +kernel
theorem dX8_isBlock_27 : decode cX8_isBlock 27 = .ok (.aload_n 0, 1) := by decide +kernel
theorem dX8_isBlock_28 : decode cX8_isBlock 28 = .ok (.getfield 74, 3) := by decide +kernel
theorem dX8_isBlock_31 : decode cX8_isBlock 31 = .ok (.ifCond .ne 7, 3) := by decide +kernel
theorem dX8_isBlock_38 : decode cX8_isBlock 38 = .ok (.iconst 0, 1) := by decide +kernel
theorem dX8_isBlock_39 : decode cX8_isBlock 39 = .ok (.ireturn, 1) := by decide +kernel
theorem dX8_isEdge_0 : decode cX8_isEdge 0 = .ok (.aload_n 0, 1) := by decide +kernel
theorem dX8_isEdge_1 : decode cX8_isEdge 1 = .ok (.invokevirtual 279, 3) := by decide +kernel
theorem dX8_isEdge_4 : decode cX8_isEdge 4 = .ok (.aload_n 0, 1) := by decide +kernel
theorem dX8_isEdge_5 : decode cX8_isEdge 5 = .ok (.iload_n 1, 1) := by decide +kernel
theorem dX8_isEdge_6 : decode cX8_isEdge 6 = .ok (.iconst 0, 1) := by decide +kernel
theorem dX8_isEdge_7 : decode cX8_isEdge 7 = .ok (.aload_n 0, 1) := by decide +kernel
theorem dX8_isEdge_8 : decode cX8_isEdge 8 = .ok (.getfield 81, 3) := by decide +kernel
theorem dX8_isEdge_11 : decode cX8_isEdge 11 = .ok (.iconst 1, 1) := by decide +kernel
theorem dX8_isEdge_12 : decode cX8_isEdge 12 = .ok (.isub, 1) := by decide +kernel
theorem dX8_isEdge_13 : decode cX8_isEdge 13 = .ok (.invokestatic 261, 3) := by decide +kernel
theorem dX8_isEdge_16 : decode cX8_isEdge 16 = .ok (.ifCond .eq 7, 3) := by decide +kernel
theorem dX8_isEdge_23 : decode cX8_isEdge 23 = .ok (.iconst 1, 1) := by decide +kernel
theorem dX8_isEdge_24 : decode cX8_isEdge 24 = .ok (.putfield 74, 3) := by decide +kernel
theorem dX8_isEdge_27 : decode cX8_isEdge 27 = .ok (.aload_n 0, 1) := by decide +kernel
theorem dX8_isEdge_28 : decode cX8_isEdge 28 = .ok (.getfield 74, 3) := by decide +kernel
theorem dX8_isEdge_31 : decode cX8_isEdge 31 = .ok (.ifCond .ne 7, 3) := by decide +kernel
theorem dX8_isEdge_38 : decode cX8_isEdge 38 = .ok (.iconst 0, 1) := by decide +kernel
theorem dX8_isEdge_39 : decode cX8_isEdge 39 = .ok (.ireturn, 1) := by decide +kernel
theorem dX8_isLayer_0 : decode cX8_isLayer 0 = .ok (.aload_n 0, 1) := by decide +kernel
theorem dX8_isLayer_1 : decode cX8_isLayer 1 = .ok (.invokevirtual 279, 3) := by decide +kernel
theorem dX8_isLayer_4 : decode cX8_isLayer 4 = .ok (.aload_n 0, 1) := by decide +kernel
theorem dX8_isLayer_5 : decode cX8_isLayer 5 = .ok (.iload_n 1, 1) := by decide +kernel
theorem dX8_isLayer_6 : decode cX8_isLayer 6 = .ok (.iconst 0, 1) := by decide +kernel
theorem dX8_isLayer_7 : decode cX8_isLayer 7 = .ok (.aload_n 0, 1) := by decide +kernel
theorem dX8_isLayer_8 : decode cX8_isLayer 8 = .ok (.getfield 216, 3) := by decide +kernel
theorem dX8_isLayer_11 : decode cX8_isLayer 11 = .ok (.iconst 1, 1) := by decide +kernel
theorem dX8_isLayer_12 : decode cX8_isLayer 12 = .ok (.isub, 1) := by decide +kernel
theorem dX8_isLayer_13 : decode cX8_isLayer 13 = .ok (.invokestatic 261, 3) := by decide +kernel
theorem dX8_isLayer_16 : decode cX8_isLayer 16 = .ok (.ifCond .eq 7, 3) := by decide +kernel
theorem dX8_isLayer_23 : decode cX8_isLayer 23 = .ok (.iconst 1, 1) := by decide +kernel
theorem dX8_isLayer_24 : decode cX8_isLayer 24 = .ok (.putfield 74, 3) := by decide +kernel
theorem dX8_isLayer_27 : decode cX8_isLayer 27 = .ok (.aload_n 0, 1) := by decide +kernel
theorem dX8_isLayer_28 : decode cX8_isLayer 28 = .ok (.getfield 74, 3) := by decide +kernel
theorem dX8_isLayer_31 : decode cX8_isLayer 31 = .ok (.ifCond .ne 7, 3) := by decide +kernel
theorem dX8_isLayer_38 : decode cX8_isLayer 38 = .ok (.iconst 0, 1) := by decide +kernel
theorem dX8_isLayer_39 : decode cX8_isLayer 39 = .ok (.ireturn, 1) := by decide +kernel
theorem dX8_instructions_0 : decode cX8_instructions 0 = .ok (.aload_n 0, 1) := by decide +kernel
theorem dX8_instructions_1 : decode cX8_instructions 1 = .ok (.iconst 0, 1) := by decide +kernel
theorem dX8_instructions_2 : decode cX8_instructions 2 = .ok (.putfield 74, 3) := by decide +kernel
theorem dX8_instructions_5 : decode cX8_instructions 5 = .ok (.aload_n 0, 1) := by decide +kernel
theorem dX8_instructions_6 : decode cX8_instructions 6 = .ok (.getfield 78, 3) := by decide +kernel
theorem dX8_instructions_9 : decode cX8_instructions 9 = .ok (.ireturn, 1) := by decide +kernel
theorem dX8_blocks_0 : decode cX8_blocks 0 = .ok (.aload_n 0, 1) := by decide +kernel
theorem dX8_blocks_1 : decode cX8_blocks 1 = .ok (.iconst 0, 1) := by decide +kernel
theorem dX8_blocks_2 : decode cX8_blocks 2 = .ok (.putfield 74, 3) := by decide +kernel
theorem dX8_blocks_5 : decode cX8_blocks 5 = .ok (.aload_n 0, 1) := by decide +kernel
theorem dX8_blocks_6 : decode cX8_blocks 6 = .ok (.invokevirtual 279, 3) := by decide +kernel
theorem dX8_blocks_9 : decode cX8_blocks 9 = .ok (.aload_n 0, 1) := by decide +kernel
theorem dX8_blocks_10 : decode cX8_blocks 10 = .ok (.getfield 88, 3) := by decide +kernel
theorem dX8_blocks_13 : decode cX8_blocks 13 = .ok (.ireturn, 1) := by decide +kernel
theorem dX8_edges_0 : decode cX8_edges 0 = .ok (.aload_n 0, 1) := by decide +kernel
theorem dX8_edges_1 : decode cX8_edges 1 = .ok (.iconst 0, 1) := by decide +kernel
theorem dX8_edges_2 : decode cX8_edges 2 = .ok (.putfield 74, 3) := by decide +kernel
theorem dX8_edges_5 : decode cX8_edges 5 = .ok (.aload_n 0, 1) := by decide +kernel
theorem dX8_edges_6 : decode cX8_edges 6 = .ok (.invokevirtual 279, 3) := by decide +kernel
theorem dX8_edges_9 : decode cX8_edges 9 = .ok (.aload_n 0, 1) := by decide +kernel
theorem dX8_edges_10 : decode cX8_edges 10 = .ok (.getfield 81, 3) := by decide +kernel
theorem dX8_edges_13 : decode cX8_edges 13 = .ok (.ireturn, 1) := by decide +kernel
theorem dX8_loops_0 : decode cX8_loops 0 = .ok (.aload_n 0, 1) := by decide +kernel
theorem dX8_loops_1 : decode cX8_loops 1 = .ok (.iconst 0, 1) := by decide +kernel
theorem dX8_loops_2 : decode cX8_loops 2 = .ok (.putfield 74, 3) := by decide +kernel
theorem dX8_loops_5 : decode cX8_loops 5 = .ok (.aload_n 0, 1) := by decide +kernel
theorem dX8_loops_6 : decode cX8_loops 6 = .ok (.invokevirtual 279, 3) := by decide +kernel
theorem dX8_loops_9 : decode cX8_loops 9 = .ok (.aload_n 0, 1) := by decide +kernel
theorem dX8_loops_10 : decode cX8_loops 10 = .ok (.invokevirtual 295, 3) := by decide +kernel
theorem dX8_loops_13 : decode cX8_loops 13 = .ok (.ireturn, 1) := by decide +kernel
theorem dX8_vain_0 : decode cX8_vain 0 = .ok (.aload_n 0, 1) := by decide +kernel
theorem dX8_vain_1 : decode cX8_vain 1 = .ok (.iconst 0, 1) := by decide +kernel
theorem dX8_vain_2 : decode cX8_vain 2 = .ok (.putfield 74, 3) := by decide +kernel
theorem dX8_vain_5 : decode cX8_vain 5 = .ok (.aload_n 0, 1) := by decide +kernel
theorem dX8_vain_6 : decode cX8_vain 6 = .ok (.invokevirtual 279, 3) := by decide +kernel
theorem dX8_vain_9 : decode cX8_vain 9 = .ok (.aload_n 0, 1) := by decide +kernel
theorem dX8_vain_10 : decode cX8_vain 10 = .ok (.invokevirtual 309, 3) := by decide +kernel
theorem dX8_vain_13 : decode cX8_vain 13 = .ok (.ireturn, 1) := by decide +kernel
theorem dX8_windings_0 : decode cX8_windings 0 = .ok (.aload_n 0, 1) := by decide +kernel
theorem dX8_windings_1 : decode cX8_windings 1 = .ok (.iconst 0, 1) := by decide +kernel
theorem dX8_windings_2 : decode cX8_windings 2 = .ok (.putfield 74, 3) := by decide +kernel
theorem dX8_windings_5 : decode cX8_windings 5 = .ok (.aload_n 0, 1) := by decide +kernel
theorem dX8_windings_6 : decode cX8_windings 6 = .ok (.invokevirtual 279, 3) := by decide +kernel
theorem dX8_windings_9 : decode cX8_windings 9 = .ok (.aload_n 0, 1) := by decide +kernel
theorem dX8_windings_10 : decode cX8_windings 10 = .ok (.invokevirtual 312, 3) := by decide +kernel
theorem dX8_windings_13 : decode cX8_windings 13 = .ok (.ireturn, 1) := by decide +kernel
theorem dX8_steps_0 : decode cX8_steps 0 = .ok (.aload_n 0, 1) := by decide +kernel
theorem dX8_steps_1 : decode cX8_steps 1 = .ok (.iconst 0, 1) := by decide +kernel
theorem dX8_steps_2 : decode cX8_steps 2 = .ok (.putfield 74, 3) := by decide +kernel
theorem dX8_steps_5 : decode cX8_steps 5 = .ok (.aload_n 0, 1) := by decide +kernel
theorem dX8_steps_6 : decode cX8_steps 6 = .ok (.invokevirtual 279, 3) := by decide +kernel
theorem dX8_steps_9 : decode cX8_steps 9 = .ok (.aload_n 0, 1) := by decide +kernel
theorem dX8_steps_10 : decode cX8_steps 10 = .ok (.getfield 168, 3) := by decide +kernel
theorem dX8_steps_13 : decode cX8_steps 13 = .ok (.ireturn, 1) := by decide +kernel
theorem dX8_left_0 : decode cX8_left 0 = .ok (.aload_n 0, 1) := by decide +kernel
theorem dX8_left_1 : decode cX8_left 1 = .ok (.iconst 0, 1) := by decide +kernel
theorem dX8_left_2 : decode cX8_left 2 = .ok (.putfield 74, 3) := by decide +kernel
theorem dX8_left_5 : decode cX8_left 5 = .ok (.aload_n 0, 1) := by decide +kernel
theorem dX8_left_6 : decode cX8_left 6 = .ok (.invokevirtual 279, 3) := by decide +kernel
theorem dX8_left_9 : decode cX8_left 9 = .ok (.aload_n 0, 1) := by decide +kernel
theorem dX8_left_10 : decode cX8_left 10 = .ok (.getfield 165, 3) := by decide +kernel
theorem dX8_left_13 : decode cX8_left 13 = .ok (.invokestatic 156, 3) := by decide +kernel
theorem dX8_left_16 : decode cX8_left 16 = .ok (.ireturn, 1) := by decide +kernel
theorem dX8_layers_0 : decode cX8_layers 0 = .ok (.aload_n 0, 1) := by decide +kernel
theorem dX8_layers_1 : decode cX8_layers 1 = .ok (.iconst 0, 1) := by decide +kernel
theorem dX8_layers_2 : decode cX8_layers 2 = .ok (.putfield 74, 3) := by decide +kernel
theorem dX8_layers_5 : decode cX8_layers 5 = .ok (.aload_n 0, 1) := by decide +kernel
theorem dX8_layers_6 : decode cX8_layers 6 = .ok (.invokevirtual 279, 3) := by decide +kernel
theorem dX8_layers_9 : decode cX8_layers 9 = .ok (.aload_n 0, 1) := by decide +kernel
theorem dX8_layers_10 : decode cX8_layers 10 = .ok (.getfield 216, 3) := by decide +kernel
theorem dX8_layers_13 : decode cX8_layers 13 = .ok (.ireturn, 1) := by decide +kernel
theorem dX8_isTame_0 : decode cX8_isTame 0 = .ok (.aload_n 0, 1) := by decide +kernel
theorem dX8_isTame_1 : decode cX8_isTame 1 = .ok (.iconst 0, 1) := by decide +kernel
theorem dX8_isTame_2 : decode cX8_isTame 2 = .ok (.putfield 74, 3) := by decide +kernel
theorem dX8_isTame_5 : decode cX8_isTame 5 = .ok (.aload_n 0, 1) := by decide +kernel
theorem dX8_isTame_6 : decode cX8_isTame 6 = .ok (.invokevirtual 279, 3) := by decide +kernel
theorem dX8_isTame_9 : decode cX8_isTame 9 = .ok (.aload_n 0, 1) := by decide +kernel
theorem dX8_isTame_10 : decode cX8_isTame 10 = .ok (.invokevirtual 302, 3) := by decide +kernel
theorem dX8_isTame_13 : decode cX8_isTame 13 = .ok (.ireturn, 1) := by decide +kernel
theorem dX8_isNeat_0 : decode cX8_isNeat 0 = .ok (.aload_n 0, 1) := by decide +kernel
theorem dX8_isNeat_1 : decode cX8_isNeat 1 = .ok (.iconst 0, 1) := by decide +kernel
theorem dX8_isNeat_2 : decode cX8_isNeat 2 = .ok (.putfield 74, 3) := by decide +kernel
theorem dX8_isNeat_5 : decode cX8_isNeat 5 = .ok (.aload_n 0, 1) := by decide +kernel
theorem dX8_isNeat_6 : decode cX8_isNeat 6 = .ok (.invokevirtual 279, 3) := by decide +kernel
theorem dX8_isNeat_9 : decode cX8_isNeat 9 = .ok (.aload_n 0, 1) := by decide +kernel
theorem dX8_isNeat_10 : decode cX8_isNeat 10 = .ok (.getfield 165, 3) := by decide +kernel
theorem dX8_isNeat_13 : decode cX8_isNeat 13 = .ok (.invokestatic 156, 3) := by decide +kernel
theorem dX8_isNeat_16 : decode cX8_isNeat 16 = .ok (.iconst 1, 1) := by decide +kernel
theorem dX8_isNeat_17 : decode cX8_isNeat 17 = .ok (.if_icmp .ne 7, 3) := by decide +kernel
theorem dX8_isNeat_24 : decode cX8_isNeat 24 = .ok (.iconst 0, 1) := by decide +kernel
theorem dX8_isNeat_25 : decode cX8_isNeat 25 = .ok (.ireturn, 1) := by decide +kernel
theorem dX8_swept__0 : decode cX8_swept_ 0 = .ok (.aload_n 0, 1) := by decide +kernel
theorem dX8_swept__1 : decode cX8_swept_ 1 = .ok (.iconst 0, 1) := by decide +kernel
theorem dX8_swept__2 : decode cX8_swept_ 2 = .ok (.putfield 74, 3) := by decide +kernel
theorem dX8_swept__5 : decode cX8_swept_ 5 = .ok (.aload_n 0, 1) := by decide +kernel
theorem dX8_swept__6 : decode cX8_swept_ 6 = .ok (.getfield 228, 3) := by decide +kernel
theorem dX8_swept__9 : decode cX8_swept_ 9 = .ok (.ireturn, 1) := by decide +kernel
theorem dX8_meanLength_0 : decode cX8_meanLength 0 = .ok (.aload_n 0, 1) := by decide +kernel
theorem dX8_meanLength_1 : decode cX8_meanLength 1 = .ok (.iconst 0, 1) := by decide +kernel
theorem dX8_meanLength_2 : decode cX8_meanLength 2 = .ok (.putfield 74, 3) := by decide +kernel
theorem dX8_meanLength_5 : decode cX8_meanLength 5 = .ok (.aload_n 0, 1) := by decide +kernel
theorem dX8_meanLength_6 : decode cX8_meanLength 6 = .ok (.invokevirtual 279, 3) := by decide +kernel
theorem dX8_meanLength_9 : decode cX8_meanLength 9 = .ok (.iconst 0, 1) := by decide +kernel
theorem dX8_meanLength_10 : decode cX8_meanLength 10 = .ok (.istore_n 1, 1) := by decide +kernel
theorem dX8_meanLength_11 : decode cX8_meanLength 11 = .ok (.iconst 0, 1) := by decide +kernel
theorem dX8_meanLength_12 : decode cX8_meanLength 12 = .ok (.istore_n 2, 1) := by decide +kernel
theorem dX8_meanLength_13 : decode cX8_meanLength 13 = .ok (.iconst 0, 1) := by decide +kernel
theorem dX8_meanLength_14 : decode cX8_meanLength 14 = .ok (.istore_n 3, 1) := by decide +kernel
theorem dX8_meanLength_15 : decode cX8_meanLength 15 = .ok (.iload_n 3, 1) := by decide +kernel
theorem dX8_meanLength_16 : decode cX8_meanLength 16 = .ok (.aload_n 0, 1) := by decide +kernel
theorem dX8_meanLength_17 : decode cX8_meanLength 17 = .ok (.getfield 81, 3) := by decide +kernel
theorem dX8_meanLength_20 : decode cX8_meanLength 20 = .ok (.if_icmp .ge 33, 3) := by decide +kernel
theorem dX8_meanLength_53 : decode cX8_meanLength 53 = .ok (.iload_n 2, 1) := by decide +kernel
theorem dX8_meanLength_54 : decode cX8_meanLength 54 = .ok (.ifCond .ne 7, 3) := by decide +kernel
theorem dX8_meanLength_57 : decode cX8_meanLength 57 = .ok (.dconst 0, 1) := by decide +kernel
theorem dX8_meanLength_58 : decode cX8_meanLength 58 = .ok (.goto 8, 3) := by decide +kernel
theorem dX8_meanLength_66 : decode cX8_meanLength 66 = .ok (.dreturn, 1) := by decide +kernel
theorem dX8_crossings_0 : decode cX8_crossings 0 = .ok (.aload_n 0, 1) := by decide +kernel
theorem dX8_crossings_1 : decode cX8_crossings 1 = .ok (.iconst 0, 1) := by decide +kernel
theorem dX8_crossings_2 : decode cX8_crossings 2 = .ok (.putfield 74, 3) := by decide +kernel
theorem dX8_crossings_5 : decode cX8_crossings 5 = .ok (.aload_n 0, 1) := by decide +kernel
theorem dX8_crossings_6 : decode cX8_crossings 6 = .ok (.invokevirtual 279, 3) := by decide +kernel
theorem dX8_crossings_9 : decode cX8_crossings 9 = .ok (.aload_n 0, 1) := by decide +kernel
theorem dX8_crossings_10 : decode cX8_crossings 10 = .ok (.aload_n 0, 1) := by decide +kernel
theorem dX8_crossings_11 : decode cX8_crossings 11 = .ok (.getfield 70, 3) := by decide +kernel
theorem dX8_crossings_14 : decode cX8_crossings 14 = .ok (.invokevirtual 327, 3) := by decide +kernel
theorem dX8_crossings_17 : decode cX8_crossings 17 = .ok (.ireturn, 1) := by decide +kernel
theorem dX8_digest_0 : decode cX8_digest 0 = .ok (.aload_n 0, 1) := by decide +kernel
theorem dX8_digest_1 : decode cX8_digest 1 = .ok (.iconst 0, 1) := by decide +kernel
theorem dX8_digest_2 : decode cX8_digest 2 = .ok (.putfield 74, 3) := by decide +kernel
theorem dX8_digest_5 : decode cX8_digest 5 = .ok (.aload_n 0, 1) := by decide +kernel
theorem dX8_digest_6 : decode cX8_digest 6 = .ok (.invokevirtual 279, 3) := by decide +kernel
theorem dX8_digest_9 : decode cX8_digest 9 = .ok (.aload_n 0, 1) := by decide +kernel
theorem dX8_digest_10 : decode cX8_digest 10 = .ok (.ldc2_w 351, 3) := by decide +kernel
theorem dX8_digest_13 : decode cX8_digest 13 = .ok (.putfield 340, 3) := by decide +kernel
theorem dX8_digest_16 : decode cX8_digest 16 = .ok (.aload_n 0, 1) := by decide +kernel
theorem dX8_digest_17 : decode cX8_digest 17 = .ok (.aload_n 0, 1) := by decide +kernel
theorem dX8_digest_18 : decode cX8_digest 18 = .ok (.getfield 78, 3) := by decide +kernel
theorem dX8_digest_21 : decode cX8_digest 21 = .ok (.invokevirtual 345, 3) := by decide +kernel
theorem dX8_digest_24 : decode cX8_digest 24 = .ok (.iconst 0, 1) := by decide +kernel
theorem dX8_digest_25 : decode cX8_digest 25 = .ok (.istore_n 1, 1) := by decide +kernel
theorem dX8_digest_26 : decode cX8_digest 26 = .ok (.iload_n 1, 1) := by decide +kernel
theorem dX8_digest_27 : decode cX8_digest 27 = .ok (.aload_n 0, 1) := by decide +kernel
theorem dX8_digest_28 : decode cX8_digest 28 = .ok (.getfield 78, 3) := by decide +kernel
theorem dX8_digest_31 : decode cX8_digest 31 = .ok (.if_icmp .ge 39, 3) := by decide +kernel
theorem dX8_digest_70 : decode cX8_digest 70 = .ok (.aload_n 0, 1) := by decide +kernel
theorem dX8_digest_71 : decode cX8_digest 71 = .ok (.aload_n 0, 1) := by decide +kernel
theorem dX8_digest_72 : decode cX8_digest 72 = .ok (.getfield 88, 3) := by decide +kernel
theorem dX8_digest_75 : decode cX8_digest 75 = .ok (.invokevirtual 345, 3) := by decide +kernel
theorem dX8_digest_78 : decode cX8_digest 78 = .ok (.iconst 0, 1) := by decide +kernel
theorem dX8_digest_79 : decode cX8_digest 79 = .ok (.istore_n 1, 1) := by decide +kernel
theorem dX8_digest_80 : decode cX8_digest 80 = .ok (.iload_n 1, 1) := by decide +kernel
theorem dX8_digest_81 : decode cX8_digest 81 = .ok (.aload_n 0, 1) := by decide +kernel
theorem dX8_digest_82 : decode cX8_digest 82 = .ok (.getfield 88, 3) := by decide +kernel
theorem dX8_digest_85 : decode cX8_digest 85 = .ok (.if_icmp .ge 14, 3) := by decide +kernel
theorem dX8_digest_99 : decode cX8_digest 99 = .ok (.aload_n 0, 1) := by decide +kernel
theorem dX8_digest_100 : decode cX8_digest 100 = .ok (.aload_n 0, 1) := by decide +kernel
theorem dX8_digest_101 : decode cX8_digest 101 = .ok (.getfield 81, 3) := by decide +kernel
theorem dX8_digest_104 : decode cX8_digest 104 = .ok (.invokevirtual 345, 3) := by decide +kernel
theorem dX8_digest_107 : decode cX8_digest 107 = .ok (.iconst 0, 1) := by decide +kernel
theorem dX8_digest_108 : decode cX8_digest 108 = .ok (.istore_n 1, 1) := by decide +kernel
theorem dX8_digest_109 : decode cX8_digest 109 = .ok (.iload_n 1, 1) := by decide +kernel
theorem dX8_digest_110 : decode cX8_digest 110 = .ok (.aload_n 0, 1) := by decide +kernel
theorem dX8_digest_111 : decode cX8_digest 111 = .ok (.getfield 81, 3) := by decide +kernel
theorem dX8_digest_114 : decode cX8_digest 114 = .ok (.if_icmp .ge 73, 3) := by decide +kernel
theorem dX8_digest_187 : decode cX8_digest 187 = .ok (.aload_n 0, 1) := by decide +kernel
theorem dX8_digest_188 : decode cX8_digest 188 = .ok (.aload_n 0, 1) := by decide +kernel
theorem dX8_digest_189 : decode cX8_digest 189 = .ok (.invokevirtual 295, 3) := by decide +kernel
theorem dX8_digest_192 : decode cX8_digest 192 = .ok (.invokevirtual 345, 3) := by decide +kernel
theorem dX8_digest_195 : decode cX8_digest 195 = .ok (.aload_n 0, 1) := by decide +kernel
theorem dX8_digest_196 : decode cX8_digest 196 = .ok (.aload_n 0, 1) := by decide +kernel
theorem dX8_digest_197 : decode cX8_digest 197 = .ok (.invokevirtual 302, 3) := by decide +kernel
theorem dX8_digest_200 : decode cX8_digest 200 = .ok (.invokevirtual 348, 3) := by decide +kernel
theorem dX8_digest_203 : decode cX8_digest 203 = .ok (.aload_n 0, 1) := by decide +kernel
theorem dX8_digest_204 : decode cX8_digest 204 = .ok (.aload_n 0, 1) := by decide +kernel
theorem dX8_digest_205 : decode cX8_digest 205 = .ok (.invokevirtual 309, 3) := by decide +kernel
theorem dX8_digest_208 : decode cX8_digest 208 = .ok (.invokevirtual 345, 3) := by decide +kernel
theorem dX8_digest_211 : decode cX8_digest 211 = .ok (.aload_n 0, 1) := by decide +kernel
theorem dX8_digest_212 : decode cX8_digest 212 = .ok (.aload_n 0, 1) := by decide +kernel
theorem dX8_digest_213 : decode cX8_digest 213 = .ok (.invokevirtual 312, 3) := by decide +kernel
theorem dX8_digest_216 : decode cX8_digest 216 = .ok (.invokevirtual 345, 3) := by decide +kernel
theorem dX8_digest_219 : decode cX8_digest 219 = .ok (.aload_n 0, 1) := by decide +kernel
theorem dX8_digest_220 : decode cX8_digest 220 = .ok (.aload_n 0, 1) := by decide +kernel
theorem dX8_digest_221 : decode cX8_digest 221 = .ok (.getfield 168, 3) := by decide +kernel
theorem dX8_digest_224 : decode cX8_digest 224 = .ok (.invokevirtual 345, 3) := by decide +kernel
theorem dX8_digest_227 : decode cX8_digest 227 = .ok (.iconst 0, 1) := by decide +kernel
theorem dX8_digest_228 : decode cX8_digest 228 = .ok (.istore_n 1, 1) := by decide +kernel
theorem dX8_digest_229 : decode cX8_digest 229 = .ok (.iload_n 1, 1) := by decide +kernel
theorem dX8_digest_230 : decode cX8_digest 230 = .ok (.aload_n 0, 1) := by decide +kernel
theorem dX8_digest_231 : decode cX8_digest 231 = .ok (.getfield 168, 3) := by decide +kernel
theorem dX8_digest_234 : decode cX8_digest 234 = .ok (.if_icmp .ge 29, 3) := by decide +kernel
theorem dX8_digest_263 : decode cX8_digest 263 = .ok (.aload_n 0, 1) := by decide +kernel
theorem dX8_digest_264 : decode cX8_digest 264 = .ok (.aload_n 0, 1) := by decide +kernel
theorem dX8_digest_265 : decode cX8_digest 265 = .ok (.getfield 165, 3) := by decide +kernel
theorem dX8_digest_268 : decode cX8_digest 268 = .ok (.invokestatic 156, 3) := by decide +kernel
theorem dX8_digest_271 : decode cX8_digest 271 = .ok (.invokevirtual 345, 3) := by decide +kernel
theorem dX8_digest_274 : decode cX8_digest 274 = .ok (.aload_n 0, 1) := by decide +kernel
theorem dX8_digest_275 : decode cX8_digest 275 = .ok (.aload_n 0, 1) := by decide +kernel
theorem dX8_digest_276 : decode cX8_digest 276 = .ok (.getfield 165, 3) := by decide +kernel
theorem dX8_digest_279 : decode cX8_digest 279 = .ok (.invokestatic 156, 3) := by decide +kernel
theorem dX8_digest_282 : decode cX8_digest 282 = .ok (.iconst 1, 1) := by decide +kernel
theorem dX8_digest_283 : decode cX8_digest 283 = .ok (.if_icmp .ne 7, 3) := by decide +kernel
theorem dX8_digest_290 : decode cX8_digest 290 = .ok (.iconst 0, 1) := by decide +kernel
theorem dX8_digest_291 : decode cX8_digest 291 = .ok (.invokevirtual 348, 3) := by decide +kernel
theorem dX8_digest_294 : decode cX8_digest 294 = .ok (.aload_n 0, 1) := by decide +kernel
theorem dX8_digest_295 : decode cX8_digest 295 = .ok (.aload_n 0, 1) := by decide +kernel
theorem dX8_digest_296 : decode cX8_digest 296 = .ok (.getfield 216, 3) := by decide +kernel
theorem dX8_digest_299 : decode cX8_digest 299 = .ok (.invokevirtual 345, 3) := by decide +kernel
theorem dX8_digest_302 : decode cX8_digest 302 = .ok (.iconst 0, 1) := by decide +kernel
theorem dX8_digest_303 : decode cX8_digest 303 = .ok (.istore_n 1, 1) := by decide +kernel
theorem dX8_digest_304 : decode cX8_digest 304 = .ok (.iload_n 1, 1) := by decide +kernel
theorem dX8_digest_305 : decode cX8_digest 305 = .ok (.aload_n 0, 1) := by decide +kernel
theorem dX8_digest_306 : decode cX8_digest 306 = .ok (.getfield 216, 3) := by decide +kernel
theorem dX8_digest_309 : decode cX8_digest 309 = .ok (.if_icmp .ge 57, 3) := by decide +kernel
theorem dX8_digest_366 : decode cX8_digest 366 = .ok (.aload_n 0, 1) := by decide +kernel
theorem dX8_digest_367 : decode cX8_digest 367 = .ok (.aload_n 0, 1) := by decide +kernel
theorem dX8_digest_368 : decode cX8_digest 368 = .ok (.aload_n 0, 1) := by decide +kernel
theorem dX8_digest_369 : decode cX8_digest 369 = .ok (.getfield 70, 3) := by decide +kernel
theorem dX8_digest_372 : decode cX8_digest 372 = .ok (.invokevirtual 327, 3) := by decide +kernel
theorem dX8_digest_375 : decode cX8_digest 375 = .ok (.invokevirtual 345, 3) := by decide +kernel
theorem dX8_digest_378 : decode cX8_digest 378 = .ok (.aload_n 0, 1) := by decide +kernel
theorem dX8_digest_379 : decode cX8_digest 379 = .ok (.aload_n 0, 1) := by decide +kernel
theorem dX8_digest_380 : decode cX8_digest 380 = .ok (.getfield 228, 3) := by decide +kernel
theorem dX8_digest_383 : decode cX8_digest 383 = .ok (.invokevirtual 345, 3) := by decide +kernel
theorem dX8_digest_386 : decode cX8_digest 386 = .ok (.aload_n 0, 1) := by decide +kernel
theorem dX8_digest_387 : decode cX8_digest 387 = .ok (.getfield 340, 3) := by decide +kernel
theorem dX8_digest_390 : decode cX8_digest 390 = .ok (.lreturn, 1) := by decide +kernel
theorem dX8_remove_0 : decode cX8_remove 0 = .ok (.aload_n 0, 1) := by decide +kernel
theorem dX8_remove_1 : decode cX8_remove 1 = .ok (.iconst 0, 1) := by decide +kernel
theorem dX8_remove_2 : decode cX8_remove 2 = .ok (.putfield 74, 3) := by decide +kernel
theorem dX8_remove_5 : decode cX8_remove 5 = .ok (.aload_n 0, 1) := by decide +kernel
theorem dX8_remove_6 : decode cX8_remove 6 = .ok (.iload_n 1, 1) := by decide +kernel
theorem dX8_remove_7 : decode cX8_remove 7 = .ok (.invokevirtual 276, 3) := by decide +kernel
theorem dX8_remove_10 : decode cX8_remove 10 = .ok (.ifCond .ne 9, 3) := by decide +kernel
theorem dX8_remove_13 : decode cX8_remove 13 = .ok (.aload_n 0, 1) := by decide +kernel
theorem dX8_remove_14 : decode cX8_remove 14 = .ok (.iconst 1, 1) := by decide +kernel
theorem dX8_remove_15 : decode cX8_remove 15 = .ok (.invokevirtual 267, 3) := by decide +kernel
theorem dX8_remove_18 : decode cX8_remove 18 = .ok (.ireturn, 1) := by decide +kernel
theorem dX8_kindOf_0 : decode cX8_kindOf 0 = .ok (.aload_n 0, 1) := by decide +kernel
theorem dX8_kindOf_1 : decode cX8_kindOf 1 = .ok (.iconst 0, 1) := by decide +kernel
theorem dX8_kindOf_2 : decode cX8_kindOf 2 = .ok (.putfield 74, 3) := by decide +kernel
theorem dX8_kindOf_5 : decode cX8_kindOf 5 = .ok (.aload_n 0, 1) := by decide +kernel
theorem dX8_kindOf_6 : decode cX8_kindOf 6 = .ok (.iload_n 1, 1) := by decide +kernel
theorem dX8_kindOf_7 : decode cX8_kindOf 7 = .ok (.invokevirtual 276, 3) := by decide +kernel
theorem dX8_kindOf_10 : decode cX8_kindOf 10 = .ok (.ifCond .eq 12, 3) := by decide +kernel
theorem dX8_kindOf_22 : decode cX8_kindOf 22 = .ok (.aload_n 0, 1) := by decide +kernel
theorem dX8_kindOf_23 : decode cX8_kindOf 23 = .ok (.iconst 1, 1) := by decide +kernel
theorem dX8_kindOf_24 : decode cX8_kindOf 24 = .ok (.invokevirtual 267, 3) := by decide +kernel
theorem dX8_kindOf_27 : decode cX8_kindOf 27 = .ok (.ireturn, 1) := by decide +kernel
theorem dX8_targetOf_0 : decode cX8_targetOf 0 = .ok (.aload_n 0, 1) := by decide +kernel
theorem dX8_targetOf_1 : decode cX8_targetOf 1 = .ok (.iconst 0, 1) := by decide +kernel
theorem dX8_targetOf_2 : decode cX8_targetOf 2 = .ok (.putfield 74, 3) := by decide +kernel
theorem dX8_targetOf_5 : decode cX8_targetOf 5 = .ok (.aload_n 0, 1) := by decide +kernel
theorem dX8_targetOf_6 : decode cX8_targetOf 6 = .ok (.iload_n 1, 1) := by decide +kernel
theorem dX8_targetOf_7 : decode cX8_targetOf 7 = .ok (.invokevirtual 276, 3) := by decide +kernel
theorem dX8_targetOf_10 : decode cX8_targetOf 10 = .ok (.ifCond .eq 12, 3) := by decide +kernel
theorem dX8_targetOf_22 : decode cX8_targetOf 22 = .ok (.aload_n 0, 1) := by decide +kernel
theorem dX8_targetOf_23 : decode cX8_targetOf 23 = .ok (.iconst 1, 1) := by decide +kernel
theorem dX8_targetOf_24 : decode cX8_targetOf 24 = .ok (.invokevirtual 267, 3) := by decide +kernel
theorem dX8_targetOf_27 : decode cX8_targetOf 27 = .ok (.ireturn, 1) := by decide +kernel
theorem dX8_blockOf_0 : decode cX8_blockOf 0 = .ok (.aload_n 0, 1) := by decide +kernel
theorem dX8_blockOf_1 : decode cX8_blockOf 1 = .ok (.iconst 0, 1) := by decide +kernel
theorem dX8_blockOf_2 : decode cX8_blockOf 2 = .ok (.putfield 74, 3) := by decide +kernel
theorem dX8_blockOf_5 : decode cX8_blockOf 5 = .ok (.aload_n 0, 1) := by decide +kernel
theorem dX8_blockOf_6 : decode cX8_blockOf 6 = .ok (.invokevirtual 279, 3) := by decide +kernel
theorem dX8_blockOf_9 : decode cX8_blockOf 9 = .ok (.aload_n 0, 1) := by decide +kernel
theorem dX8_blockOf_10 : decode cX8_blockOf 10 = .ok (.iload_n 1, 1) := by decide +kernel
theorem dX8_blockOf_11 : decode cX8_blockOf 11 = .ok (.invokevirtual 276, 3) := by decide +kernel
theorem dX8_blockOf_14 : decode cX8_blockOf 14 = .ok (.ifCond .eq 12, 3) := by decide +kernel
theorem dX8_blockOf_26 : decode cX8_blockOf 26 = .ok (.aload_n 0, 1) := by decide +kernel
theorem dX8_blockOf_27 : decode cX8_blockOf 27 = .ok (.iconst 1, 1) := by decide +kernel
theorem dX8_blockOf_28 : decode cX8_blockOf 28 = .ok (.invokevirtual 267, 3) := by decide +kernel
theorem dX8_blockOf_31 : decode cX8_blockOf 31 = .ok (.ireturn, 1) := by decide +kernel
theorem dX8_firstOf_0 : decode cX8_firstOf 0 = .ok (.aload_n 0, 1) := by decide +kernel
theorem dX8_firstOf_1 : decode cX8_firstOf 1 = .ok (.iload_n 1, 1) := by decide +kernel
theorem dX8_firstOf_2 : decode cX8_firstOf 2 = .ok (.invokevirtual 282, 3) := by decide +kernel
theorem dX8_firstOf_5 : decode cX8_firstOf 5 = .ok (.ifCond .eq 12, 3) := by decide +kernel
theorem dX8_firstOf_17 : decode cX8_firstOf 17 = .ok (.iconst 0, 1) := by decide +kernel
theorem dX8_firstOf_18 : decode cX8_firstOf 18 = .ok (.ireturn, 1) := by decide +kernel
theorem dX8_parentOf_0 : decode cX8_parentOf 0 = .ok (.aload_n 0, 1) := by decide +kernel
theorem dX8_parentOf_1 : decode cX8_parentOf 1 = .ok (.iload_n 1, 1) := by decide +kernel
theorem dX8_parentOf_2 : decode cX8_parentOf 2 = .ok (.invokevirtual 282, 3) := by decide +kernel
theorem dX8_parentOf_5 : decode cX8_parentOf 5 = .ok (.ifCond .eq 11, 3) := by decide +kernel
theorem dX8_parentOf_16 : decode cX8_parentOf 16 = .ok (.iconst 0, 1) := by decide +kernel
theorem dX8_parentOf_17 : decode cX8_parentOf 17 = .ok (.ireturn, 1) := by decide +kernel
theorem dX8_loopSize_0 : decode cX8_loopSize 0 = .ok (.aload_n 0, 1) := by decide +kernel
theorem dX8_loopSize_1 : decode cX8_loopSize 1 = .ok (.iload_n 1, 1) := by decide +kernel
theorem dX8_loopSize_2 : decode cX8_loopSize 2 = .ok (.invokevirtual 282, 3) := by decide +kernel
theorem dX8_loopSize_5 : decode cX8_loopSize 5 = .ok (.ifCond .eq 15, 3) := by decide +kernel
theorem dX8_loopSize_20 : decode cX8_loopSize 20 = .ok (.iconst 0, 1) := by decide +kernel
theorem dX8_loopSize_21 : decode cX8_loopSize 21 = .ok (.ireturn, 1) := by decide +kernel
theorem dX8_depthOf_0 : decode cX8_depthOf 0 = .ok (.aload_n 0, 1) := by decide +kernel
theorem dX8_depthOf_1 : decode cX8_depthOf 1 = .ok (.iload_n 1, 1) := by decide +kernel
theorem dX8_depthOf_2 : decode cX8_depthOf 2 = .ok (.invokevirtual 282, 3) := by decide +kernel
theorem dX8_depthOf_5 : decode cX8_depthOf 5 = .ok (.ifCond .eq 11, 3) := by decide +kernel
theorem dX8_depthOf_16 : decode cX8_depthOf 16 = .ok (.iconst 0, 1) := by decide +kernel
theorem dX8_depthOf_17 : decode cX8_depthOf 17 = .ok (.ireturn, 1) := by decide +kernel
theorem dX8_liveIn_0 : decode cX8_liveIn 0 = .ok (.aload_n 0, 1) := by decide +kernel
theorem dX8_liveIn_1 : decode cX8_liveIn 1 = .ok (.iload_n 1, 1) := by decide +kernel
theorem dX8_liveIn_2 : decode cX8_liveIn 2 = .ok (.invokevirtual 282, 3) := by decide +kernel
theorem dX8_liveIn_5 : decode cX8_liveIn 5 = .ok (.ifCond .eq 11, 3) := by decide +kernel
theorem dX8_liveIn_16 : decode cX8_liveIn 16 = .ok (.iconst 0, 1) := by decide +kernel
theorem dX8_liveIn_17 : decode cX8_liveIn 17 = .ok (.ireturn, 1) := by decide +kernel
theorem dX8_endsIn_0 : decode cX8_endsIn 0 = .ok (.aload_n 0, 1) := by decide +kernel
theorem dX8_endsIn_1 : decode cX8_endsIn 1 = .ok (.iload_n 1, 1) := by decide +kernel
theorem dX8_endsIn_2 : decode cX8_endsIn 2 = .ok (.invokevirtual 282, 3) := by decide +kernel
theorem dX8_endsIn_5 : decode cX8_endsIn 5 = .ok (.ifCond .eq 12, 3) := by decide +kernel
theorem dX8_endsIn_17 : decode cX8_endsIn 17 = .ok (.iconst 0, 1) := by decide +kernel
theorem dX8_endsIn_18 : decode cX8_endsIn 18 = .ok (.ireturn, 1) := by decide +kernel
theorem dX8_layerOf_0 : decode cX8_layerOf 0 = .ok (.aload_n 0, 1) := by decide +kernel
theorem dX8_layerOf_1 : decode cX8_layerOf 1 = .ok (.iload_n 1, 1) := by decide +kernel
theorem dX8_layerOf_2 : decode cX8_layerOf 2 = .ok (.invokevirtual 282, 3) := by decide +kernel
theorem dX8_layerOf_5 : decode cX8_layerOf 5 = .ok (.ifCond .eq 11, 3) := by decide +kernel
theorem dX8_layerOf_16 : decode cX8_layerOf 16 = .ok (.iconst 0, 1) := by decide +kernel
theorem dX8_layerOf_17 : decode cX8_layerOf 17 = .ok (.ireturn, 1) := by decide +kernel
theorem dX8_placeOf_0 : decode cX8_placeOf 0 = .ok (.aload_n 0, 1) := by decide +kernel
theorem dX8_placeOf_1 : decode cX8_placeOf 1 = .ok (.iload_n 1, 1) := by decide +kernel
theorem dX8_placeOf_2 : decode cX8_placeOf 2 = .ok (.invokevirtual 282, 3) := by decide +kernel
theorem dX8_placeOf_5 : decode cX8_placeOf 5 = .ok (.ifCond .eq 11, 3) := by decide +kernel
theorem dX8_placeOf_16 : decode cX8_placeOf 16 = .ok (.iconst 0, 1) := by decide +kernel
theorem dX8_placeOf_17 : decode cX8_placeOf 17 = .ok (.ireturn, 1) := by decide +kernel
theorem dX8_edgeFrom_0 : decode cX8_edgeFrom 0 = .ok (.aload_n 0, 1) := by decide +kernel
theorem dX8_edgeFrom_1 : decode cX8_edgeFrom 1 = .ok (.iload_n 1, 1) := by decide +kernel
theorem dX8_edgeFrom_2 : decode cX8_edgeFrom 2 = .ok (.invokevirtual 285, 3) := by decide +kernel
theorem dX8_edgeFrom_5 : decode cX8_edgeFrom 5 = .ok (.ifCond .eq 12, 3) := by decide +kernel
theorem dX8_edgeFrom_17 : decode cX8_edgeFrom 17 = .ok (.iconst 0, 1) := by decide +kernel
theorem dX8_edgeFrom_18 : decode cX8_edgeFrom 18 = .ok (.ireturn, 1) := by decide +kernel
theorem dX8_edgeTo_0 : decode cX8_edgeTo 0 = .ok (.aload_n 0, 1) := by decide +kernel
theorem dX8_edgeTo_1 : decode cX8_edgeTo 1 = .ok (.iload_n 1, 1) := by decide +kernel
theorem dX8_edgeTo_2 : decode cX8_edgeTo 2 = .ok (.invokevirtual 285, 3) := by decide +kernel
theorem dX8_edgeTo_5 : decode cX8_edgeTo 5 = .ok (.ifCond .eq 12, 3) := by decide +kernel
theorem dX8_edgeTo_17 : decode cX8_edgeTo 17 = .ok (.iconst 0, 1) := by decide +kernel
theorem dX8_edgeTo_18 : decode cX8_edgeTo 18 = .ok (.ireturn, 1) := by decide +kernel
theorem dX8_bends_0 : decode cX8_bends 0 = .ok (.aload_n 0, 1) := by decide +kernel
theorem dX8_bends_1 : decode cX8_bends 1 = .ok (.iload_n 1, 1) := by decide +kernel
theorem dX8_bends_2 : decode cX8_bends 2 = .ok (.invokevirtual 285, 3) := by decide +kernel
theorem dX8_bends_5 : decode cX8_bends 5 = .ok (.ifCond .eq 11, 3) := by decide +kernel
theorem dX8_bends_16 : decode cX8_bends 16 = .ok (.iconst 0, 1) := by decide +kernel
theorem dX8_bends_17 : decode cX8_bends 17 = .ok (.ireturn, 1) := by decide +kernel
theorem dX8_ruleOf_0 : decode cX8_ruleOf 0 = .ok (.aload_n 0, 1) := by decide +kernel
theorem dX8_ruleOf_1 : decode cX8_ruleOf 1 = .ok (.invokevirtual 279, 3) := by decide +kernel
theorem dX8_ruleOf_4 : decode cX8_ruleOf 4 = .ok (.aload_n 0, 1) := by decide +kernel
theorem dX8_ruleOf_5 : decode cX8_ruleOf 5 = .ok (.iconst 0, 1) := by decide +kernel
theorem dX8_ruleOf_6 : decode cX8_ruleOf 6 = .ok (.putfield 74, 3) := by decide +kernel
theorem dX8_ruleOf_9 : decode cX8_ruleOf 9 = .ok (.iload_n 1, 1) := by decide +kernel
theorem dX8_ruleOf_10 : decode cX8_ruleOf 10 = .ok (.iconst 0, 1) := by decide +kernel
theorem dX8_ruleOf_11 : decode cX8_ruleOf 11 = .ok (.aload_n 0, 1) := by decide +kernel
theorem dX8_ruleOf_12 : decode cX8_ruleOf 12 = .ok (.getfield 168, 3) := by decide +kernel
theorem dX8_ruleOf_15 : decode cX8_ruleOf 15 = .ok (.iconst 1, 1) := by decide +kernel
theorem dX8_ruleOf_16 : decode cX8_ruleOf 16 = .ok (.isub, 1) := by decide +kernel
theorem dX8_ruleOf_17 : decode cX8_ruleOf 17 = .ok (.invokestatic 261, 3) := by decide +kernel
theorem dX8_ruleOf_20 : decode cX8_ruleOf 20 = .ok (.ifCond .eq 12, 3) := by decide +kernel
theorem dX8_ruleOf_32 : decode cX8_ruleOf 32 = .ok (.aload_n 0, 1) := by decide +kernel
theorem dX8_ruleOf_33 : decode cX8_ruleOf 33 = .ok (.iconst 1, 1) := by decide +kernel
theorem dX8_ruleOf_34 : decode cX8_ruleOf 34 = .ok (.invokevirtual 267, 3) := by decide +kernel
theorem dX8_ruleOf_37 : decode cX8_ruleOf 37 = .ok (.ireturn, 1) := by decide +kernel
theorem dX8_nodeOf_0 : decode cX8_nodeOf 0 = .ok (.aload_n 0, 1) := by decide +kernel
theorem dX8_nodeOf_1 : decode cX8_nodeOf 1 = .ok (.invokevirtual 279, 3) := by decide +kernel
theorem dX8_nodeOf_4 : decode cX8_nodeOf 4 = .ok (.aload_n 0, 1) := by decide +kernel
theorem dX8_nodeOf_5 : decode cX8_nodeOf 5 = .ok (.iconst 0, 1) := by decide +kernel
theorem dX8_nodeOf_6 : decode cX8_nodeOf 6 = .ok (.putfield 74, 3) := by decide +kernel
theorem dX8_nodeOf_9 : decode cX8_nodeOf 9 = .ok (.iload_n 1, 1) := by decide +kernel
theorem dX8_nodeOf_10 : decode cX8_nodeOf 10 = .ok (.iconst 0, 1) := by decide +kernel
theorem dX8_nodeOf_11 : decode cX8_nodeOf 11 = .ok (.aload_n 0, 1) := by decide +kernel
theorem dX8_nodeOf_12 : decode cX8_nodeOf 12 = .ok (.getfield 168, 3) := by decide +kernel
theorem dX8_nodeOf_15 : decode cX8_nodeOf 15 = .ok (.iconst 1, 1) := by decide +kernel
theorem dX8_nodeOf_16 : decode cX8_nodeOf 16 = .ok (.isub, 1) := by decide +kernel
theorem dX8_nodeOf_17 : decode cX8_nodeOf 17 = .ok (.invokestatic 261, 3) := by decide +kernel
theorem dX8_nodeOf_20 : decode cX8_nodeOf 20 = .ok (.ifCond .eq 12, 3) := by decide +kernel
theorem dX8_nodeOf_32 : decode cX8_nodeOf 32 = .ok (.aload_n 0, 1) := by decide +kernel
theorem dX8_nodeOf_33 : decode cX8_nodeOf 33 = .ok (.iconst 1, 1) := by decide +kernel
theorem dX8_nodeOf_34 : decode cX8_nodeOf 34 = .ok (.invokevirtual 267, 3) := by decide +kernel
theorem dX8_nodeOf_37 : decode cX8_nodeOf 37 = .ok (.ireturn, 1) := by decide +kernel
theorem dX8_points_0 : decode cX8_points 0 = .ok (.aload_n 0, 1) := by decide +kernel
theorem dX8_points_1 : decode cX8_points 1 = .ok (.iload_n 1, 1) := by decide +kernel
theorem dX8_points_2 : decode cX8_points 2 = .ok (.invokevirtual 318, 3) := by decide +kernel
theorem dX8_points_5 : decode cX8_points 5 = .ok (.ifCond .eq 13, 3) := by decide +kernel
theorem dX8_points_18 : decode cX8_points 18 = .ok (.iconst 0, 1) := by decide +kernel
theorem dX8_points_19 : decode cX8_points 19 = .ok (.ireturn, 1) := by decide +kernel
theorem dX8_isReached_0 : decode cX8_isReached 0 = .ok (.aload_n 0, 1) := by decide +kernel
theorem dX8_isReached_1 : decode cX8_isReached 1 = .ok (.iload_n 1, 1) := by decide +kernel
theorem dX8_isReached_2 : decode cX8_isReached 2 = .ok (.invokevirtual 282, 3) := by decide +kernel
theorem dX8_isReached_5 : decode cX8_isReached 5 = .ok (.ifCond .eq 15, 3) := by decide +kernel
theorem dX8_isReached_20 : decode cX8_isReached 20 = .ok (.iconst 0, 1) := by decide +kernel
theorem dX8_isReached_21 : decode cX8_isReached 21 = .ok (.ireturn, 1) := by decide +kernel
theorem dX8_isBack_0 : decode cX8_isBack 0 = .ok (.aload_n 0, 1) := by decide +kernel
theorem dX8_isBack_1 : decode cX8_isBack 1 = .ok (.iload_n 1, 1) := by decide +kernel
theorem dX8_isBack_2 : decode cX8_isBack 2 = .ok (.invokevirtual 285, 3) := by decide +kernel
theorem dX8_isBack_5 : decode cX8_isBack 5 = .ok (.ifCond .eq 15, 3) := by decide +kernel
theorem dX8_isBack_20 : decode cX8_isBack 20 = .ok (.iconst 0, 1) := by decide +kernel
theorem dX8_isBack_21 : decode cX8_isBack 21 = .ok (.ireturn, 1) := by decide +kernel
theorem dX8_isTurned_0 : decode cX8_isTurned 0 = .ok (.aload_n 0, 1) := by decide +kernel
theorem dX8_isTurned_1 : decode cX8_isTurned 1 = .ok (.iload_n 1, 1) := by decide +kernel
theorem dX8_isTurned_2 : decode cX8_isTurned 2 = .ok (.invokevirtual 285, 3) := by decide +kernel
theorem dX8_isTurned_5 : decode cX8_isTurned 5 = .ok (.ifCond .eq 24, 3) := by decide +kernel
theorem dX8_isTurned_29 : decode cX8_isTurned 29 = .ok (.iconst 0, 1) := by decide +kernel
theorem dX8_isTurned_30 : decode cX8_isTurned 30 = .ok (.ireturn, 1) := by decide +kernel
theorem dX8_setTarget_0 : decode cX8_setTarget 0 = .ok (.aload_n 0, 1) := by decide +kernel
theorem dX8_setTarget_1 : decode cX8_setTarget 1 = .ok (.iconst 0, 1) := by decide +kernel
theorem dX8_setTarget_2 : decode cX8_setTarget 2 = .ok (.putfield 74, 3) := by decide +kernel
theorem dX8_setTarget_5 : decode cX8_setTarget 5 = .ok (.aload_n 0, 1) := by decide +kernel
theorem dX8_setTarget_6 : decode cX8_setTarget 6 = .ok (.iload_n 1, 1) := by decide +kernel
theorem dX8_setTarget_7 : decode cX8_setTarget 7 = .ok (.invokevirtual 276, 3) := by decide +kernel
theorem dX8_setTarget_10 : decode cX8_setTarget 10 = .ok (.ifCond .ne 9, 3) := by decide +kernel
theorem dX8_setTarget_13 : decode cX8_setTarget 13 = .ok (.aload_n 0, 1) := by decide +kernel
theorem dX8_setTarget_14 : decode cX8_setTarget 14 = .ok (.iconst 1, 1) := by decide +kernel
theorem dX8_setTarget_15 : decode cX8_setTarget 15 = .ok (.invokevirtual 267, 3) := by decide +kernel
theorem dX8_setTarget_18 : decode cX8_setTarget 18 = .ok (.ireturn, 1) := by decide +kernel
theorem dX8_bendAt_0 : decode cX8_bendAt 0 = .ok (.aload_n 0, 1) := by decide +kernel
theorem dX8_bendAt_1 : decode cX8_bendAt 1 = .ok (.iload_n 1, 1) := by decide +kernel
theorem dX8_bendAt_2 : decode cX8_bendAt 2 = .ok (.invokevirtual 285, 3) := by decide +kernel
theorem dX8_bendAt_5 : decode cX8_bendAt 5 = .ok (.ifCond .ne 5, 3) := by decide +kernel
theorem dX8_bendAt_8 : decode cX8_bendAt 8 = .ok (.iconst 0, 1) := by decide +kernel
theorem dX8_bendAt_9 : decode cX8_bendAt 9 = .ok (.ireturn, 1) := by decide +kernel
theorem dX8_pointAt_0 : decode cX8_pointAt 0 = .ok (.aload_n 0, 1) := by decide +kernel
theorem dX8_pointAt_1 : decode cX8_pointAt 1 = .ok (.iload_n 1, 1) := by decide +kernel
theorem dX8_pointAt_2 : decode cX8_pointAt 2 = .ok (.invokevirtual 318, 3) := by decide +kernel
theorem dX8_pointAt_5 : decode cX8_pointAt 5 = .ok (.ifCond .ne 5, 3) := by decide +kernel
theorem dX8_pointAt_8 : decode cX8_pointAt 8 = .ok (.iconst 0, 1) := by decide +kernel
theorem dX8_pointAt_9 : decode cX8_pointAt 9 = .ok (.ireturn, 1) := by decide +kernel
theorem dX8_dominates_0 : decode cX8_dominates 0 = .ok (.aload_n 0, 1) := by decide +kernel
theorem dX8_dominates_1 : decode cX8_dominates 1 = .ok (.iload_n 1, 1) := by decide +kernel
theorem dX8_dominates_2 : decode cX8_dominates 2 = .ok (.invokevirtual 282, 3) := by decide +kernel
theorem dX8_dominates_5 : decode cX8_dominates 5 = .ok (.ifCond .eq 24, 3) := by decide +kernel
theorem dX8_dominates_29 : decode cX8_dominates 29 = .ok (.iconst 0, 1) := by decide +kernel
theorem dX8_dominates_30 : decode cX8_dominates 30 = .ok (.ireturn, 1) := by decide +kernel
theorem dX8_comesBehind_0 : decode cX8_comesBehind 0 = .ok (.aload_n 0, 1) := by decide +kernel
theorem dX8_comesBehind_1 : decode cX8_comesBehind 1 = .ok (.iload_n 1, 1) := by decide +kernel
theorem dX8_comesBehind_2 : decode cX8_comesBehind 2 = .ok (.invokevirtual 282, 3) := by decide +kernel
theorem dX8_comesBehind_5 : decode cX8_comesBehind 5 = .ok (.ifCond .eq 27, 3) := by decide +kernel
theorem dX8_comesBehind_32 : decode cX8_comesBehind 32 = .ok (.iconst 0, 1) := by decide +kernel
theorem dX8_comesBehind_33 : decode cX8_comesBehind 33 = .ok (.ireturn, 1) := by decide +kernel
theorem dX8_setUse_0 : decode cX8_setUse 0 = .ok (.aload_n 0, 1) := by decide +kernel
theorem dX8_setUse_1 : decode cX8_setUse 1 = .ok (.iconst 0, 1) := by decide +kernel
theorem dX8_setUse_2 : decode cX8_setUse 2 = .ok (.putfield 74, 3) := by decide +kernel
theorem dX8_setUse_5 : decode cX8_setUse 5 = .ok (.aload_n 0, 1) := by decide +kernel
theorem dX8_setUse_6 : decode cX8_setUse 6 = .ok (.iload_n 1, 1) := by decide +kernel
theorem dX8_setUse_7 : decode cX8_setUse 7 = .ok (.invokevirtual 276, 3) := by decide +kernel
theorem dX8_setUse_10 : decode cX8_setUse 10 = .ok (.ifCond .ne 9, 3) := by decide +kernel
theorem dX8_setUse_13 : decode cX8_setUse 13 = .ok (.aload_n 0, 1) := by decide +kernel
theorem dX8_setUse_14 : decode cX8_setUse 14 = .ok (.iconst 1, 1) := by decide +kernel
theorem dX8_setUse_15 : decode cX8_setUse 15 = .ok (.invokevirtual 267, 3) := by decide +kernel
theorem dX8_setUse_18 : decode cX8_setUse 18 = .ok (.ireturn, 1) := by decide +kernel
theorem mw_388 : Cond.arrayClass .boolean ∈ GW := gw_mem (inT6 _ (List.mem_of_getElem? (i := 19) rfl)) rfl
theorem mw_389 : Cond.arrayClass .int ∈ GW := gw_mem (inT1 _ (List.mem_of_getElem? (i := 62) rfl)) rfl
theorem mw_390 : Cond.code yX8_crossingsIn cX8_crossingsIn 9 (some Jvm.ClassFile.FieldType.int) ∈ GW := gw_mem (inT7 _ (List.mem_of_getElem? (i := 184) rfl)) rfl
theorem mw_391 : Cond.methodLink RX8 327 yX8_crossingsIn ∈ GW := gw_mem (inT7 _ (List.mem_of_getElem? (i := 181) rfl)) rfl
theorem mw_392 : Cond.instanceMethod yX8_crossingsIn ∈ GW := gw_mem (inT7 _ (List.mem_of_getElem? (i := 183) rfl)) rfl
theorem mw_393 : Cond.selects RX8 yX8_crossingsIn yX8_crossingsIn ∈ GW := gw_mem (inTp (q := (yX8_crossingsIn, 32)) (List.mem_of_getElem? (i := 96) rfl)) rfl
theorem mw_394 : Cond.code yX8_sweepOnce cX8_sweepOnce 4 (none : Option FieldType) ∈ GW := gw_mem (inT7 _ (List.mem_of_getElem? (i := 196) rfl)) rfl
theorem mw_395 : Cond.methodLink RX8 331 yX8_sweepOnce ∈ GW := gw_mem (inT7 _ (List.mem_of_getElem? (i := 193) rfl)) rfl
theorem mw_396 : Cond.instanceMethod yX8_sweepOnce ∈ GW := gw_mem (inT7 _ (List.mem_of_getElem? (i := 195) rfl)) rfl
theorem mw_397 : Cond.selects RX8 yX8_sweepOnce yX8_sweepOnce ∈ GW := gw_mem (inTp (q := (yX8_sweepOnce, 32)) (List.mem_of_getElem? (i := 98) rfl)) rfl
theorem mw_398 : Cond.fieldLink RX8 340 "OrielChartModel" "sum" "J" ∈ GW := gw_mem (inT5 _ (List.mem_of_getElem? (i := 193) rfl)) rfl
theorem mw_399 : Cond.constantLong RX8 343 (31) ∈ GW := gw_mem (inT7 _ (List.mem_of_getElem? (i := 231) rfl)) rfl
theorem mw_400 : Cond.code yX8_add cX8_add 2 (none : Option FieldType) ∈ GW := gw_mem (inT7 _ (List.mem_of_getElem? (i := 230) rfl)) rfl
theorem mw_401 : Cond.methodLink RX8 345 yX8_add ∈ GW := gw_mem (inT7 _ (List.mem_of_getElem? (i := 227) rfl)) rfl
theorem mw_402 : Cond.instanceMethod yX8_add ∈ GW := gw_mem (inT7 _ (List.mem_of_getElem? (i := 229) rfl)) rfl
theorem mw_403 : Cond.selects RX8 yX8_add yX8_add ∈ GW := gw_mem (inTp (q := (yX8_add, 32)) (List.mem_of_getElem? (i := 100) rfl)) rfl
theorem mw_404 : Cond.code yX8_lay cX8_lay 5 (none : Option FieldType) ∈ GW := gw_mem (inT6 _ (List.mem_of_getElem? (i := 81) rfl)) rfl
theorem mw_405 : Cond.methodLink RX8 279 yX8_lay ∈ GW := gw_mem (inT6 _ (List.mem_of_getElem? (i := 78) rfl)) rfl
theorem mw_406 : Cond.instanceMethod yX8_lay ∈ GW := gw_mem (inT6 _ (List.mem_of_getElem? (i := 80) rfl)) rfl
theorem mw_407 : Cond.selects RX8 yX8_lay yX8_lay ∈ GW := gw_mem (inTp (q := (yX8_lay, 32)) (List.mem_of_getElem? (i := 53) rfl)) rfl
theorem mw_408 : Cond.code yX8_loopsNow cX8_loopsNow 3 (some Jvm.ClassFile.FieldType.int) ∈ GW := gw_mem (inT7 _ (List.mem_of_getElem? (i := 57) rfl)) rfl
theorem mw_409 : Cond.methodLink RX8 295 yX8_loopsNow ∈ GW := gw_mem (inT7 _ (List.mem_of_getElem? (i := 54) rfl)) rfl
theorem mw_410 : Cond.instanceMethod yX8_loopsNow ∈ GW := gw_mem (inT7 _ (List.mem_of_getElem? (i := 56) rfl)) rfl
theorem mw_411 : Cond.selects RX8 yX8_loopsNow yX8_loopsNow ∈ GW := gw_mem (inTp (q := (yX8_loopsNow, 32)) (List.mem_of_getElem? (i := 86) rfl)) rfl
theorem mw_412 : Cond.code yX8_vainNow cX8_vainNow 5 (some Jvm.ClassFile.FieldType.int) ∈ GW := gw_mem (inT7 _ (List.mem_of_getElem? (i := 93) rfl)) rfl
theorem mw_413 : Cond.methodLink RX8 309 yX8_vainNow ∈ GW := gw_mem (inT7 _ (List.mem_of_getElem? (i := 90) rfl)) rfl
theorem mw_414 : Cond.instanceMethod yX8_vainNow ∈ GW := gw_mem (inT7 _ (List.mem_of_getElem? (i := 92) rfl)) rfl
theorem mw_415 : Cond.selects RX8 yX8_vainNow yX8_vainNow ∈ GW := gw_mem (inTp (q := (yX8_vainNow, 32)) (List.mem_of_getElem? (i := 90) rfl)) rfl
theorem mw_416 : Cond.code yX8_windingsNow cX8_windingsNow 3 (some Jvm.ClassFile.FieldType.int) ∈ GW := gw_mem (inT7 _ (List.mem_of_getElem? (i := 101) rfl)) rfl
theorem mw_417 : Cond.methodLink RX8 312 yX8_windingsNow ∈ GW := gw_mem (inT7 _ (List.mem_of_getElem? (i := 98) rfl)) rfl
theorem mw_418 : Cond.instanceMethod yX8_windingsNow ∈ GW := gw_mem (inT7 _ (List.mem_of_getElem? (i := 100) rfl)) rfl
theorem mw_419 : Cond.selects RX8 yX8_windingsNow yX8_windingsNow ∈ GW := gw_mem (inTp (q := (yX8_windingsNow, 32)) (List.mem_of_getElem? (i := 91) rfl)) rfl
theorem mw_420 : Cond.methodLink RX8 156 yJ13_bitCount_95d88 ∈ GW := gw_mem (inT6 _ (List.mem_of_getElem? (i := 152) rfl)) rfl
theorem mw_421 : Cond.code yX8_isTameNow cX8_isTameNow 8 (some Jvm.ClassFile.FieldType.boolean) ∈ GW := gw_mem (inT7 _ (List.mem_of_getElem? (i := 77) rfl)) rfl
theorem mw_422 : Cond.methodLink RX8 302 yX8_isTameNow ∈ GW := gw_mem (inT7 _ (List.mem_of_getElem? (i := 74) rfl)) rfl
theorem mw_423 : Cond.instanceMethod yX8_isTameNow ∈ GW := gw_mem (inT7 _ (List.mem_of_getElem? (i := 76) rfl)) rfl
theorem mw_424 : Cond.selects RX8 yX8_isTameNow yX8_isTameNow ∈ GW := gw_mem (inTp (q := (yX8_isTameNow, 32)) (List.mem_of_getElem? (i := 88) rfl)) rfl
theorem mw_425 : Cond.constantLong RX8 351 (2557) ∈ GW := gw_mem (inT7 _ (List.mem_of_getElem? (i := 226) rfl)) rfl
theorem mw_426 : Cond.code yX8_add_ cX8_add_ 2 (none : Option FieldType) ∈ GW := gw_mem (inT7 _ (List.mem_of_getElem? (i := 239) rfl)) rfl
theorem mw_427 : Cond.methodLink RX8 348 yX8_add_ ∈ GW := gw_mem (inT7 _ (List.mem_of_getElem? (i := 236) rfl)) rfl
theorem mw_428 : Cond.instanceMethod yX8_add_ ∈ GW := gw_mem (inT7 _ (List.mem_of_getElem? (i := 238) rfl)) rfl
theorem mw_429 : Cond.selects RX8 yX8_add_ yX8_add_ ∈ GW := gw_mem (inTp (q := (yX8_add_, 32)) (List.mem_of_getElem? (i := 102) rfl)) rfl
theorem mw_430 : Cond.code yX8_isInstruction cX8_isInstruction 2 (some Jvm.ClassFile.FieldType.boolean) ∈ GW := gw_mem (inT6 _ (List.mem_of_getElem? (i := 53) rfl)) rfl
theorem mw_431 : Cond.methodLink RX8 276 yX8_isInstruction ∈ GW := gw_mem (inT6 _ (List.mem_of_getElem? (i := 50) rfl)) rfl
theorem mw_432 : Cond.instanceMethod yX8_isInstruction ∈ GW := gw_mem (inT6 _ (List.mem_of_getElem? (i := 52) rfl)) rfl
theorem mw_433 : Cond.selects RX8 yX8_isInstruction yX8_isInstruction ∈ GW := gw_mem (inTp (q := (yX8_isInstruction, 32)) (List.mem_of_getElem? (i := 52) rfl)) rfl
theorem mw_434 : Cond.code yX8_refuse cX8_refuse 2 (some Jvm.ClassFile.FieldType.int) ∈ GW := gw_mem (inT6 _ (List.mem_of_getElem? (i := 37) rfl)) rfl
theorem mw_435 : Cond.methodLink RX8 267 yX8_refuse ∈ GW := gw_mem (inT6 _ (List.mem_of_getElem? (i := 34) rfl)) rfl
theorem mw_436 : Cond.instanceMethod yX8_refuse ∈ GW := gw_mem (inT6 _ (List.mem_of_getElem? (i := 36) rfl)) rfl
theorem mw_437 : Cond.selects RX8 yX8_refuse yX8_refuse ∈ GW := gw_mem (inTp (q := (yX8_refuse, 32)) (List.mem_of_getElem? (i := 49) rfl)) rfl
theorem mw_438 : Cond.code yX8_isBlock cX8_isBlock 2 (some Jvm.ClassFile.FieldType.boolean) ∈ GW := gw_mem (inT7 _ (List.mem_of_getElem? (i := 5) rfl)) rfl
theorem mw_439 : Cond.methodLink RX8 282 yX8_isBlock ∈ GW := gw_mem (inT7 _ (List.mem_of_getElem? (i := 2) rfl)) rfl
theorem mw_440 : Cond.instanceMethod yX8_isBlock ∈ GW := gw_mem (inT7 _ (List.mem_of_getElem? (i := 4) rfl)) rfl
theorem mw_441 : Cond.selects RX8 yX8_isBlock yX8_isBlock ∈ GW := gw_mem (inTp (q := (yX8_isBlock, 32)) (List.mem_of_getElem? (i := 82) rfl)) rfl
theorem mw_442 : Cond.code yX8_isEdge cX8_isEdge 2 (some Jvm.ClassFile.FieldType.boolean) ∈ GW := gw_mem (inT7 _ (List.mem_of_getElem? (i := 21) rfl)) rfl
theorem mw_443 : Cond.methodLink RX8 285 yX8_isEdge ∈ GW := gw_mem (inT7 _ (List.mem_of_getElem? (i := 18) rfl)) rfl
theorem mw_444 : Cond.instanceMethod yX8_isEdge ∈ GW := gw_mem (inT7 _ (List.mem_of_getElem? (i := 20) rfl)) rfl
theorem mw_445 : Cond.selects RX8 yX8_isEdge yX8_isEdge ∈ GW := gw_mem (inTp (q := (yX8_isEdge, 32)) (List.mem_of_getElem? (i := 83) rfl)) rfl
theorem mw_446 : Cond.code yX8_isLayer cX8_isLayer 2 (some Jvm.ClassFile.FieldType.boolean) ∈ GW := gw_mem (inT7 _ (List.mem_of_getElem? (i := 149) rfl)) rfl
theorem mw_447 : Cond.methodLink RX8 318 yX8_isLayer ∈ GW := gw_mem (inT7 _ (List.mem_of_getElem? (i := 146) rfl)) rfl
theorem mw_448 : Cond.instanceMethod yX8_isLayer ∈ GW := gw_mem (inT7 _ (List.mem_of_getElem? (i := 148) rfl)) rfl
theorem mw_449 : Cond.selects RX8 yX8_isLayer yX8_isLayer ∈ GW := gw_mem (inTp (q := (yX8_isLayer, 32)) (List.mem_of_getElem? (i := 93) rfl)) rfl
theorem pdv_X8_crossingsIn : yX8_crossingsIn.cls = RX8 ∧ yX8_crossingsIn.cls ≠ "java/lang/invoke/MethodHandle" ∧ yX8_crossingsIn.cls ≠ "java/lang/invoke/VarHandle" ∧ (parseMethodDescriptor yX8_crossingsIn.desc).map (fun d => d.parameters.length) = some 1 := by decide +kernel
theorem pdv_X8_sweepOnce : yX8_sweepOnce.cls = RX8 ∧ yX8_sweepOnce.cls ≠ "java/lang/invoke/MethodHandle" ∧ yX8_sweepOnce.cls ≠ "java/lang/invoke/VarHandle" ∧ (parseMethodDescriptor yX8_sweepOnce.desc).map (fun d => d.parameters.length) = some 2 := by decide +kernel
theorem pdv_X8_add : yX8_add.cls = RX8 ∧ yX8_add.cls ≠ "java/lang/invoke/MethodHandle" ∧ yX8_add.cls ≠ "java/lang/invoke/VarHandle" ∧ (parseMethodDescriptor yX8_add.desc).map (fun d => d.parameters.length) = some 1 := by decide +kernel
theorem pdv_X8_lay : yX8_lay.cls = RX8 ∧ yX8_lay.cls ≠ "java/lang/invoke/MethodHandle" ∧ yX8_lay.cls ≠ "java/lang/invoke/VarHandle" ∧ (parseMethodDescriptor yX8_lay.desc).map (fun d => d.parameters.length) = some 0 := by decide +kernel
theorem pdv_X8_loopsNow : yX8_loopsNow.cls = RX8 ∧ yX8_loopsNow.cls ≠ "java/lang/invoke/MethodHandle" ∧ yX8_loopsNow.cls ≠ "java/lang/invoke/VarHandle" ∧ (parseMethodDescriptor yX8_loopsNow.desc).map (fun d => d.parameters.length) = some 0 := by decide +kernel
theorem pdv_X8_vainNow : yX8_vainNow.cls = RX8 ∧ yX8_vainNow.cls ≠ "java/lang/invoke/MethodHandle" ∧ yX8_vainNow.cls ≠ "java/lang/invoke/VarHandle" ∧ (parseMethodDescriptor yX8_vainNow.desc).map (fun d => d.parameters.length) = some 0 := by decide +kernel
theorem pdv_X8_windingsNow : yX8_windingsNow.cls = RX8 ∧ yX8_windingsNow.cls ≠ "java/lang/invoke/MethodHandle" ∧ yX8_windingsNow.cls ≠ "java/lang/invoke/VarHandle" ∧ (parseMethodDescriptor yX8_windingsNow.desc).map (fun d => d.parameters.length) = some 0 := by decide +kernel
theorem pdv_X8_isTameNow : yX8_isTameNow.cls = RX8 ∧ yX8_isTameNow.cls ≠ "java/lang/invoke/MethodHandle" ∧ yX8_isTameNow.cls ≠ "java/lang/invoke/VarHandle" ∧ (parseMethodDescriptor yX8_isTameNow.desc).map (fun d => d.parameters.length) = some 0 := by decide +kernel
theorem pdv_X8_add_ : yX8_add_.cls = RX8 ∧ yX8_add_.cls ≠ "java/lang/invoke/MethodHandle" ∧ yX8_add_.cls ≠ "java/lang/invoke/VarHandle" ∧ (parseMethodDescriptor yX8_add_.desc).map (fun d => d.parameters.length) = some 1 := by decide +kernel
theorem pdv_X8_isInstruction : yX8_isInstruction.cls = RX8 ∧ yX8_isInstruction.cls ≠ "java/lang/invoke/MethodHandle" ∧ yX8_isInstruction.cls ≠ "java/lang/invoke/VarHandle" ∧ (parseMethodDescriptor yX8_isInstruction.desc).map (fun d => d.parameters.length) = some 1 := by decide +kernel
theorem pdv_X8_refuse : yX8_refuse.cls = RX8 ∧ yX8_refuse.cls ≠ "java/lang/invoke/MethodHandle" ∧ yX8_refuse.cls ≠ "java/lang/invoke/VarHandle" ∧ (parseMethodDescriptor yX8_refuse.desc).map (fun d => d.parameters.length) = some 1 := by decide +kernel
theorem pdv_X8_isBlock : yX8_isBlock.cls = RX8 ∧ yX8_isBlock.cls ≠ "java/lang/invoke/MethodHandle" ∧ yX8_isBlock.cls ≠ "java/lang/invoke/VarHandle" ∧ (parseMethodDescriptor yX8_isBlock.desc).map (fun d => d.parameters.length) = some 1 := by decide +kernel
theorem pdv_X8_isEdge : yX8_isEdge.cls = RX8 ∧ yX8_isEdge.cls ≠ "java/lang/invoke/MethodHandle" ∧ yX8_isEdge.cls ≠ "java/lang/invoke/VarHandle" ∧ (parseMethodDescriptor yX8_isEdge.desc).map (fun d => d.parameters.length) = some 1 := by decide +kernel
theorem pdv_X8_isLayer : yX8_isLayer.cls = RX8 ∧ yX8_isLayer.cls ≠ "java/lang/invoke/MethodHandle" ∧ yX8_isLayer.cls ≠ "java/lang/invoke/VarHandle" ∧ (parseMethodDescriptor yX8_isLayer.desc).map (fun d => d.parameters.length) = some 1 := by decide +kernel
set_option maxHeartbeats 4000000 in
set_option maxRecDepth 100000 in
theorem m_loopsNow (l : Launch) (D : va_G) (cI cJ cZ : ClassId) (cO : ClassId) (oc : Nat × va_E) (am : Nat → Nat) (qo : Nat) (F : Nat → Nat → Int32) (G : Nat → Nat → Int64) (sm : Int64) : CT l D (TO cI cJ cZ cO) yX8_loopsNow (.code yX8_loopsNow cX8_loopsNow 3 (some Jvm.ClassFile.FieldType.int)) 0 0 0 (MW oc am cI cJ cZ cO 0 0 1 0 sm qo F G) [.ref (am 1)] (QI D (TO cI cJ cZ cO) (fun r u => r = 0 ∧ u = MW oc am cI cJ cZ cO 0 0 1 0 sm qo F G)) := by
  refine ent (by decide) (Nat.le_of_ble_eq_true rfl) ?_
  intro p e s m below meth c ls A hx hb hr hg hown hml hlocks hnm hP hK hD hS hA hN hl
  have hl : lv_has ls 3 [(0, .ref (am 1))] := hl
  refine lv_iconst (v := 0) hx hb dX8_loopsNow_0 (by decide) ?_
  refine lv_istore_n (lv' := [(1, .int 0), (0, .ref (am 1))]) hx hb dX8_loopsNow_1 rfl hl (by decide) rfl (fun ls hl => ?_)
  refine lv_iconst (v := 0) hx hb dX8_loopsNow_2 (by decide) ?_
  refine lv_istore_n (lv' := [(2, .int 0), (1, .int 0), (0, .ref (am 1))]) hx hb dX8_loopsNow_3 rfl hl (by decide) rfl (fun ls hl => ?_)
  refine lv_iload_n hx hb dX8_loopsNow_4 rfl (lv_at hl 0 rfl) ?_
  refine lv_aload_n hx hb dX8_loopsNow_5 rfl (lv_at hl 2 rfl) ?_
  refine va_get (D := D) (ci := 8) (v := .int 0) (C := RX8) (T := TX8) (N := 32) hx hb hg inGX8 hown hK hP 1 rfl rfl 7 (by decide) (hg _ mw_356) (fun _ h9 => h9) rfl dX8_loopsNow_6 ?_
  refine lv_icmp_ge (tgt := 37) hx hb dX8_loopsNow_9 (by decide) (fun c_9 => ?_) (fun c_9 => absurd (by decide) c_9)
  refine lv_iload_n hx hb dX8_loopsNow_37 rfl (lv_at hl 1 rfl) ?_
  exact W.iret (v := 0) hx hb hr (fun t ht hW => ⟨⟨0, (MW oc am cI cJ cZ cO 0 0 1 0 sm qo F G), rfl, ⟨rfl, rfl⟩, ⟨by rw [ht]; exact hP, va_K.moved hW.alike hK, hD⟩⟩, hS.F ht⟩) hS.2.2 dX8_loopsNow_38
set_option maxHeartbeats 4000000 in
set_option maxRecDepth 100000 in
theorem m_vainNow (l : Launch) (D : va_G) (cI cJ cZ : ClassId) (cO : ClassId) (oc : Nat × va_E) (am : Nat → Nat) (qo : Nat) (F : Nat → Nat → Int32) (G : Nat → Nat → Int64) (sm : Int64) : CT l D (TO cI cJ cZ cO) yX8_vainNow (.code yX8_vainNow cX8_vainNow 5 (some Jvm.ClassFile.FieldType.int)) 0 0 0 (MW oc am cI cJ cZ cO 0 0 1 0 sm qo F G) [.ref (am 1)] (QI D (TO cI cJ cZ cO) (fun r u => r = 0 ∧ u = MW oc am cI cJ cZ cO 0 0 1 0 sm qo F G)) := by
  refine ent (by decide) (Nat.le_of_ble_eq_true rfl) ?_
  intro p e s m below meth c ls A hx hb hr hg hown hml hlocks hnm hP hK hD hS hA hN hl
  have hl : lv_has ls 5 [(0, .ref (am 1))] := hl
  refine lv_iconst (v := 0) hx hb dX8_vainNow_0 (by decide) ?_
  refine lv_istore_n (lv' := [(1, .int 0), (0, .ref (am 1))]) hx hb dX8_vainNow_1 rfl hl (by decide) rfl (fun ls hl => ?_)
  refine lv_iconst (v := 0) hx hb dX8_vainNow_2 (by decide) ?_
  refine lv_istore_n (lv' := [(2, .int 0), (1, .int 0), (0, .ref (am 1))]) hx hb dX8_vainNow_3 rfl hl (by decide) rfl (fun ls hl => ?_)
  refine lv_iload_n hx hb dX8_vainNow_4 rfl (lv_at hl 0 rfl) ?_
  refine lv_aload_n hx hb dX8_vainNow_5 rfl (lv_at hl 2 rfl) ?_
  refine va_get (D := D) (ci := 8) (v := .int 0) (C := RX8) (T := TX8) (N := 32) hx hb hg inGX8 hown hK hP 1 rfl rfl 7 (by decide) (hg _ mw_356) (fun _ h9 => h9) rfl dX8_vainNow_6 ?_
  refine lv_icmp_ge (tgt := 105) hx hb dX8_vainNow_9 (by decide) (fun c_9 => ?_) (fun c_9 => absurd (by decide) c_9)
  refine lv_iload_n hx hb dX8_vainNow_105 rfl (lv_at hl 1 rfl) ?_
  exact W.iret (v := 0) hx hb hr (fun t ht hW => ⟨⟨0, (MW oc am cI cJ cZ cO 0 0 1 0 sm qo F G), rfl, ⟨rfl, rfl⟩, ⟨by rw [ht]; exact hP, va_K.moved hW.alike hK, hD⟩⟩, hS.F ht⟩) hS.2.2 dX8_vainNow_106
set_option maxHeartbeats 4000000 in
set_option maxRecDepth 100000 in
theorem m_windingsNow (l : Launch) (D : va_G) (cI cJ cZ : ClassId) (cO : ClassId) (oc : Nat × va_E) (am : Nat → Nat) (qo : Nat) (F : Nat → Nat → Int32) (G : Nat → Nat → Int64) (sm : Int64) : CT l D (TO cI cJ cZ cO) yX8_windingsNow (.code yX8_windingsNow cX8_windingsNow 3 (some Jvm.ClassFile.FieldType.int)) 0 0 0 (MW oc am cI cJ cZ cO 0 0 1 0 sm qo F G) [.ref (am 1)] (QI D (TO cI cJ cZ cO) (fun r u => r = 0 ∧ u = MW oc am cI cJ cZ cO 0 0 1 0 sm qo F G)) := by
  refine ent (by decide) (Nat.le_of_ble_eq_true rfl) ?_
  intro p e s m below meth c ls A hx hb hr hg hown hml hlocks hnm hP hK hD hS hA hN hl
  have hl : lv_has ls 3 [(0, .ref (am 1))] := hl
  refine lv_aload_n hx hb dX8_windingsNow_0 rfl (lv_at hl 0 rfl) ?_
  refine va_get (D := D) (ci := 8) (v := .int 0) (C := RX8) (T := TX8) (N := 32) hx hb hg inGX8 hown hK hP 1 rfl rfl 1 (by decide) (hg _ mw_344) (fun _ h9 => h9) rfl dX8_windingsNow_1 ?_
  refine lv_if_ne (tgt := 9) hx hb dX8_windingsNow_4 (by decide) (fun c_4 => absurd (by decide) c_4) (fun c_4 => ?_)
  refine lv_iconst (v := 0) hx hb dX8_windingsNow_7 (by decide) ?_
  exact W.iret (v := 0) hx hb hr (fun t ht hW => ⟨⟨0, (MW oc am cI cJ cZ cO 0 0 1 0 sm qo F G), rfl, ⟨rfl, rfl⟩, ⟨by rw [ht]; exact hP, va_K.moved hW.alike hK, hD⟩⟩, hS.F ht⟩) hS.2.2 dX8_windingsNow_8
set_option maxHeartbeats 4000000 in
set_option maxRecDepth 100000 in
theorem m_isTameNow (l : Launch) (D : va_G) (cI cJ cZ : ClassId) (cO : ClassId) (oc : Nat × va_E) (am : Nat → Nat) (qo : Nat) (F : Nat → Nat → Int32) (G : Nat → Nat → Int64) (sm : Int64) : CT l D (TO cI cJ cZ cO) yX8_isTameNow (.code yX8_isTameNow cX8_isTameNow 8 (some Jvm.ClassFile.FieldType.boolean)) 0 1 80 (MW oc am cI cJ cZ cO 0 0 1 0 sm qo F G) [.ref (am 1)] (QI D (TO cI cJ cZ cO) (fun r u => r = 1 ∧ u = MW oc am cI cJ cZ cO 0 0 1 0 sm qo F G)) := by
  refine ent (by decide) (Nat.le_of_ble_eq_true rfl) ?_
  intro p e s m below meth c ls A hx hb hr hg hown hml hlocks hnm hP hK hD hS hA hN hl
  have hl : lv_has ls 8 [(0, .ref (am 1))] := hl
  refine lv_bipush (v := 80) hx hb dX8_isTameNow_0 (by decide) ?_
  refine my_newa (atype := .boolean) (ty := .boolean) (N' := 80) (a0 := (80, .inl (fun _ => 0))) hx hb (hg _ mw_388) rfl hK hP hD hS hA 2 rfl (fun _ h => h) (fun _ => rfl) (by decide) (by decide) (Nat.le_of_ble_eq_true rfl) (Nat.le_of_ble_eq_true rfl) (Nat.le_of_ble_eq_true rfl) dX8_isTameNow_2 (fun q_1 H hP hD hS => ?_)
  refine lv_astore_n (lv' := [(1, .ref q_1), (0, .ref (am 1))]) hx hb dX8_isTameNow_4 rfl hl (by decide) rfl (fun ls hl => ?_)
  refine lv_iconst (v := 0) hx hb dX8_isTameNow_5 (by decide) ?_
  refine lv_istore_n (lv' := [(2, .int 0), (1, .ref q_1), (0, .ref (am 1))]) hx hb dX8_isTameNow_6 rfl hl (by decide) rfl (fun ls hl => ?_)
  refine lv_iload_n hx hb dX8_isTameNow_7 rfl (lv_at hl 0 rfl) ?_
  refine lv_aload_n hx hb dX8_isTameNow_8 rfl (lv_at hl 2 rfl) ?_
  refine va_get (D := D) (ci := 8) (v := .int 0) (C := RX8) (T := TX8) (N := 32) hx hb hg inGX8 hown hK hP 1 rfl rfl 8 (by decide) (hg _ mw_361) (fun _ h9 => h9) rfl dX8_isTameNow_9 ?_
  refine lv_icmp_ge (tgt := 29) hx hb dX8_isTameNow_12 (by decide) (fun c_12 => ?_) (fun c_12 => absurd (by decide) c_12)
  refine lv_aload_n hx hb dX8_isTameNow_29 rfl (lv_at hl 2 rfl) ?_
  refine va_get (D := D) (ci := 8) (v := .long 0) (C := RX8) (T := TX8) (N := 32) hx hb hg inGX8 hown hK hP 1 rfl rfl 13 (by decide) (hg _ mw_362) (fun _ h9 => h9) rfl dX8_isTameNow_30 ?_
  refine lv_lstore_n (lv' := [(2, .long 0), (1, .ref q_1), (0, .ref (am 1))]) hx hb dX8_isTameNow_33 rfl hl (by decide) rfl (fun ls hl => ?_)
  refine lv_iconst (v := 1) hx hb dX8_isTameNow_34 (by decide) ?_
  refine lv_istore (lv' := [(4, .int 1), (2, .long 0), (1, .ref q_1), (0, .ref (am 1))]) hx hb dX8_isTameNow_35 hl (by decide) rfl (fun ls hl => ?_)
  refine lv_iload hx hb dX8_isTameNow_37 (lv_at hl 0 rfl) ?_
  refine lv_if_eq (tgt := 164) hx hb dX8_isTameNow_39 (by decide) (fun c_39 => absurd c_39 (by decide)) (fun c_39 => ?_)
  refine lv_iconst (v := 0) hx hb dX8_isTameNow_42 (by decide) ?_
  refine lv_istore (lv' := [(4, .int 0), (2, .long 0), (1, .ref q_1), (0, .ref (am 1))]) hx hb dX8_isTameNow_43 hl (by decide) rfl (fun ls hl => ?_)
  refine lv_iconst (v := 0) hx hb dX8_isTameNow_45 (by decide) ?_
  refine lv_istore (lv' := [(5, .int 0), (4, .int 0), (2, .long 0), (1, .ref q_1), (0, .ref (am 1))]) hx hb dX8_isTameNow_46 hl (by decide) rfl (fun ls hl => ?_)
  refine lv_iload hx hb dX8_isTameNow_48 (lv_at hl 0 rfl) ?_
  refine lv_aload_n hx hb dX8_isTameNow_50 rfl (lv_at hl 4 rfl) ?_
  refine va_get (D := D) (ci := 8) (v := .int 0) (C := RX8) (T := TX8) (N := 32) hx hb hg inGX8 hown hK hP 1 rfl rfl 7 (by decide) (hg _ mw_356) (fun _ h9 => h9) rfl dX8_isTameNow_51 ?_
  refine lv_icmp_ge (tgt := 161) hx hb dX8_isTameNow_54 (by decide) (fun c_54 => ?_) (fun c_54 => absurd (by decide) c_54)
  refine lv_goto (tgt := 37) hx hb dX8_isTameNow_161 (by decide) ?_
  refine lv_iload hx hb dX8_isTameNow_37 (lv_at hl 1 rfl) ?_
  refine lv_if_eq (tgt := 164) hx hb dX8_isTameNow_39 (by decide) (fun c_39 => ?_) (fun c_39 => absurd (by decide) c_39)
  refine lv_lload_n hx hb dX8_isTameNow_164 rfl (lv_at hl 2 rfl) ?_
  refine lv_lconst (v := 0) hx hb dX8_isTameNow_165 (by decide) ?_
  refine W.lcmp hx hb dX8_isTameNow_166 ?_
  refine lv_topi (fun v_2 ev_2 => ?_)
  obtain rfl : v_2 = (0 : Int32) := ev_2.trans (by decide)
  refine lv_if_ne (tgt := 174) hx hb dX8_isTameNow_167 (by decide) (fun c_167 => absurd (by decide) c_167) (fun c_167 => ?_)
  refine lv_iconst (v := 1) hx hb dX8_isTameNow_170 (by decide) ?_
  refine lv_goto (tgt := 175) hx hb dX8_isTameNow_171 (by decide) ?_
  have hP : va_P D vwCl (MW oc am cI cJ cZ cO 0 0 1 0 sm qo F G) H := hP.sub [0, 1, 2, 3, 4, 5, 6, 7, 8, 9, 10, 11, 12, 13, 14, 15, 16, 17, 18, 19, 20, 21] rfl
  have hD : va_D A (MW oc am cI cJ cZ cO 0 0 1 0 sm qo F G) := hD.sub [0, 1, 2, 3, 4, 5, 6, 7, 8, 9, 10, 11, 12, 13, 14, 15, 16, 17, 18, 19, 20, 21] (by decide) rfl
  exact W.zret (v := 1) hx hb hr rfl (fun t ht hW => ⟨⟨1, (MW oc am cI cJ cZ cO 0 0 1 0 sm qo F G), rfl, ⟨rfl, rfl⟩, ⟨by rw [ht]; exact hP, va_K.moved hW.alike hK, hD⟩⟩, hS.F ht⟩) hS.2.2 dX8_isTameNow_175
set_option maxHeartbeats 4000000 in
set_option maxRecDepth 100000 in
theorem m_crossingsIn (l : Launch) (D : va_G) (cI cJ cZ : ClassId) (cO : ClassId) (oc : Nat × va_E) (am : Nat → Nat) (qo : Nat) (F : Nat → Nat → Int32) (G : Nat → Nat → Int64) (sm : Int64) (rw : Nat) : CT l D (TO cI cJ cZ cO) yX8_crossingsIn (.code yX8_crossingsIn cX8_crossingsIn 9 (some Jvm.ClassFile.FieldType.int)) 0 2 160 (MW oc am cI cJ cZ cO 0 0 1 0 sm qo F G) [.ref (am 1), .ref rw] (QI D (TO cI cJ cZ cO) (fun r u => r = 0 ∧ u = MW oc am cI cJ cZ cO 0 0 1 0 sm qo F G)) := by
  refine ent (by decide) (Nat.le_of_ble_eq_true rfl) ?_
  intro p e s m below meth c ls A hx hb hr hg hown hml hlocks hnm hP hK hD hS hA hN hl
  have hl : lv_has ls 9 [(0, .ref (am 1)), (1, .ref rw)] := hl
  refine lv_iconst (v := 0) hx hb dX8_crossingsIn_0 (by decide) ?_
  refine lv_istore_n (lv' := [(2, .int 0), (0, .ref (am 1)), (1, .ref rw)]) hx hb dX8_crossingsIn_1 rfl hl (by decide) rfl (fun ls hl => ?_)
  refine lv_bipush (v := 80) hx hb dX8_crossingsIn_2 (by decide) ?_
  refine my_newa (atype := .int) (ty := .int) (N' := 80) (a0 := (80, .inl (fun _ => 0))) hx hb (hg _ mw_389) rfl hK hP hD hS hA 0 rfl (fun _ h => h) (fun _ => rfl) (by decide) (by decide) (Nat.le_of_ble_eq_true rfl) (Nat.le_of_ble_eq_true rfl) (Nat.le_of_ble_eq_true rfl) dX8_crossingsIn_4 (fun q_1 H hP hD hS => ?_)
  refine lv_astore_n (lv' := [(3, .ref q_1), (2, .int 0), (0, .ref (am 1)), (1, .ref rw)]) hx hb dX8_crossingsIn_6 rfl hl (by decide) rfl (fun ls hl => ?_)
  refine lv_bipush (v := 80) hx hb dX8_crossingsIn_7 (by decide) ?_
  refine my_newa (atype := .int) (ty := .int) (N' := 80) (a0 := (80, .inl (fun _ => 0))) hx hb (hg _ mw_389) rfl hK hP hD hS hA 0 rfl (fun _ h => h) (fun _ => rfl) (by decide) (by decide) (Nat.le_of_ble_eq_true rfl) (Nat.le_of_ble_eq_true rfl) (Nat.le_of_ble_eq_true rfl) dX8_crossingsIn_9 (fun q_2 H hP hD hS => ?_)
  refine lv_astore (lv' := [(4, .ref q_2), (3, .ref q_1), (2, .int 0), (0, .ref (am 1)), (1, .ref rw)]) hx hb dX8_crossingsIn_11 hl (by decide) rfl (fun ls hl => ?_)
  refine lv_iconst (v := 0) hx hb dX8_crossingsIn_13 (by decide) ?_
  refine lv_istore (lv' := [(5, .int 0), (4, .ref q_2), (3, .ref q_1), (2, .int 0), (0, .ref (am 1)), (1, .ref rw)]) hx hb dX8_crossingsIn_14 hl (by decide) rfl (fun ls hl => ?_)
  refine lv_iload hx hb dX8_crossingsIn_16 (lv_at hl 0 rfl) ?_
  refine lv_iconst (v := 1) hx hb dX8_crossingsIn_18 (by decide) ?_
  refine lv_iadd hx hb dX8_crossingsIn_19 ?_
  refine lv_topi (fun v_3 ev_3 => ?_)
  obtain rfl : v_3 = (1 : Int32) := ev_3.trans (by decide)
  refine lv_aload_n hx hb dX8_crossingsIn_20 rfl (lv_at hl 4 rfl) ?_
  refine va_get (D := D) (ci := 8) (v := .int 0) (C := RX8) (T := TX8) (N := 32) hx hb hg inGX8 hown hK hP 1 rfl rfl 28 (by decide) (hg _ mw_372) (fun _ h9 => h9) rfl dX8_crossingsIn_21 ?_
  refine lv_icmp_ge (tgt := 175) hx hb dX8_crossingsIn_24 (by decide) (fun c_24 => ?_) (fun c_24 => absurd (by decide) c_24)
  refine lv_iload_n hx hb dX8_crossingsIn_175 rfl (lv_at hl 3 rfl) ?_
  have hP : va_P D vwCl (MW oc am cI cJ cZ cO 0 0 1 0 sm qo F G) H := hP.sub [0, 1, 2, 3, 4, 5, 6, 7, 8, 9, 10, 11, 12, 13, 14, 15, 16, 17, 18, 19, 20, 21] rfl
  have hD : va_D A (MW oc am cI cJ cZ cO 0 0 1 0 sm qo F G) := hD.sub [0, 1, 2, 3, 4, 5, 6, 7, 8, 9, 10, 11, 12, 13, 14, 15, 16, 17, 18, 19, 20, 21] (by decide) rfl
  exact W.iret (v := 0) hx hb hr (fun t ht hW => ⟨⟨0, (MW oc am cI cJ cZ cO 0 0 1 0 sm qo F G), rfl, ⟨rfl, rfl⟩, ⟨by rw [ht]; exact hP, va_K.moved hW.alike hK, hD⟩⟩, hS.F ht⟩) hS.2.2 dX8_crossingsIn_176
set_option maxHeartbeats 4000000 in
set_option maxRecDepth 100000 in
theorem m_sweepOnce0 (l : Launch) (D : va_G) (cI cJ cZ : ClassId) (cO : ClassId) (oc : Nat × va_E) (am : Nat → Nat) (qo : Nat) (F : Nat → Nat → Int32) (G : Nat → Nat → Int64) (rw : Nat) : CT l D (TO cI cJ cZ cO) yX8_sweepOnce (.code yX8_sweepOnce cX8_sweepOnce 4 (none : Option FieldType)) 0 0 0 (MW oc am cI cJ cZ cO 0 0 1 0 0 qo F G) [.ref (am 1), .ref rw, .int 0] (QV D (TO cI cJ cZ cO) (fun u => u = MW oc am cI cJ cZ cO 0 0 1 0 0 qo F G)) := by
  refine ent (by decide) (Nat.le_of_ble_eq_true rfl) ?_
  intro p e s m below meth c ls A hx hb hr hg hown hml hlocks hnm hP hK hD hS hA hN hl
  have hl : lv_has ls 4 [(0, .ref (am 1)), (1, .ref rw), (2, .int 0)] := hl
  refine lv_iload_n hx hb dX8_sweepOnce_0 rfl (lv_at hl 2 rfl) ?_
  refine lv_if_eq (tgt := 32) hx hb dX8_sweepOnce_1 (by decide) (fun c_1 => ?_) (fun c_1 => absurd (by decide) c_1)
  refine lv_aload_n hx hb dX8_sweepOnce_32 rfl (lv_at hl 0 rfl) ?_
  refine va_get (D := D) (ci := 8) (v := .int 0) (C := RX8) (T := TX8) (N := 32) hx hb hg inGX8 hown hK hP 1 rfl rfl 28 (by decide) (hg _ mw_372) (fun _ h9 => h9) rfl dX8_sweepOnce_33 ?_
  refine lv_iconst (v := 2) hx hb dX8_sweepOnce_36 (by decide) ?_
  refine lv_isub hx hb dX8_sweepOnce_37 ?_
  refine lv_topi (fun v_1 ev_1 => ?_)
  obtain rfl : v_1 = ((-2) : Int32) := ev_1.trans (by decide)
  refine lv_istore_n (lv' := [(3, .int (-2)), (0, .ref (am 1)), (1, .ref rw), (2, .int 0)]) hx hb dX8_sweepOnce_38 rfl hl (by decide) rfl (fun ls hl => ?_)
  refine lv_iload_n hx hb dX8_sweepOnce_39 rfl (lv_at hl 0 rfl) ?_
  refine lv_if_lt (tgt := 58) hx hb dX8_sweepOnce_40 (by decide) (fun c_40 => ?_) (fun c_40 => absurd (by decide) c_40)
  exact W.vret hx hb hr (fun t ht hW => ⟨⟨(MW oc am cI cJ cZ cO 0 0 1 0 0 qo F G), rfl, rfl, ⟨by rw [ht]; exact hP, va_K.moved hW.alike hK, hD⟩⟩, hS.F ht⟩) hS.2.2 dX8_sweepOnce_58
set_option maxHeartbeats 4000000 in
set_option maxRecDepth 100000 in
theorem m_sweepOnce1 (l : Launch) (D : va_G) (cI cJ cZ : ClassId) (cO : ClassId) (oc : Nat × va_E) (am : Nat → Nat) (qo : Nat) (F : Nat → Nat → Int32) (G : Nat → Nat → Int64) (rw : Nat) : CT l D (TO cI cJ cZ cO) yX8_sweepOnce (.code yX8_sweepOnce cX8_sweepOnce 4 (none : Option FieldType)) 0 0 0 (MW oc am cI cJ cZ cO 0 0 1 0 0 qo F G) [.ref (am 1), .ref rw, .int 1] (QV D (TO cI cJ cZ cO) (fun u => u = MW oc am cI cJ cZ cO 0 0 1 0 0 qo F G)) := by
  refine ent (by decide) (Nat.le_of_ble_eq_true rfl) ?_
  intro p e s m below meth c ls A hx hb hr hg hown hml hlocks hnm hP hK hD hS hA hN hl
  have hl : lv_has ls 4 [(0, .ref (am 1)), (1, .ref rw), (2, .int 1)] := hl
  refine lv_iload_n hx hb dX8_sweepOnce_0 rfl (lv_at hl 2 rfl) ?_
  refine lv_if_eq (tgt := 32) hx hb dX8_sweepOnce_1 (by decide) (fun c_1 => absurd c_1 (by decide)) (fun c_1 => ?_)
  refine lv_iconst (v := 1) hx hb dX8_sweepOnce_4 (by decide) ?_
  refine lv_istore_n (lv' := [(3, .int 1), (0, .ref (am 1)), (1, .ref rw), (2, .int 1)]) hx hb dX8_sweepOnce_5 rfl hl (by decide) rfl (fun ls hl => ?_)
  refine lv_iload_n hx hb dX8_sweepOnce_6 rfl (lv_at hl 0 rfl) ?_
  refine lv_aload_n hx hb dX8_sweepOnce_7 rfl (lv_at hl 1 rfl) ?_
  refine va_get (D := D) (ci := 8) (v := .int 0) (C := RX8) (T := TX8) (N := 32) hx hb hg inGX8 hown hK hP 1 rfl rfl 28 (by decide) (hg _ mw_372) (fun _ h9 => h9) rfl dX8_sweepOnce_8 ?_
  refine lv_icmp_ge (tgt := 29) hx hb dX8_sweepOnce_11 (by decide) (fun c_11 => ?_) (fun c_11 => absurd (by decide) c_11)
  refine lv_goto (tgt := 58) hx hb dX8_sweepOnce_29 (by decide) ?_
  exact W.vret hx hb hr (fun t ht hW => ⟨⟨(MW oc am cI cJ cZ cO 0 0 1 0 0 qo F G), rfl, rfl, ⟨by rw [ht]; exact hP, va_K.moved hW.alike hK, hD⟩⟩, hS.F ht⟩) hS.2.2 dX8_sweepOnce_58
set_option maxHeartbeats 4000000 in
set_option maxRecDepth 100000 in
theorem m_swept (l : Launch) (D : va_G) (cI cJ cZ : ClassId) (cO : ClassId) (oc : Nat × va_E) (am : Nat → Nat) (qo : Nat) (F : Nat → Nat → Int32) (G : Nat → Nat → Int64) (rw : Nat) (k : Int32) (N : Nat) (hk : k = nI N) (hN31 : N < 2 ^ 31) : CT l D (TO cI cJ cZ cO) yX8_swept (.code yX8_swept cX8_swept 4 (some Jvm.ClassFile.FieldType.int)) 1 2 160 (MW oc am cI cJ cZ cO 0 0 1 0 0 qo F G) [.ref (am 1), .ref rw, .int k] (QI D (TO cI cJ cZ cO) (fun r u => r = 0 ∧ u = MW oc am cI cJ cZ cO 0 0 1 0 0 qo F G)) := by
  refine ent (by decide) (Nat.le_of_ble_eq_true rfl) ?_
  intro p e s m below meth c ls A hx hb hr hg hown hml hlocks hnm hP hK hD hS hA hN hl
  have hl : lv_has ls 4 [(0, .ref (am 1)), (1, .ref rw), (2, .int k)] := hl
  refine lv_iconst (v := 0) hx hb dX8_swept_0 (by decide) ?_
  refine lv_istore_n (lv' := [(3, .int 0), (0, .ref (am 1)), (1, .ref rw), (2, .int k)]) hx hb dX8_swept_1 rfl hl (by decide) rfl (fun ls hl => ?_)
  -- the loop at 2
  refine w_loop (σ := Unit) (fun (i : Nat) (u_1 : Unit) (H : Heap) (locs : List Loc) (ls : Array Slot) => (True) ∧ va_P D vwCl (MW oc am cI cJ cZ cO 0 0 1 0 0 qo F G) H ∧ va_D A (MW oc am cI cJ cZ cO 0 0 1 0 0 qo F G) ∧ va_S A s.heap H locs ∧ lv_has ls 4 [(0, .ref (am 1)), (1, .ref rw), (2, .int k), (3, .int (nI i))]) N (fun u_1 H locs ls hI => ?_) (fun i u_1 H locs ls hi hI ih => ?_) 0 () (Nat.zero_le _) ⟨trivial, hP, hD, hS, by rw [nI_0]; exact lv_sub hl [1, 2, 3, 0] rfl⟩
  · obtain ⟨hF_1, hP, hD, hS, hl⟩ := hI
    have hP : va_P D vwCl (MW oc am cI cJ cZ cO 0 0 1 0 0 qo F G) H := hP
    have hD : va_D A (MW oc am cI cJ cZ cO 0 0 1 0 0 qo F G) := hD
    have hl : lv_has ls 4 [(0, .ref (am 1)), (1, .ref rw), (2, .int k), (3, .int (nI N))] := hl
    refine lv_iload_n hx hb dX8_swept_2 rfl (lv_at hl 3 rfl) ?_
    refine lv_iload_n hx hb dX8_swept_3 rfl (lv_at hl 2 rfl) ?_
    refine lv_icmp_ge (tgt := 34) hx hb dX8_swept_4 (by decide) (fun c_4 => ?_) (fun c_4 => absurd (by rw [hk]; exact Int32.le_refl _) c_4)
    refine lv_aload_n hx hb dX8_swept_34 rfl (lv_at hl 0 rfl) ?_
    refine lv_aload_n hx hb dX8_swept_35 rfl (lv_at hl 1 rfl) ?_
    refine kI (rV (q0 := 1) (ci := 8) hx hb hml hown hg hN hK hP hD (m_crossingsIn l D cI cJ cZ cO oc am qo F G (0) rw) mw_390 mw_391 mw_392 mw_393 mw_348 pdv_X8_crossingsIn ⟨Nat.le_of_ble_eq_true rfl, Nat.le_of_ble_eq_true rfl⟩ rfl rfl rfl hl.1 rfl (Nat.le_of_ble_eq_true rfl) dX8_swept_36 ⟨Nat.le_of_ble_eq_true rfl, Nat.le_of_ble_eq_true rfl⟩) hD hS hA (fun r_2 u_2 H locs hp hP hD hS => ?_)
    obtain ⟨rfl, rfl⟩ := hp
    exact W.iret (v := 0) hx hb hr (fun t ht hW => ⟨⟨0, (MW oc am cI cJ cZ cO 0 0 1 0 0 qo F G), rfl, ⟨rfl, rfl⟩, ⟨by rw [ht]; exact hP, va_K.moved hW.alike hK, hD⟩⟩, hS.F ht⟩) hS.2.2 dX8_swept_39
  · obtain ⟨hF_1, hP, hD, hS, hl⟩ := hI
    have hP : va_P D vwCl (MW oc am cI cJ cZ cO 0 0 1 0 0 qo F G) H := hP
    have hD : va_D A (MW oc am cI cJ cZ cO 0 0 1 0 0 qo F G) := hD
    have hl : lv_has ls 4 [(0, .ref (am 1)), (1, .ref rw), (2, .int k), (3, .int (nI i))] := hl
    refine lv_iload_n hx hb dX8_swept_2 rfl (lv_at hl 3 rfl) ?_
    refine lv_iload_n hx hb dX8_swept_3 rfl (lv_at hl 2 rfl) ?_
    refine lv_icmp_ge (tgt := 34) hx hb dX8_swept_4 (by decide) (fun c_4 => absurd c_4 (by rw [hk]; exact nI_ge hi hN31)) (fun c_4 => ?_)
    refine lv_aload_n hx hb dX8_swept_7 rfl (lv_at hl 0 rfl) ?_
    refine lv_aload_n hx hb dX8_swept_8 rfl (lv_at hl 1 rfl) ?_
    refine lv_aload_n hx hb dX8_swept_9 rfl (lv_at hl 0 rfl) ?_
    refine va_get (D := D) (ci := 8) (v := .int 0) (C := RX8) (T := TX8) (N := 32) hx hb hg inGX8 hown hK hP 1 rfl rfl 30 (by decide) (hg _ mw_350) (fun _ h9 => h9) rfl dX8_swept_10 ?_
    refine lv_iload_n hx hb dX8_swept_13 rfl (lv_at hl 3 rfl) ?_
    refine lv_iadd hx hb dX8_swept_14 ?_
    refine lv_topi (fun v_3 ev_3 => ?_)
    refine lv_iconst (v := 2) hx hb dX8_swept_15 (by decide) ?_
    refine lv_irem hx hb dX8_swept_16 (by decide) ?_
    refine lv_topi (fun v_4 ev_4 => ?_)
    refine lv_if_ne (tgt := 24) hx hb dX8_swept_17 (by decide) (fun c_17 => ?_) (fun c_17 => ?_)
    · refine lv_iconst (v := 0) hx hb dX8_swept_24 (by decide) ?_
      refine kV (rV (q0 := 1) (ci := 8) hx hb hml hown hg hN hK hP hD (m_sweepOnce0 l D cI cJ cZ cO oc am qo F G rw) mw_394 mw_395 mw_396 mw_397 mw_348 pdv_X8_sweepOnce ⟨Nat.le_of_ble_eq_true rfl, Nat.le_of_ble_eq_true rfl⟩ rfl rfl rfl hl.1 rfl (Nat.le_of_ble_eq_true rfl) dX8_swept_25 ⟨Nat.le_of_ble_eq_true rfl, Nat.le_of_ble_eq_true rfl⟩) hD hS hA (fun u_5 H locs hp hP hD hS => ?_)
      obtain rfl := hp
      refine lv_iinc (v := nI (i + 1)) (lv' := [(3, .int (nI (i + 1))), (0, .ref (am 1)), (1, .ref rw), (2, .int k)]) hx hb dX8_swept_28 hl (k := 3) rfl (nI_1 i) (by decide) rfl (fun ls hl => ?_)
      refine lv_goto (tgt := 2) hx hb dX8_swept_31 (by decide) ?_
      exact ih () H locs ls ⟨trivial, hP, hD, hS, lv_sub hl [1, 2, 3, 0] rfl⟩
    · refine lv_iconst (v := 1) hx hb dX8_swept_20 (by decide) ?_
      refine lv_goto (tgt := 25) hx hb dX8_swept_21 (by decide) ?_
      refine kV (rV (q0 := 1) (ci := 8) hx hb hml hown hg hN hK hP hD (m_sweepOnce1 l D cI cJ cZ cO oc am qo F G rw) mw_394 mw_395 mw_396 mw_397 mw_348 pdv_X8_sweepOnce ⟨Nat.le_of_ble_eq_true rfl, Nat.le_of_ble_eq_true rfl⟩ rfl rfl rfl hl.1 rfl (Nat.le_of_ble_eq_true rfl) dX8_swept_25 ⟨Nat.le_of_ble_eq_true rfl, Nat.le_of_ble_eq_true rfl⟩) hD hS hA (fun u_6 H locs hp hP hD hS => ?_)
      obtain rfl := hp
      refine lv_iinc (v := nI (i + 1)) (lv' := [(3, .int (nI (i + 1))), (0, .ref (am 1)), (1, .ref rw), (2, .int k)]) hx hb dX8_swept_28 hl (k := 3) rfl (nI_1 i) (by decide) rfl (fun ls hl => ?_)
      refine lv_goto (tgt := 2) hx hb dX8_swept_31 (by decide) ?_
      exact ih () H locs ls ⟨trivial, hP, hD, hS, lv_sub hl [1, 2, 3, 0] rfl⟩
set_option maxHeartbeats 4000000 in
set_option maxRecDepth 100000 in
theorem m_add (l : Launch) (D : va_G) (cI cJ cZ : ClassId) (cO : ClassId) (oc : Nat × va_E) (am : Nat → Nat) (qo : Nat) (F : Nat → Nat → Int32) (G : Nat → Nat → Int64) (sm : Int64) (v : Int32) : CT l D (TO cI cJ cZ cO) yX8_add (.code yX8_add cX8_add 2 (none : Option FieldType)) 0 0 0 (MW oc am cI cJ cZ cO 0 0 1 0 sm qo F G) [.ref (am 1), .int v] (QV D (TO cI cJ cZ cO) (fun u => ∃ sm', sm' = sm * 31 + v.toInt64 ∧ u = MW oc am cI cJ cZ cO 0 0 1 0 sm' qo F G)) := by
  refine ent (by decide) (Nat.le_of_ble_eq_true rfl) ?_
  intro p e s m below meth c ls A hx hb hr hg hown hml hlocks hnm hP hK hD hS hA hN hl
  have hl : lv_has ls 2 [(0, .ref (am 1)), (1, .int v)] := hl
  refine lv_aload_n hx hb dX8_add_0 rfl (lv_at hl 0 rfl) ?_
  refine lv_aload_n hx hb dX8_add_1 rfl (lv_at hl 0 rfl) ?_
  refine va_get (D := D) (ci := 8) (v := .long sm) (C := RX8) (T := TX8) (N := 32) hx hb hg inGX8 hown hK hP 1 rfl rfl 31 (by decide) (hg _ mw_398) (fun _ h9 => h9) rfl dX8_add_2 ?_
  refine lv_ldc2 (v := 31) hx hb hown (hg _ mw_399) dX8_add_5 ?_
  refine lv_lmul hx hb dX8_add_8 ?_
  refine lv_topl (fun v_1 ev_1 => ?_)
  refine lv_iload_n hx hb dX8_add_9 rfl (lv_at hl 1 rfl) ?_
  refine lv_i2l hx hb dX8_add_10 rfl ?_
  refine lv_ladd hx hb dX8_add_11 ?_
  refine lv_topl (fun v_2 ev_2 => ?_)
  refine va_put (D := D) (ci := 8) (v := .long v_2) (C := RX8) (T := TX8) (N := 32) hx hb hg inGX8 tyX8 tyX8_ok nmX8 hown hK hP hD hS 1 rfl rfl 31 (by decide) (hg _ mw_398) (fun _ h9 => h9) rfl (tyX8_ok 31 (by decide)) rfl rfl (Nat.le_of_ble_eq_true rfl) dX8_add_12 (fun H locs hP hD hS => ?_)
  have hP : va_P D vwCl (MW oc am cI cJ cZ cO 0 0 1 0 v_2 qo F G) H := hP
  have hD : va_D A (MW oc am cI cJ cZ cO 0 0 1 0 v_2 qo F G) := hD
  exact W.vret hx hb hr (fun t ht hW => ⟨⟨(MW oc am cI cJ cZ cO 0 0 1 0 v_2 qo F G), rfl, ⟨_, by rw [ev_2, ev_1], rfl⟩, ⟨by rw [ht]; exact hP, va_K.moved hW.alike hK, hD⟩⟩, hS.F ht⟩) hS.2.2 dX8_add_15
set_option maxHeartbeats 4000000 in
set_option maxRecDepth 100000 in
theorem m_addZ0 (l : Launch) (D : va_G) (cI cJ cZ : ClassId) (cO : ClassId) (oc : Nat × va_E) (am : Nat → Nat) (qo : Nat) (F : Nat → Nat → Int32) (G : Nat → Nat → Int64) (sm : Int64) : CT l D (TO cI cJ cZ cO) yX8_add_ (.code yX8_add_ cX8_add_ 2 (none : Option FieldType)) 1 0 0 (MW oc am cI cJ cZ cO 0 0 1 0 sm qo F G) [.ref (am 1), .int 0] (QV D (TO cI cJ cZ cO) (fun u => ∃ sm', sm' = sm * 31 + (0 : Int32).toInt64 ∧ u = MW oc am cI cJ cZ cO 0 0 1 0 sm' qo F G)) := by
  refine ent (by decide) (Nat.le_of_ble_eq_true rfl) ?_
  intro p e s m below meth c ls A hx hb hr hg hown hml hlocks hnm hP hK hD hS hA hN hl
  have hl : lv_has ls 2 [(0, .ref (am 1)), (1, .int 0)] := hl
  refine lv_aload_n hx hb dX8_add__0 rfl (lv_at hl 0 rfl) ?_
  refine lv_iload_n hx hb dX8_add__1 rfl (lv_at hl 1 rfl) ?_
  refine lv_if_eq (tgt := 9) hx hb dX8_add__2 (by decide) (fun c_2 => ?_) (fun c_2 => absurd (by decide) c_2)
  refine lv_iconst (v := 0) hx hb dX8_add__9 (by decide) ?_
  refine kV (rV (q0 := 1) (ci := 8) hx hb hml hown hg hN hK hP hD (m_add l D cI cJ cZ cO oc am qo F G (sm) 0) mw_400 mw_401 mw_402 mw_403 mw_348 pdv_X8_add ⟨Nat.le_of_ble_eq_true rfl, Nat.le_of_ble_eq_true rfl⟩ rfl rfl rfl hl.1 rfl (Nat.le_of_ble_eq_true rfl) dX8_add__10 ⟨Nat.le_of_ble_eq_true rfl, Nat.le_of_ble_eq_true rfl⟩) hD hS hA (fun u_1 H locs hp hP hD hS => ?_)
  obtain ⟨sm_2, hsm_2, rfl⟩ := hp
  exact W.vret hx hb hr (fun t ht hW => ⟨⟨(MW oc am cI cJ cZ cO 0 0 1 0 sm_2 qo F G), rfl, ⟨_, hsm_2, rfl⟩, ⟨by rw [ht]; exact hP, va_K.moved hW.alike hK, hD⟩⟩, hS.F ht⟩) hS.2.2 dX8_add__13
set_option maxHeartbeats 4000000 in
set_option maxRecDepth 100000 in
theorem m_addZ1 (l : Launch) (D : va_G) (cI cJ cZ : ClassId) (cO : ClassId) (oc : Nat × va_E) (am : Nat → Nat) (qo : Nat) (F : Nat → Nat → Int32) (G : Nat → Nat → Int64) (sm : Int64) : CT l D (TO cI cJ cZ cO) yX8_add_ (.code yX8_add_ cX8_add_ 2 (none : Option FieldType)) 1 0 0 (MW oc am cI cJ cZ cO 0 0 1 0 sm qo F G) [.ref (am 1), .int 1] (QV D (TO cI cJ cZ cO) (fun u => ∃ sm', sm' = sm * 31 + (1 : Int32).toInt64 ∧ u = MW oc am cI cJ cZ cO 0 0 1 0 sm' qo F G)) := by
  refine ent (by decide) (Nat.le_of_ble_eq_true rfl) ?_
  intro p e s m below meth c ls A hx hb hr hg hown hml hlocks hnm hP hK hD hS hA hN hl
  have hl : lv_has ls 2 [(0, .ref (am 1)), (1, .int 1)] := hl
  refine lv_aload_n hx hb dX8_add__0 rfl (lv_at hl 0 rfl) ?_
  refine lv_iload_n hx hb dX8_add__1 rfl (lv_at hl 1 rfl) ?_
  refine lv_if_eq (tgt := 9) hx hb dX8_add__2 (by decide) (fun c_2 => absurd c_2 (by decide)) (fun c_2 => ?_)
  refine lv_iconst (v := 1) hx hb dX8_add__5 (by decide) ?_
  refine lv_goto (tgt := 10) hx hb dX8_add__6 (by decide) ?_
  refine kV (rV (q0 := 1) (ci := 8) hx hb hml hown hg hN hK hP hD (m_add l D cI cJ cZ cO oc am qo F G (sm) 1) mw_400 mw_401 mw_402 mw_403 mw_348 pdv_X8_add ⟨Nat.le_of_ble_eq_true rfl, Nat.le_of_ble_eq_true rfl⟩ rfl rfl rfl hl.1 rfl (Nat.le_of_ble_eq_true rfl) dX8_add__10 ⟨Nat.le_of_ble_eq_true rfl, Nat.le_of_ble_eq_true rfl⟩) hD hS hA (fun u_1 H locs hp hP hD hS => ?_)
  obtain ⟨sm_2, hsm_2, rfl⟩ := hp
  exact W.vret hx hb hr (fun t ht hW => ⟨⟨(MW oc am cI cJ cZ cO 0 0 1 0 sm_2 qo F G), rfl, ⟨_, hsm_2, rfl⟩, ⟨by rw [ht]; exact hP, va_K.moved hW.alike hK, hD⟩⟩, hS.F ht⟩) hS.2.2 dX8_add__13
set_option maxHeartbeats 4000000 in
set_option maxRecDepth 100000 in
theorem m_isBlock (l : Launch) (D : va_G) (cI cJ cZ : ClassId) (cO : ClassId) (oc : Nat × va_E) (am : Nat → Nat) (qo : Nat) (F : Nat → Nat → Int32) (G : Nat → Nat → Int64) (k : Int32) : CT l D (TO cI cJ cZ cO) yX8_isBlock (.code yX8_isBlock cX8_isBlock 2 (some Jvm.ClassFile.FieldType.boolean)) 3 1 0 (MW oc am cI cJ cZ cO 0 0 0 0 0 qo F G) [.ref (am 1), .int k] (QI D (TO cI cJ cZ cO) (fun r u => r = 0 ∧ ∃ qo' F' G', u = MW oc am cI cJ cZ cO 1 0 1 0 0 qo' F' G')) := by
  refine ent (by decide) (Nat.le_of_ble_eq_true rfl) ?_
  intro p e s m below meth c ls A hx hb hr hg hown hml hlocks hnm hP hK hD hS hA hN hl
  have hl : lv_has ls 2 [(0, .ref (am 1)), (1, .int k)] := hl
  refine lv_aload_n hx hb dX8_isBlock_0 rfl (lv_at hl 0 rfl) ?_
  refine kV (rV (q0 := 1) (ci := 8) hx hb hml hown hg hN hK hP hD (m_lay l D cI cJ cZ cO oc am qo F G) mw_404 mw_405 mw_406 mw_407 mw_348 pdv_X8_lay ⟨Nat.le_of_ble_eq_true rfl, Nat.le_of_ble_eq_true rfl⟩ rfl rfl rfl hl.1 rfl (Nat.le_of_ble_eq_true rfl) dX8_isBlock_1 ⟨Nat.le_of_ble_eq_true rfl, Nat.le_of_ble_eq_true rfl⟩) hD hS hA (fun u_1 H locs hp hP hD hS => ?_)
  obtain ⟨q_2, F_3, G_4, rfl⟩ := hp
  refine lv_aload_n hx hb dX8_isBlock_4 rfl (lv_at hl 0 rfl) ?_
  refine lv_iload_n hx hb dX8_isBlock_5 rfl (lv_at hl 1 rfl) ?_
  refine lv_iconst (v := 0) hx hb dX8_isBlock_6 (by decide) ?_
  refine lv_aload_n hx hb dX8_isBlock_7 rfl (lv_at hl 0 rfl) ?_
  refine va_get (D := D) (ci := 8) (v := .int 0) (C := RX8) (T := TX8) (N := 32) hx hb hg inGX8 hown hK hP 1 rfl rfl 7 (by decide) (hg _ mw_356) (fun _ h9 => h9) rfl dX8_isBlock_8 ?_
  refine lv_iconst (v := 1) hx hb dX8_isBlock_11 (by decide) ?_
  refine lv_isub hx hb dX8_isBlock_12 ?_
  refine lv_topi (fun v_5 ev_5 => ?_)
  obtain rfl : v_5 = ((-1) : Int32) := ev_5.trans (by decide)
  refine kI (rS hx hb hml hown hg hN hK hP hD (m_is l D cI cJ cZ cO (MW oc am cI cJ cZ cO 0 0 1 0 0 q_2 F_3 G_4) k 0 (-1)) mw_345 mw_346 mw_347 mw_348 pd_X8_is ⟨Nat.le_of_ble_eq_true rfl, Nat.le_of_ble_eq_true rfl⟩ rfl hl.1 rfl (Nat.le_of_ble_eq_true rfl) dX8_isBlock_13 ⟨Nat.le_of_ble_eq_true rfl, Nat.le_of_ble_eq_true rfl⟩) hD hS hA (fun r_6 u_6 H locs hp hP hD hS => ?_)
  obtain ⟨hisr_6, rfl⟩ := hp
  obtain rfl : r_6 = 0 := is_m1 hisr_6
  refine lv_if_eq (tgt := 23) hx hb dX8_isBlock_16 (by decide) (fun c_16 => ?_) (fun c_16 => absurd (by decide) c_16)
  refine lv_iconst (v := 1) hx hb dX8_isBlock_23 (by decide) ?_
  refine va_put (D := D) (ci := 8) (v := .int 1) (C := RX8) (T := TX8) (N := 32) hx hb hg inGX8 tyX8 tyX8_ok nmX8 hown hK hP hD hS 1 rfl rfl 0 (by decide) (hg _ mw_343) (fun _ h9 => h9) rfl (tyX8_ok 0 (by decide)) rfl rfl (Nat.le_of_ble_eq_true rfl) dX8_isBlock_24 (fun H locs hP hD hS => ?_)
  have hP : va_P D vwCl (MW oc am cI cJ cZ cO 1 0 1 0 0 q_2 F_3 G_4) H := hP
  have hD : va_D A (MW oc am cI cJ cZ cO 1 0 1 0 0 q_2 F_3 G_4) := hD
  refine lv_aload_n hx hb dX8_isBlock_27 rfl (lv_at hl 0 rfl) ?_
  refine va_get (D := D) (ci := 8) (v := .int 1) (C := RX8) (T := TX8) (N := 32) hx hb hg inGX8 hown hK hP 1 rfl rfl 0 (by decide) (hg _ mw_343) (fun _ h9 => h9) rfl dX8_isBlock_28 ?_
  refine lv_if_ne (tgt := 38) hx hb dX8_isBlock_31 (by decide) (fun c_31 => ?_) (fun c_31 => absurd c_31 (by decide))
  refine lv_iconst (v := 0) hx hb dX8_isBlock_38 (by decide) ?_
  exact W.zret (v := 0) hx hb hr rfl (fun t ht hW => ⟨⟨0, (MW oc am cI cJ cZ cO 1 0 1 0 0 q_2 F_3 G_4), rfl, ⟨rfl, _, _, _, rfl⟩, ⟨by rw [ht]; exact hP, va_K.moved hW.alike hK, hD⟩⟩, hS.F ht⟩) hS.2.2 dX8_isBlock_39
set_option maxHeartbeats 4000000 in
set_option maxRecDepth 100000 in
theorem m_isEdge (l : Launch) (D : va_G) (cI cJ cZ : ClassId) (cO : ClassId) (oc : Nat × va_E) (am : Nat → Nat) (qo : Nat) (F : Nat → Nat → Int32) (G : Nat → Nat → Int64) (k : Int32) : CT l D (TO cI cJ cZ cO) yX8_isEdge (.code yX8_isEdge cX8_isEdge 2 (some Jvm.ClassFile.FieldType.boolean)) 3 1 0 (MW oc am cI cJ cZ cO 0 0 0 0 0 qo F G) [.ref (am 1), .int k] (QI D (TO cI cJ cZ cO) (fun r u => r = 0 ∧ ∃ qo' F' G', u = MW oc am cI cJ cZ cO 1 0 1 0 0 qo' F' G')) := by
  refine ent (by decide) (Nat.le_of_ble_eq_true rfl) ?_
  intro p e s m below meth c ls A hx hb hr hg hown hml hlocks hnm hP hK hD hS hA hN hl
  have hl : lv_has ls 2 [(0, .ref (am 1)), (1, .int k)] := hl
  refine lv_aload_n hx hb dX8_isEdge_0 rfl (lv_at hl 0 rfl) ?_
  refine kV (rV (q0 := 1) (ci := 8) hx hb hml hown hg hN hK hP hD (m_lay l D cI cJ cZ cO oc am qo F G) mw_404 mw_405 mw_406 mw_407 mw_348 pdv_X8_lay ⟨Nat.le_of_ble_eq_true rfl, Nat.le_of_ble_eq_true rfl⟩ rfl rfl rfl hl.1 rfl (Nat.le_of_ble_eq_true rfl) dX8_isEdge_1 ⟨Nat.le_of_ble_eq_true rfl, Nat.le_of_ble_eq_true rfl⟩) hD hS hA (fun u_1 H locs hp hP hD hS => ?_)
  obtain ⟨q_2, F_3, G_4, rfl⟩ := hp
  refine lv_aload_n hx hb dX8_isEdge_4 rfl (lv_at hl 0 rfl) ?_
  refine lv_iload_n hx hb dX8_isEdge_5 rfl (lv_at hl 1 rfl) ?_
  refine lv_iconst (v := 0) hx hb dX8_isEdge_6 (by decide) ?_
  refine lv_aload_n hx hb dX8_isEdge_7 rfl (lv_at hl 0 rfl) ?_
  refine va_get (D := D) (ci := 8) (v := .int 0) (C := RX8) (T := TX8) (N := 32) hx hb hg inGX8 hown hK hP 1 rfl rfl 8 (by decide) (hg _ mw_361) (fun _ h9 => h9) rfl dX8_isEdge_8 ?_
  refine lv_iconst (v := 1) hx hb dX8_isEdge_11 (by decide) ?_
  refine lv_isub hx hb dX8_isEdge_12 ?_
  refine lv_topi (fun v_5 ev_5 => ?_)
  obtain rfl : v_5 = ((-1) : Int32) := ev_5.trans (by decide)
  refine kI (rS hx hb hml hown hg hN hK hP hD (m_is l D cI cJ cZ cO (MW oc am cI cJ cZ cO 0 0 1 0 0 q_2 F_3 G_4) k 0 (-1)) mw_345 mw_346 mw_347 mw_348 pd_X8_is ⟨Nat.le_of_ble_eq_true rfl, Nat.le_of_ble_eq_true rfl⟩ rfl hl.1 rfl (Nat.le_of_ble_eq_true rfl) dX8_isEdge_13 ⟨Nat.le_of_ble_eq_true rfl, Nat.le_of_ble_eq_true rfl⟩) hD hS hA (fun r_6 u_6 H locs hp hP hD hS => ?_)
  obtain ⟨hisr_6, rfl⟩ := hp
  obtain rfl : r_6 = 0 := is_m1 hisr_6
  refine lv_if_eq (tgt := 23) hx hb dX8_isEdge_16 (by decide) (fun c_16 => ?_) (fun c_16 => absurd (by decide) c_16)
  refine lv_iconst (v := 1) hx hb dX8_isEdge_23 (by decide) ?_
  refine va_put (D := D) (ci := 8) (v := .int 1) (C := RX8) (T := TX8) (N := 32) hx hb hg inGX8 tyX8 tyX8_ok nmX8 hown hK hP hD hS 1 rfl rfl 0 (by decide) (hg _ mw_343) (fun _ h9 => h9) rfl (tyX8_ok 0 (by decide)) rfl rfl (Nat.le_of_ble_eq_true rfl) dX8_isEdge_24 (fun H locs hP hD hS => ?_)
  have hP : va_P D vwCl (MW oc am cI cJ cZ cO 1 0 1 0 0 q_2 F_3 G_4) H := hP
  have hD : va_D A (MW oc am cI cJ cZ cO 1 0 1 0 0 q_2 F_3 G_4) := hD
  refine lv_aload_n hx hb dX8_isEdge_27 rfl (lv_at hl 0 rfl) ?_
  refine va_get (D := D) (ci := 8) (v := .int 1) (C := RX8) (T := TX8) (N := 32) hx hb hg inGX8 hown hK hP 1 rfl rfl 0 (by decide) (hg _ mw_343) (fun _ h9 => h9) rfl dX8_isEdge_28 ?_
  refine lv_if_ne (tgt := 38) hx hb dX8_isEdge_31 (by decide) (fun c_31 => ?_) (fun c_31 => absurd c_31 (by decide))
  refine lv_iconst (v := 0) hx hb dX8_isEdge_38 (by decide) ?_
  exact W.zret (v := 0) hx hb hr rfl (fun t ht hW => ⟨⟨0, (MW oc am cI cJ cZ cO 1 0 1 0 0 q_2 F_3 G_4), rfl, ⟨rfl, _, _, _, rfl⟩, ⟨by rw [ht]; exact hP, va_K.moved hW.alike hK, hD⟩⟩, hS.F ht⟩) hS.2.2 dX8_isEdge_39
set_option maxHeartbeats 4000000 in
set_option maxRecDepth 100000 in
theorem m_isLayer (l : Launch) (D : va_G) (cI cJ cZ : ClassId) (cO : ClassId) (oc : Nat × va_E) (am : Nat → Nat) (qo : Nat) (F : Nat → Nat → Int32) (G : Nat → Nat → Int64) (k : Int32) : CT l D (TO cI cJ cZ cO) yX8_isLayer (.code yX8_isLayer cX8_isLayer 2 (some Jvm.ClassFile.FieldType.boolean)) 3 1 0 (MW oc am cI cJ cZ cO 0 0 0 0 0 qo F G) [.ref (am 1), .int k] (QI D (TO cI cJ cZ cO) (fun r u => r = 0 ∧ ∃ qo' F' G', u = MW oc am cI cJ cZ cO 1 0 1 0 0 qo' F' G')) := by
  refine ent (by decide) (Nat.le_of_ble_eq_true rfl) ?_
  intro p e s m below meth c ls A hx hb hr hg hown hml hlocks hnm hP hK hD hS hA hN hl
  have hl : lv_has ls 2 [(0, .ref (am 1)), (1, .int k)] := hl
  refine lv_aload_n hx hb dX8_isLayer_0 rfl (lv_at hl 0 rfl) ?_
  refine kV (rV (q0 := 1) (ci := 8) hx hb hml hown hg hN hK hP hD (m_lay l D cI cJ cZ cO oc am qo F G) mw_404 mw_405 mw_406 mw_407 mw_348 pdv_X8_lay ⟨Nat.le_of_ble_eq_true rfl, Nat.le_of_ble_eq_true rfl⟩ rfl rfl rfl hl.1 rfl (Nat.le_of_ble_eq_true rfl) dX8_isLayer_1 ⟨Nat.le_of_ble_eq_true rfl, Nat.le_of_ble_eq_true rfl⟩) hD hS hA (fun u_1 H locs hp hP hD hS => ?_)
  obtain ⟨q_2, F_3, G_4, rfl⟩ := hp
  refine lv_aload_n hx hb dX8_isLayer_4 rfl (lv_at hl 0 rfl) ?_
  refine lv_iload_n hx hb dX8_isLayer_5 rfl (lv_at hl 1 rfl) ?_
  refine lv_iconst (v := 0) hx hb dX8_isLayer_6 (by decide) ?_
  refine lv_aload_n hx hb dX8_isLayer_7 rfl (lv_at hl 0 rfl) ?_
  refine va_get (D := D) (ci := 8) (v := .int 0) (C := RX8) (T := TX8) (N := 32) hx hb hg inGX8 hown hK hP 1 rfl rfl 28 (by decide) (hg _ mw_372) (fun _ h9 => h9) rfl dX8_isLayer_8 ?_
  refine lv_iconst (v := 1) hx hb dX8_isLayer_11 (by decide) ?_
  refine lv_isub hx hb dX8_isLayer_12 ?_
  refine lv_topi (fun v_5 ev_5 => ?_)
  obtain rfl : v_5 = ((-1) : Int32) := ev_5.trans (by decide)
  refine kI (rS hx hb hml hown hg hN hK hP hD (m_is l D cI cJ cZ cO (MW oc am cI cJ cZ cO 0 0 1 0 0 q_2 F_3 G_4) k 0 (-1)) mw_345 mw_346 mw_347 mw_348 pd_X8_is ⟨Nat.le_of_ble_eq_true rfl, Nat.le_of_ble_eq_true rfl⟩ rfl hl.1 rfl (Nat.le_of_ble_eq_true rfl) dX8_isLayer_13 ⟨Nat.le_of_ble_eq_true rfl, Nat.le_of_ble_eq_true rfl⟩) hD hS hA (fun r_6 u_6 H locs hp hP hD hS => ?_)
  obtain ⟨hisr_6, rfl⟩ := hp
  obtain rfl : r_6 = 0 := is_m1 hisr_6
  refine lv_if_eq (tgt := 23) hx hb dX8_isLayer_16 (by decide) (fun c_16 => ?_) (fun c_16 => absurd (by decide) c_16)
  refine lv_iconst (v := 1) hx hb dX8_isLayer_23 (by decide) ?_
  refine va_put (D := D) (ci := 8) (v := .int 1) (C := RX8) (T := TX8) (N := 32) hx hb hg inGX8 tyX8 tyX8_ok nmX8 hown hK hP hD hS 1 rfl rfl 0 (by decide) (hg _ mw_343) (fun _ h9 => h9) rfl (tyX8_ok 0 (by decide)) rfl rfl (Nat.le_of_ble_eq_true rfl) dX8_isLayer_24 (fun H locs hP hD hS => ?_)
  have hP : va_P D vwCl (MW oc am cI cJ cZ cO 1 0 1 0 0 q_2 F_3 G_4) H := hP
  have hD : va_D A (MW oc am cI cJ cZ cO 1 0 1 0 0 q_2 F_3 G_4) := hD
  refine lv_aload_n hx hb dX8_isLayer_27 rfl (lv_at hl 0 rfl) ?_
  refine va_get (D := D) (ci := 8) (v := .int 1) (C := RX8) (T := TX8) (N := 32) hx hb hg inGX8 hown hK hP 1 rfl rfl 0 (by decide) (hg _ mw_343) (fun _ h9 => h9) rfl dX8_isLayer_28 ?_
  refine lv_if_ne (tgt := 38) hx hb dX8_isLayer_31 (by decide) (fun c_31 => ?_) (fun c_31 => absurd c_31 (by decide))
  refine lv_iconst (v := 0) hx hb dX8_isLayer_38 (by decide) ?_
  exact W.zret (v := 0) hx hb hr rfl (fun t ht hW => ⟨⟨0, (MW oc am cI cJ cZ cO 1 0 1 0 0 q_2 F_3 G_4), rfl, ⟨rfl, _, _, _, rfl⟩, ⟨by rw [ht]; exact hP, va_K.moved hW.alike hK, hD⟩⟩, hS.F ht⟩) hS.2.2 dX8_isLayer_39
set_option maxHeartbeats 4000000 in
set_option maxRecDepth 100000 in
theorem q_instructions (l : Launch) (D : va_G) (cI cJ cZ : ClassId) (cO : ClassId) (oc : Nat × va_E) (am : Nat → Nat) (qo : Nat) (F : Nat → Nat → Int32) (G : Nat → Nat → Int64) : CT l D (TO cI cJ cZ cO) yX8_instructions (.code yX8_instructions cX8_instructions 1 (some Jvm.ClassFile.FieldType.int)) 5 0 0 (MW oc am cI cJ cZ cO 0 0 0 0 0 qo F G) [.ref (am 1)] (QI D (TO cI cJ cZ cO) (fun r u => r = 0 ∧ ∃ mn' ld' sw' sm' qo' F' G', u = MW oc am cI cJ cZ cO 0 mn' ld' sw' sm' qo' F' G')) := by
  refine ent (by decide) (Nat.le_of_ble_eq_true rfl) ?_
  intro p e s m below meth c ls A hx hb hr hg hown hml hlocks hnm hP hK hD hS hA hN hl
  have hl : lv_has ls 1 [(0, .ref (am 1))] := hl
  refine lv_aload_n hx hb dX8_instructions_0 rfl (lv_at hl 0 rfl) ?_
  refine lv_iconst (v := 0) hx hb dX8_instructions_1 (by decide) ?_
  refine va_put (D := D) (ci := 8) (v := .int 0) (C := RX8) (T := TX8) (N := 32) hx hb hg inGX8 tyX8 tyX8_ok nmX8 hown hK hP hD hS 1 rfl rfl 0 (by decide) (hg _ mw_343) (fun _ h9 => h9) rfl (tyX8_ok 0 (by decide)) rfl rfl (Nat.le_of_ble_eq_true rfl) dX8_instructions_2 (fun H locs hP hD hS => ?_)
  have hP : va_P D vwCl (MW oc am cI cJ cZ cO 0 0 0 0 0 qo F G) H := hP
  have hD : va_D A (MW oc am cI cJ cZ cO 0 0 0 0 0 qo F G) := hD
  refine lv_aload_n hx hb dX8_instructions_5 rfl (lv_at hl 0 rfl) ?_
  refine va_get (D := D) (ci := 8) (v := .int 0) (C := RX8) (T := TX8) (N := 32) hx hb hg inGX8 hown hK hP 1 rfl rfl 1 (by decide) (hg _ mw_344) (fun _ h9 => h9) rfl dX8_instructions_6 ?_
  exact W.iret (v := 0) hx hb hr (fun t ht hW => ⟨⟨0, (MW oc am cI cJ cZ cO 0 0 0 0 0 qo F G), rfl, ⟨rfl, _, _, _, _, _, _, _, rfl⟩, ⟨by rw [ht]; exact hP, va_K.moved hW.alike hK, hD⟩⟩, hS.F ht⟩) hS.2.2 dX8_instructions_9
set_option maxHeartbeats 4000000 in
set_option maxRecDepth 100000 in
theorem q_blocks (l : Launch) (D : va_G) (cI cJ cZ : ClassId) (cO : ClassId) (oc : Nat × va_E) (am : Nat → Nat) (qo : Nat) (F : Nat → Nat → Int32) (G : Nat → Nat → Int64) : CT l D (TO cI cJ cZ cO) yX8_blocks (.code yX8_blocks cX8_blocks 1 (some Jvm.ClassFile.FieldType.int)) 5 1 0 (MW oc am cI cJ cZ cO 0 0 0 0 0 qo F G) [.ref (am 1)] (QI D (TO cI cJ cZ cO) (fun r u => r = 0 ∧ ∃ mn' ld' sw' sm' qo' F' G', u = MW oc am cI cJ cZ cO 0 mn' ld' sw' sm' qo' F' G')) := by
  refine ent (by decide) (Nat.le_of_ble_eq_true rfl) ?_
  intro p e s m below meth c ls A hx hb hr hg hown hml hlocks hnm hP hK hD hS hA hN hl
  have hl : lv_has ls 1 [(0, .ref (am 1))] := hl
  refine lv_aload_n hx hb dX8_blocks_0 rfl (lv_at hl 0 rfl) ?_
  refine lv_iconst (v := 0) hx hb dX8_blocks_1 (by decide) ?_
  refine va_put (D := D) (ci := 8) (v := .int 0) (C := RX8) (T := TX8) (N := 32) hx hb hg inGX8 tyX8 tyX8_ok nmX8 hown hK hP hD hS 1 rfl rfl 0 (by decide) (hg _ mw_343) (fun _ h9 => h9) rfl (tyX8_ok 0 (by decide)) rfl rfl (Nat.le_of_ble_eq_true rfl) dX8_blocks_2 (fun H locs hP hD hS => ?_)
  have hP : va_P D vwCl (MW oc am cI cJ cZ cO 0 0 0 0 0 qo F G) H := hP
  have hD : va_D A (MW oc am cI cJ cZ cO 0 0 0 0 0 qo F G) := hD
  refine lv_aload_n hx hb dX8_blocks_5 rfl (lv_at hl 0 rfl) ?_
  refine kV (rV (q0 := 1) (ci := 8) hx hb hml hown hg hN hK hP hD (m_lay l D cI cJ cZ cO oc am qo F G) mw_404 mw_405 mw_406 mw_407 mw_348 pdv_X8_lay ⟨Nat.le_of_ble_eq_true rfl, Nat.le_of_ble_eq_true rfl⟩ rfl rfl rfl hl.1 rfl (Nat.le_of_ble_eq_true rfl) dX8_blocks_6 ⟨Nat.le_of_ble_eq_true rfl, Nat.le_of_ble_eq_true rfl⟩) hD hS hA (fun u_1 H locs hp hP hD hS => ?_)
  obtain ⟨q_2, F_3, G_4, rfl⟩ := hp
  refine lv_aload_n hx hb dX8_blocks_9 rfl (lv_at hl 0 rfl) ?_
  refine va_get (D := D) (ci := 8) (v := .int 0) (C := RX8) (T := TX8) (N := 32) hx hb hg inGX8 hown hK hP 1 rfl rfl 7 (by decide) (hg _ mw_356) (fun _ h9 => h9) rfl dX8_blocks_10 ?_
  exact W.iret (v := 0) hx hb hr (fun t ht hW => ⟨⟨0, (MW oc am cI cJ cZ cO 0 0 1 0 0 q_2 F_3 G_4), rfl, ⟨rfl, _, _, _, _, _, _, _, rfl⟩, ⟨by rw [ht]; exact hP, va_K.moved hW.alike hK, hD⟩⟩, hS.F ht⟩) hS.2.2 dX8_blocks_13
set_option maxHeartbeats 4000000 in
set_option maxRecDepth 100000 in
theorem q_edges (l : Launch) (D : va_G) (cI cJ cZ : ClassId) (cO : ClassId) (oc : Nat × va_E) (am : Nat → Nat) (qo : Nat) (F : Nat → Nat → Int32) (G : Nat → Nat → Int64) : CT l D (TO cI cJ cZ cO) yX8_edges (.code yX8_edges cX8_edges 1 (some Jvm.ClassFile.FieldType.int)) 5 1 0 (MW oc am cI cJ cZ cO 0 0 0 0 0 qo F G) [.ref (am 1)] (QI D (TO cI cJ cZ cO) (fun r u => r = 0 ∧ ∃ mn' ld' sw' sm' qo' F' G', u = MW oc am cI cJ cZ cO 0 mn' ld' sw' sm' qo' F' G')) := by
  refine ent (by decide) (Nat.le_of_ble_eq_true rfl) ?_
  intro p e s m below meth c ls A hx hb hr hg hown hml hlocks hnm hP hK hD hS hA hN hl
  have hl : lv_has ls 1 [(0, .ref (am 1))] := hl
  refine lv_aload_n hx hb dX8_edges_0 rfl (lv_at hl 0 rfl) ?_
  refine lv_iconst (v := 0) hx hb dX8_edges_1 (by decide) ?_
  refine va_put (D := D) (ci := 8) (v := .int 0) (C := RX8) (T := TX8) (N := 32) hx hb hg inGX8 tyX8 tyX8_ok nmX8 hown hK hP hD hS 1 rfl rfl 0 (by decide) (hg _ mw_343) (fun _ h9 => h9) rfl (tyX8_ok 0 (by decide)) rfl rfl (Nat.le_of_ble_eq_true rfl) dX8_edges_2 (fun H locs hP hD hS => ?_)
  have hP : va_P D vwCl (MW oc am cI cJ cZ cO 0 0 0 0 0 qo F G) H := hP
  have hD : va_D A (MW oc am cI cJ cZ cO 0 0 0 0 0 qo F G) := hD
  refine lv_aload_n hx hb dX8_edges_5 rfl (lv_at hl 0 rfl) ?_
  refine kV (rV (q0 := 1) (ci := 8) hx hb hml hown hg hN hK hP hD (m_lay l D cI cJ cZ cO oc am qo F G) mw_404 mw_405 mw_406 mw_407 mw_348 pdv_X8_lay ⟨Nat.le_of_ble_eq_true rfl, Nat.le_of_ble_eq_true rfl⟩ rfl rfl rfl hl.1 rfl (Nat.le_of_ble_eq_true rfl) dX8_edges_6 ⟨Nat.le_of_ble_eq_true rfl, Nat.le_of_ble_eq_true rfl⟩) hD hS hA (fun u_1 H locs hp hP hD hS => ?_)
  obtain ⟨q_2, F_3, G_4, rfl⟩ := hp
  refine lv_aload_n hx hb dX8_edges_9 rfl (lv_at hl 0 rfl) ?_
  refine va_get (D := D) (ci := 8) (v := .int 0) (C := RX8) (T := TX8) (N := 32) hx hb hg inGX8 hown hK hP 1 rfl rfl 8 (by decide) (hg _ mw_361) (fun _ h9 => h9) rfl dX8_edges_10 ?_
  exact W.iret (v := 0) hx hb hr (fun t ht hW => ⟨⟨0, (MW oc am cI cJ cZ cO 0 0 1 0 0 q_2 F_3 G_4), rfl, ⟨rfl, _, _, _, _, _, _, _, rfl⟩, ⟨by rw [ht]; exact hP, va_K.moved hW.alike hK, hD⟩⟩, hS.F ht⟩) hS.2.2 dX8_edges_13
set_option maxHeartbeats 4000000 in
set_option maxRecDepth 100000 in
theorem q_loops (l : Launch) (D : va_G) (cI cJ cZ : ClassId) (cO : ClassId) (oc : Nat × va_E) (am : Nat → Nat) (qo : Nat) (F : Nat → Nat → Int32) (G : Nat → Nat → Int64) : CT l D (TO cI cJ cZ cO) yX8_loops (.code yX8_loops cX8_loops 1 (some Jvm.ClassFile.FieldType.int)) 5 1 0 (MW oc am cI cJ cZ cO 0 0 0 0 0 qo F G) [.ref (am 1)] (QI D (TO cI cJ cZ cO) (fun r u => r = 0 ∧ ∃ mn' ld' sw' sm' qo' F' G', u = MW oc am cI cJ cZ cO 0 mn' ld' sw' sm' qo' F' G')) := by
  refine ent (by decide) (Nat.le_of_ble_eq_true rfl) ?_
  intro p e s m below meth c ls A hx hb hr hg hown hml hlocks hnm hP hK hD hS hA hN hl
  have hl : lv_has ls 1 [(0, .ref (am 1))] := hl
  refine lv_aload_n hx hb dX8_loops_0 rfl (lv_at hl 0 rfl) ?_
  refine lv_iconst (v := 0) hx hb dX8_loops_1 (by decide) ?_
  refine va_put (D := D) (ci := 8) (v := .int 0) (C := RX8) (T := TX8) (N := 32) hx hb hg inGX8 tyX8 tyX8_ok nmX8 hown hK hP hD hS 1 rfl rfl 0 (by decide) (hg _ mw_343) (fun _ h9 => h9) rfl (tyX8_ok 0 (by decide)) rfl rfl (Nat.le_of_ble_eq_true rfl) dX8_loops_2 (fun H locs hP hD hS => ?_)
  have hP : va_P D vwCl (MW oc am cI cJ cZ cO 0 0 0 0 0 qo F G) H := hP
  have hD : va_D A (MW oc am cI cJ cZ cO 0 0 0 0 0 qo F G) := hD
  refine lv_aload_n hx hb dX8_loops_5 rfl (lv_at hl 0 rfl) ?_
  refine kV (rV (q0 := 1) (ci := 8) hx hb hml hown hg hN hK hP hD (m_lay l D cI cJ cZ cO oc am qo F G) mw_404 mw_405 mw_406 mw_407 mw_348 pdv_X8_lay ⟨Nat.le_of_ble_eq_true rfl, Nat.le_of_ble_eq_true rfl⟩ rfl rfl rfl hl.1 rfl (Nat.le_of_ble_eq_true rfl) dX8_loops_6 ⟨Nat.le_of_ble_eq_true rfl, Nat.le_of_ble_eq_true rfl⟩) hD hS hA (fun u_1 H locs hp hP hD hS => ?_)
  obtain ⟨q_2, F_3, G_4, rfl⟩ := hp
  refine lv_aload_n hx hb dX8_loops_9 rfl (lv_at hl 0 rfl) ?_
  refine kI (rV (q0 := 1) (ci := 8) hx hb hml hown hg hN hK hP hD (m_loopsNow l D cI cJ cZ cO oc am q_2 F_3 G_4 (0)) mw_408 mw_409 mw_410 mw_411 mw_348 pdv_X8_loopsNow ⟨Nat.le_of_ble_eq_true rfl, Nat.le_of_ble_eq_true rfl⟩ rfl rfl rfl hl.1 rfl (Nat.le_of_ble_eq_true rfl) dX8_loops_10 ⟨Nat.le_of_ble_eq_true rfl, Nat.le_of_ble_eq_true rfl⟩) hD hS hA (fun r_5 u_5 H locs hp hP hD hS => ?_)
  obtain ⟨rfl, rfl⟩ := hp
  exact W.iret (v := 0) hx hb hr (fun t ht hW => ⟨⟨0, (MW oc am cI cJ cZ cO 0 0 1 0 0 q_2 F_3 G_4), rfl, ⟨rfl, _, _, _, _, _, _, _, rfl⟩, ⟨by rw [ht]; exact hP, va_K.moved hW.alike hK, hD⟩⟩, hS.F ht⟩) hS.2.2 dX8_loops_13
set_option maxHeartbeats 4000000 in
set_option maxRecDepth 100000 in
theorem q_vain (l : Launch) (D : va_G) (cI cJ cZ : ClassId) (cO : ClassId) (oc : Nat × va_E) (am : Nat → Nat) (qo : Nat) (F : Nat → Nat → Int32) (G : Nat → Nat → Int64) : CT l D (TO cI cJ cZ cO) yX8_vain (.code yX8_vain cX8_vain 1 (some Jvm.ClassFile.FieldType.int)) 5 1 0 (MW oc am cI cJ cZ cO 0 0 0 0 0 qo F G) [.ref (am 1)] (QI D (TO cI cJ cZ cO) (fun r u => r = 0 ∧ ∃ mn' ld' sw' sm' qo' F' G', u = MW oc am cI cJ cZ cO 0 mn' ld' sw' sm' qo' F' G')) := by
  refine ent (by decide) (Nat.le_of_ble_eq_true rfl) ?_
  intro p e s m below meth c ls A hx hb hr hg hown hml hlocks hnm hP hK hD hS hA hN hl
  have hl : lv_has ls 1 [(0, .ref (am 1))] := hl
  refine lv_aload_n hx hb dX8_vain_0 rfl (lv_at hl 0 rfl) ?_
  refine lv_iconst (v := 0) hx hb dX8_vain_1 (by decide) ?_
  refine va_put (D := D) (ci := 8) (v := .int 0) (C := RX8) (T := TX8) (N := 32) hx hb hg inGX8 tyX8 tyX8_ok nmX8 hown hK hP hD hS 1 rfl rfl 0 (by decide) (hg _ mw_343) (fun _ h9 => h9) rfl (tyX8_ok 0 (by decide)) rfl rfl (Nat.le_of_ble_eq_true rfl) dX8_vain_2 (fun H locs hP hD hS => ?_)
  have hP : va_P D vwCl (MW oc am cI cJ cZ cO 0 0 0 0 0 qo F G) H := hP
  have hD : va_D A (MW oc am cI cJ cZ cO 0 0 0 0 0 qo F G) := hD
  refine lv_aload_n hx hb dX8_vain_5 rfl (lv_at hl 0 rfl) ?_
  refine kV (rV (q0 := 1) (ci := 8) hx hb hml hown hg hN hK hP hD (m_lay l D cI cJ cZ cO oc am qo F G) mw_404 mw_405 mw_406 mw_407 mw_348 pdv_X8_lay ⟨Nat.le_of_ble_eq_true rfl, Nat.le_of_ble_eq_true rfl⟩ rfl rfl rfl hl.1 rfl (Nat.le_of_ble_eq_true rfl) dX8_vain_6 ⟨Nat.le_of_ble_eq_true rfl, Nat.le_of_ble_eq_true rfl⟩) hD hS hA (fun u_1 H locs hp hP hD hS => ?_)
  obtain ⟨q_2, F_3, G_4, rfl⟩ := hp
  refine lv_aload_n hx hb dX8_vain_9 rfl (lv_at hl 0 rfl) ?_
  refine kI (rV (q0 := 1) (ci := 8) hx hb hml hown hg hN hK hP hD (m_vainNow l D cI cJ cZ cO oc am q_2 F_3 G_4 (0)) mw_412 mw_413 mw_414 mw_415 mw_348 pdv_X8_vainNow ⟨Nat.le_of_ble_eq_true rfl, Nat.le_of_ble_eq_true rfl⟩ rfl rfl rfl hl.1 rfl (Nat.le_of_ble_eq_true rfl) dX8_vain_10 ⟨Nat.le_of_ble_eq_true rfl, Nat.le_of_ble_eq_true rfl⟩) hD hS hA (fun r_5 u_5 H locs hp hP hD hS => ?_)
  obtain ⟨rfl, rfl⟩ := hp
  exact W.iret (v := 0) hx hb hr (fun t ht hW => ⟨⟨0, (MW oc am cI cJ cZ cO 0 0 1 0 0 q_2 F_3 G_4), rfl, ⟨rfl, _, _, _, _, _, _, _, rfl⟩, ⟨by rw [ht]; exact hP, va_K.moved hW.alike hK, hD⟩⟩, hS.F ht⟩) hS.2.2 dX8_vain_13
set_option maxHeartbeats 4000000 in
set_option maxRecDepth 100000 in
theorem q_windings (l : Launch) (D : va_G) (cI cJ cZ : ClassId) (cO : ClassId) (oc : Nat × va_E) (am : Nat → Nat) (qo : Nat) (F : Nat → Nat → Int32) (G : Nat → Nat → Int64) : CT l D (TO cI cJ cZ cO) yX8_windings (.code yX8_windings cX8_windings 1 (some Jvm.ClassFile.FieldType.int)) 5 1 0 (MW oc am cI cJ cZ cO 0 0 0 0 0 qo F G) [.ref (am 1)] (QI D (TO cI cJ cZ cO) (fun r u => r = 0 ∧ ∃ mn' ld' sw' sm' qo' F' G', u = MW oc am cI cJ cZ cO 0 mn' ld' sw' sm' qo' F' G')) := by
  refine ent (by decide) (Nat.le_of_ble_eq_true rfl) ?_
  intro p e s m below meth c ls A hx hb hr hg hown hml hlocks hnm hP hK hD hS hA hN hl
  have hl : lv_has ls 1 [(0, .ref (am 1))] := hl
  refine lv_aload_n hx hb dX8_windings_0 rfl (lv_at hl 0 rfl) ?_
  refine lv_iconst (v := 0) hx hb dX8_windings_1 (by decide) ?_
  refine va_put (D := D) (ci := 8) (v := .int 0) (C := RX8) (T := TX8) (N := 32) hx hb hg inGX8 tyX8 tyX8_ok nmX8 hown hK hP hD hS 1 rfl rfl 0 (by decide) (hg _ mw_343) (fun _ h9 => h9) rfl (tyX8_ok 0 (by decide)) rfl rfl (Nat.le_of_ble_eq_true rfl) dX8_windings_2 (fun H locs hP hD hS => ?_)
  have hP : va_P D vwCl (MW oc am cI cJ cZ cO 0 0 0 0 0 qo F G) H := hP
  have hD : va_D A (MW oc am cI cJ cZ cO 0 0 0 0 0 qo F G) := hD
  refine lv_aload_n hx hb dX8_windings_5 rfl (lv_at hl 0 rfl) ?_
  refine kV (rV (q0 := 1) (ci := 8) hx hb hml hown hg hN hK hP hD (m_lay l D cI cJ cZ cO oc am qo F G) mw_404 mw_405 mw_406 mw_407 mw_348 pdv_X8_lay ⟨Nat.le_of_ble_eq_true rfl, Nat.le_of_ble_eq_true rfl⟩ rfl rfl rfl hl.1 rfl (Nat.le_of_ble_eq_true rfl) dX8_windings_6 ⟨Nat.le_of_ble_eq_true rfl, Nat.le_of_ble_eq_true rfl⟩) hD hS hA (fun u_1 H locs hp hP hD hS => ?_)
  obtain ⟨q_2, F_3, G_4, rfl⟩ := hp
  refine lv_aload_n hx hb dX8_windings_9 rfl (lv_at hl 0 rfl) ?_
  refine kI (rV (q0 := 1) (ci := 8) hx hb hml hown hg hN hK hP hD (m_windingsNow l D cI cJ cZ cO oc am q_2 F_3 G_4 (0)) mw_416 mw_417 mw_418 mw_419 mw_348 pdv_X8_windingsNow ⟨Nat.le_of_ble_eq_true rfl, Nat.le_of_ble_eq_true rfl⟩ rfl rfl rfl hl.1 rfl (Nat.le_of_ble_eq_true rfl) dX8_windings_10 ⟨Nat.le_of_ble_eq_true rfl, Nat.le_of_ble_eq_true rfl⟩) hD hS hA (fun r_5 u_5 H locs hp hP hD hS => ?_)
  obtain ⟨rfl, rfl⟩ := hp
  exact W.iret (v := 0) hx hb hr (fun t ht hW => ⟨⟨0, (MW oc am cI cJ cZ cO 0 0 1 0 0 q_2 F_3 G_4), rfl, ⟨rfl, _, _, _, _, _, _, _, rfl⟩, ⟨by rw [ht]; exact hP, va_K.moved hW.alike hK, hD⟩⟩, hS.F ht⟩) hS.2.2 dX8_windings_13
set_option maxHeartbeats 4000000 in
set_option maxRecDepth 100000 in
theorem q_steps (l : Launch) (D : va_G) (cI cJ cZ : ClassId) (cO : ClassId) (oc : Nat × va_E) (am : Nat → Nat) (qo : Nat) (F : Nat → Nat → Int32) (G : Nat → Nat → Int64) : CT l D (TO cI cJ cZ cO) yX8_steps (.code yX8_steps cX8_steps 1 (some Jvm.ClassFile.FieldType.int)) 5 1 0 (MW oc am cI cJ cZ cO 0 0 0 0 0 qo F G) [.ref (am 1)] (QI D (TO cI cJ cZ cO) (fun r u => r = 0 ∧ ∃ mn' ld' sw' sm' qo' F' G', u = MW oc am cI cJ cZ cO 0 mn' ld' sw' sm' qo' F' G')) := by
  refine ent (by decide) (Nat.le_of_ble_eq_true rfl) ?_
  intro p e s m below meth c ls A hx hb hr hg hown hml hlocks hnm hP hK hD hS hA hN hl
  have hl : lv_has ls 1 [(0, .ref (am 1))] := hl
  refine lv_aload_n hx hb dX8_steps_0 rfl (lv_at hl 0 rfl) ?_
  refine lv_iconst (v := 0) hx hb dX8_steps_1 (by decide) ?_
  refine va_put (D := D) (ci := 8) (v := .int 0) (C := RX8) (T := TX8) (N := 32) hx hb hg inGX8 tyX8 tyX8_ok nmX8 hown hK hP hD hS 1 rfl rfl 0 (by decide) (hg _ mw_343) (fun _ h9 => h9) rfl (tyX8_ok 0 (by decide)) rfl rfl (Nat.le_of_ble_eq_true rfl) dX8_steps_2 (fun H locs hP hD hS => ?_)
  have hP : va_P D vwCl (MW oc am cI cJ cZ cO 0 0 0 0 0 qo F G) H := hP
  have hD : va_D A (MW oc am cI cJ cZ cO 0 0 0 0 0 qo F G) := hD
  refine lv_aload_n hx hb dX8_steps_5 rfl (lv_at hl 0 rfl) ?_
  refine kV (rV (q0 := 1) (ci := 8) hx hb hml hown hg hN hK hP hD (m_lay l D cI cJ cZ cO oc am qo F G) mw_404 mw_405 mw_406 mw_407 mw_348 pdv_X8_lay ⟨Nat.le_of_ble_eq_true rfl, Nat.le_of_ble_eq_true rfl⟩ rfl rfl rfl hl.1 rfl (Nat.le_of_ble_eq_true rfl) dX8_steps_6 ⟨Nat.le_of_ble_eq_true rfl, Nat.le_of_ble_eq_true rfl⟩) hD hS hA (fun u_1 H locs hp hP hD hS => ?_)
  obtain ⟨q_2, F_3, G_4, rfl⟩ := hp
  refine lv_aload_n hx hb dX8_steps_9 rfl (lv_at hl 0 rfl) ?_
  refine va_get (D := D) (ci := 8) (v := .int 0) (C := RX8) (T := TX8) (N := 32) hx hb hg inGX8 hown hK hP 1 rfl rfl 21 (by decide) (hg _ mw_364) (fun _ h9 => h9) rfl dX8_steps_10 ?_
  exact W.iret (v := 0) hx hb hr (fun t ht hW => ⟨⟨0, (MW oc am cI cJ cZ cO 0 0 1 0 0 q_2 F_3 G_4), rfl, ⟨rfl, _, _, _, _, _, _, _, rfl⟩, ⟨by rw [ht]; exact hP, va_K.moved hW.alike hK, hD⟩⟩, hS.F ht⟩) hS.2.2 dX8_steps_13
set_option maxHeartbeats 4000000 in
set_option maxRecDepth 100000 in
theorem q_left (l : Launch) (D : va_G) (cI cJ cZ : ClassId) (cO : ClassId) (oc : Nat × va_E) (am : Nat → Nat) (qo : Nat) (F : Nat → Nat → Int32) (G : Nat → Nat → Int64) : CT l D (TO cI cJ cZ cO) yX8_left (.code yX8_left cX8_left 1 (some Jvm.ClassFile.FieldType.int)) 5 1 0 (MW oc am cI cJ cZ cO 0 0 0 0 0 qo F G) [.ref (am 1)] (QI D (TO cI cJ cZ cO) (fun r u => r = 0 ∧ ∃ mn' ld' sw' sm' qo' F' G', u = MW oc am cI cJ cZ cO 0 mn' ld' sw' sm' qo' F' G')) := by
  refine ent (by decide) (Nat.le_of_ble_eq_true rfl) ?_
  intro p e s m below meth c ls A hx hb hr hg hown hml hlocks hnm hP hK hD hS hA hN hl
  have hl : lv_has ls 1 [(0, .ref (am 1))] := hl
  refine lv_aload_n hx hb dX8_left_0 rfl (lv_at hl 0 rfl) ?_
  refine lv_iconst (v := 0) hx hb dX8_left_1 (by decide) ?_
  refine va_put (D := D) (ci := 8) (v := .int 0) (C := RX8) (T := TX8) (N := 32) hx hb hg inGX8 tyX8 tyX8_ok nmX8 hown hK hP hD hS 1 rfl rfl 0 (by decide) (hg _ mw_343) (fun _ h9 => h9) rfl (tyX8_ok 0 (by decide)) rfl rfl (Nat.le_of_ble_eq_true rfl) dX8_left_2 (fun H locs hP hD hS => ?_)
  have hP : va_P D vwCl (MW oc am cI cJ cZ cO 0 0 0 0 0 qo F G) H := hP
  have hD : va_D A (MW oc am cI cJ cZ cO 0 0 0 0 0 qo F G) := hD
  refine lv_aload_n hx hb dX8_left_5 rfl (lv_at hl 0 rfl) ?_
  refine kV (rV (q0 := 1) (ci := 8) hx hb hml hown hg hN hK hP hD (m_lay l D cI cJ cZ cO oc am qo F G) mw_404 mw_405 mw_406 mw_407 mw_348 pdv_X8_lay ⟨Nat.le_of_ble_eq_true rfl, Nat.le_of_ble_eq_true rfl⟩ rfl rfl rfl hl.1 rfl (Nat.le_of_ble_eq_true rfl) dX8_left_6 ⟨Nat.le_of_ble_eq_true rfl, Nat.le_of_ble_eq_true rfl⟩) hD hS hA (fun u_1 H locs hp hP hD hS => ?_)
  obtain ⟨q_2, F_3, G_4, rfl⟩ := hp
  refine lv_aload_n hx hb dX8_left_9 rfl (lv_at hl 0 rfl) ?_
  refine va_get (D := D) (ci := 8) (v := .long 0) (C := RX8) (T := TX8) (N := 32) hx hb hg inGX8 hown hK hP 1 rfl rfl 22 (by decide) (hg _ mw_363) (fun _ h9 => h9) rfl dX8_left_10 ?_
  refine kI (rS hx hb hml hown hg hN hK hP hD (m_bitCount0 l D cI cJ cZ cO (MW oc am cI cJ cZ cO 0 0 1 0 0 q_2 F_3 G_4)) mw_246 mw_420 mw_248 mw_249 pd_J13_bitCount_95d88 ⟨Nat.le_of_ble_eq_true rfl, Nat.le_of_ble_eq_true rfl⟩ rfl hl.1 rfl (Nat.le_of_ble_eq_true rfl) dX8_left_13 ⟨Nat.le_of_ble_eq_true rfl, Nat.le_of_ble_eq_true rfl⟩) hD hS hA (fun r_5 u_5 H locs hp hP hD hS => ?_)
  obtain ⟨rfl, rfl⟩ := hp
  exact W.iret (v := 0) hx hb hr (fun t ht hW => ⟨⟨0, (MW oc am cI cJ cZ cO 0 0 1 0 0 q_2 F_3 G_4), rfl, ⟨rfl, _, _, _, _, _, _, _, rfl⟩, ⟨by rw [ht]; exact hP, va_K.moved hW.alike hK, hD⟩⟩, hS.F ht⟩) hS.2.2 dX8_left_16
set_option maxHeartbeats 4000000 in
set_option maxRecDepth 100000 in
theorem q_layers (l : Launch) (D : va_G) (cI cJ cZ : ClassId) (cO : ClassId) (oc : Nat × va_E) (am : Nat → Nat) (qo : Nat) (F : Nat → Nat → Int32) (G : Nat → Nat → Int64) : CT l D (TO cI cJ cZ cO) yX8_layers (.code yX8_layers cX8_layers 1 (some Jvm.ClassFile.FieldType.int)) 5 1 0 (MW oc am cI cJ cZ cO 0 0 0 0 0 qo F G) [.ref (am 1)] (QI D (TO cI cJ cZ cO) (fun r u => r = 0 ∧ ∃ mn' ld' sw' sm' qo' F' G', u = MW oc am cI cJ cZ cO 0 mn' ld' sw' sm' qo' F' G')) := by
  refine ent (by decide) (Nat.le_of_ble_eq_true rfl) ?_
  intro p e s m below meth c ls A hx hb hr hg hown hml hlocks hnm hP hK hD hS hA hN hl
  have hl : lv_has ls 1 [(0, .ref (am 1))] := hl
  refine lv_aload_n hx hb dX8_layers_0 rfl (lv_at hl 0 rfl) ?_
  refine lv_iconst (v := 0) hx hb dX8_layers_1 (by decide) ?_
  refine va_put (D := D) (ci := 8) (v := .int 0) (C := RX8) (T := TX8) (N := 32) hx hb hg inGX8 tyX8 tyX8_ok nmX8 hown hK hP hD hS 1 rfl rfl 0 (by decide) (hg _ mw_343) (fun _ h9 => h9) rfl (tyX8_ok 0 (by decide)) rfl rfl (Nat.le_of_ble_eq_true rfl) dX8_layers_2 (fun H locs hP hD hS => ?_)
  have hP : va_P D vwCl (MW oc am cI cJ cZ cO 0 0 0 0 0 qo F G) H := hP
  have hD : va_D A (MW oc am cI cJ cZ cO 0 0 0 0 0 qo F G) := hD
  refine lv_aload_n hx hb dX8_layers_5 rfl (lv_at hl 0 rfl) ?_
  refine kV (rV (q0 := 1) (ci := 8) hx hb hml hown hg hN hK hP hD (m_lay l D cI cJ cZ cO oc am qo F G) mw_404 mw_405 mw_406 mw_407 mw_348 pdv_X8_lay ⟨Nat.le_of_ble_eq_true rfl, Nat.le_of_ble_eq_true rfl⟩ rfl rfl rfl hl.1 rfl (Nat.le_of_ble_eq_true rfl) dX8_layers_6 ⟨Nat.le_of_ble_eq_true rfl, Nat.le_of_ble_eq_true rfl⟩) hD hS hA (fun u_1 H locs hp hP hD hS => ?_)
  obtain ⟨q_2, F_3, G_4, rfl⟩ := hp
  refine lv_aload_n hx hb dX8_layers_9 rfl (lv_at hl 0 rfl) ?_
  refine va_get (D := D) (ci := 8) (v := .int 0) (C := RX8) (T := TX8) (N := 32) hx hb hg inGX8 hown hK hP 1 rfl rfl 28 (by decide) (hg _ mw_372) (fun _ h9 => h9) rfl dX8_layers_10 ?_
  exact W.iret (v := 0) hx hb hr (fun t ht hW => ⟨⟨0, (MW oc am cI cJ cZ cO 0 0 1 0 0 q_2 F_3 G_4), rfl, ⟨rfl, _, _, _, _, _, _, _, rfl⟩, ⟨by rw [ht]; exact hP, va_K.moved hW.alike hK, hD⟩⟩, hS.F ht⟩) hS.2.2 dX8_layers_13
set_option maxHeartbeats 4000000 in
set_option maxRecDepth 100000 in
theorem q_isTame (l : Launch) (D : va_G) (cI cJ cZ : ClassId) (cO : ClassId) (oc : Nat × va_E) (am : Nat → Nat) (qo : Nat) (F : Nat → Nat → Int32) (G : Nat → Nat → Int64) : CT l D (TO cI cJ cZ cO) yX8_isTame (.code yX8_isTame cX8_isTame 1 (some Jvm.ClassFile.FieldType.boolean)) 5 2 80 (MW oc am cI cJ cZ cO 0 0 0 0 0 qo F G) [.ref (am 1)] (QI D (TO cI cJ cZ cO) (fun r u => r = 1 ∧ ∃ mn' ld' sw' sm' qo' F' G', u = MW oc am cI cJ cZ cO 0 mn' ld' sw' sm' qo' F' G')) := by
  refine ent (by decide) (Nat.le_of_ble_eq_true rfl) ?_
  intro p e s m below meth c ls A hx hb hr hg hown hml hlocks hnm hP hK hD hS hA hN hl
  have hl : lv_has ls 1 [(0, .ref (am 1))] := hl
  refine lv_aload_n hx hb dX8_isTame_0 rfl (lv_at hl 0 rfl) ?_
  refine lv_iconst (v := 0) hx hb dX8_isTame_1 (by decide) ?_
  refine va_put (D := D) (ci := 8) (v := .int 0) (C := RX8) (T := TX8) (N := 32) hx hb hg inGX8 tyX8 tyX8_ok nmX8 hown hK hP hD hS 1 rfl rfl 0 (by decide) (hg _ mw_343) (fun _ h9 => h9) rfl (tyX8_ok 0 (by decide)) rfl rfl (Nat.le_of_ble_eq_true rfl) dX8_isTame_2 (fun H locs hP hD hS => ?_)
  have hP : va_P D vwCl (MW oc am cI cJ cZ cO 0 0 0 0 0 qo F G) H := hP
  have hD : va_D A (MW oc am cI cJ cZ cO 0 0 0 0 0 qo F G) := hD
  refine lv_aload_n hx hb dX8_isTame_5 rfl (lv_at hl 0 rfl) ?_
  refine kV (rV (q0 := 1) (ci := 8) hx hb hml hown hg hN hK hP hD (m_lay l D cI cJ cZ cO oc am qo F G) mw_404 mw_405 mw_406 mw_407 mw_348 pdv_X8_lay ⟨Nat.le_of_ble_eq_true rfl, Nat.le_of_ble_eq_true rfl⟩ rfl rfl rfl hl.1 rfl (Nat.le_of_ble_eq_true rfl) dX8_isTame_6 ⟨Nat.le_of_ble_eq_true rfl, Nat.le_of_ble_eq_true rfl⟩) hD hS hA (fun u_1 H locs hp hP hD hS => ?_)
  obtain ⟨q_2, F_3, G_4, rfl⟩ := hp
  refine lv_aload_n hx hb dX8_isTame_9 rfl (lv_at hl 0 rfl) ?_
  refine kI (rV (q0 := 1) (ci := 8) hx hb hml hown hg hN hK hP hD (m_isTameNow l D cI cJ cZ cO oc am q_2 F_3 G_4 (0)) mw_421 mw_422 mw_423 mw_424 mw_348 pdv_X8_isTameNow ⟨Nat.le_of_ble_eq_true rfl, Nat.le_of_ble_eq_true rfl⟩ rfl rfl rfl hl.1 rfl (Nat.le_of_ble_eq_true rfl) dX8_isTame_10 ⟨Nat.le_of_ble_eq_true rfl, Nat.le_of_ble_eq_true rfl⟩) hD hS hA (fun r_5 u_5 H locs hp hP hD hS => ?_)
  obtain ⟨rfl, rfl⟩ := hp
  exact W.zret (v := 1) hx hb hr rfl (fun t ht hW => ⟨⟨1, (MW oc am cI cJ cZ cO 0 0 1 0 0 q_2 F_3 G_4), rfl, ⟨rfl, _, _, _, _, _, _, _, rfl⟩, ⟨by rw [ht]; exact hP, va_K.moved hW.alike hK, hD⟩⟩, hS.F ht⟩) hS.2.2 dX8_isTame_13
set_option maxHeartbeats 4000000 in
set_option maxRecDepth 100000 in
theorem q_isNeat (l : Launch) (D : va_G) (cI cJ cZ : ClassId) (cO : ClassId) (oc : Nat × va_E) (am : Nat → Nat) (qo : Nat) (F : Nat → Nat → Int32) (G : Nat → Nat → Int64) : CT l D (TO cI cJ cZ cO) yX8_isNeat (.code yX8_isNeat cX8_isNeat 1 (some Jvm.ClassFile.FieldType.boolean)) 5 1 0 (MW oc am cI cJ cZ cO 0 0 0 0 0 qo F G) [.ref (am 1)] (QI D (TO cI cJ cZ cO) (fun r u => r = 0 ∧ ∃ mn' ld' sw' sm' qo' F' G', u = MW oc am cI cJ cZ cO 0 mn' ld' sw' sm' qo' F' G')) := by
  refine ent (by decide) (Nat.le_of_ble_eq_true rfl) ?_
  intro p e s m below meth c ls A hx hb hr hg hown hml hlocks hnm hP hK hD hS hA hN hl
  have hl : lv_has ls 1 [(0, .ref (am 1))] := hl
  refine lv_aload_n hx hb dX8_isNeat_0 rfl (lv_at hl 0 rfl) ?_
  refine lv_iconst (v := 0) hx hb dX8_isNeat_1 (by decide) ?_
  refine va_put (D := D) (ci := 8) (v := .int 0) (C := RX8) (T := TX8) (N := 32) hx hb hg inGX8 tyX8 tyX8_ok nmX8 hown hK hP hD hS 1 rfl rfl 0 (by decide) (hg _ mw_343) (fun _ h9 => h9) rfl (tyX8_ok 0 (by decide)) rfl rfl (Nat.le_of_ble_eq_true rfl) dX8_isNeat_2 (fun H locs hP hD hS => ?_)
  have hP : va_P D vwCl (MW oc am cI cJ cZ cO 0 0 0 0 0 qo F G) H := hP
  have hD : va_D A (MW oc am cI cJ cZ cO 0 0 0 0 0 qo F G) := hD
  refine lv_aload_n hx hb dX8_isNeat_5 rfl (lv_at hl 0 rfl) ?_
  refine kV (rV (q0 := 1) (ci := 8) hx hb hml hown hg hN hK hP hD (m_lay l D cI cJ cZ cO oc am qo F G) mw_404 mw_405 mw_406 mw_407 mw_348 pdv_X8_lay ⟨Nat.le_of_ble_eq_true rfl, Nat.le_of_ble_eq_true rfl⟩ rfl rfl rfl hl.1 rfl (Nat.le_of_ble_eq_true rfl) dX8_isNeat_6 ⟨Nat.le_of_ble_eq_true rfl, Nat.le_of_ble_eq_true rfl⟩) hD hS hA (fun u_1 H locs hp hP hD hS => ?_)
  obtain ⟨q_2, F_3, G_4, rfl⟩ := hp
  refine lv_aload_n hx hb dX8_isNeat_9 rfl (lv_at hl 0 rfl) ?_
  refine va_get (D := D) (ci := 8) (v := .long 0) (C := RX8) (T := TX8) (N := 32) hx hb hg inGX8 hown hK hP 1 rfl rfl 22 (by decide) (hg _ mw_363) (fun _ h9 => h9) rfl dX8_isNeat_10 ?_
  refine kI (rS hx hb hml hown hg hN hK hP hD (m_bitCount0 l D cI cJ cZ cO (MW oc am cI cJ cZ cO 0 0 1 0 0 q_2 F_3 G_4)) mw_246 mw_420 mw_248 mw_249 pd_J13_bitCount_95d88 ⟨Nat.le_of_ble_eq_true rfl, Nat.le_of_ble_eq_true rfl⟩ rfl hl.1 rfl (Nat.le_of_ble_eq_true rfl) dX8_isNeat_13 ⟨Nat.le_of_ble_eq_true rfl, Nat.le_of_ble_eq_true rfl⟩) hD hS hA (fun r_5 u_5 H locs hp hP hD hS => ?_)
  obtain ⟨rfl, rfl⟩ := hp
  refine lv_iconst (v := 1) hx hb dX8_isNeat_16 (by decide) ?_
  refine lv_icmp_ne (tgt := 24) hx hb dX8_isNeat_17 (by decide) (fun c_17 => ?_) (fun c_17 => absurd c_17 (by decide))
  refine lv_iconst (v := 0) hx hb dX8_isNeat_24 (by decide) ?_
  exact W.zret (v := 0) hx hb hr rfl (fun t ht hW => ⟨⟨0, (MW oc am cI cJ cZ cO 0 0 1 0 0 q_2 F_3 G_4), rfl, ⟨rfl, _, _, _, _, _, _, _, rfl⟩, ⟨by rw [ht]; exact hP, va_K.moved hW.alike hK, hD⟩⟩, hS.F ht⟩) hS.2.2 dX8_isNeat_25
set_option maxHeartbeats 4000000 in
set_option maxRecDepth 100000 in
theorem q_swept (l : Launch) (D : va_G) (cI cJ cZ : ClassId) (cO : ClassId) (oc : Nat × va_E) (am : Nat → Nat) (qo : Nat) (F : Nat → Nat → Int32) (G : Nat → Nat → Int64) : CT l D (TO cI cJ cZ cO) yX8_swept_ (.code yX8_swept_ cX8_swept_ 1 (some Jvm.ClassFile.FieldType.int)) 5 0 0 (MW oc am cI cJ cZ cO 0 0 0 0 0 qo F G) [.ref (am 1)] (QI D (TO cI cJ cZ cO) (fun r u => r = 0 ∧ ∃ mn' ld' sw' sm' qo' F' G', u = MW oc am cI cJ cZ cO 0 mn' ld' sw' sm' qo' F' G')) := by
  refine ent (by decide) (Nat.le_of_ble_eq_true rfl) ?_
  intro p e s m below meth c ls A hx hb hr hg hown hml hlocks hnm hP hK hD hS hA hN hl
  have hl : lv_has ls 1 [(0, .ref (am 1))] := hl
  refine lv_aload_n hx hb dX8_swept__0 rfl (lv_at hl 0 rfl) ?_
  refine lv_iconst (v := 0) hx hb dX8_swept__1 (by decide) ?_
  refine va_put (D := D) (ci := 8) (v := .int 0) (C := RX8) (T := TX8) (N := 32) hx hb hg inGX8 tyX8 tyX8_ok nmX8 hown hK hP hD hS 1 rfl rfl 0 (by decide) (hg _ mw_343) (fun _ h9 => h9) rfl (tyX8_ok 0 (by decide)) rfl rfl (Nat.le_of_ble_eq_true rfl) dX8_swept__2 (fun H locs hP hD hS => ?_)
  have hP : va_P D vwCl (MW oc am cI cJ cZ cO 0 0 0 0 0 qo F G) H := hP
  have hD : va_D A (MW oc am cI cJ cZ cO 0 0 0 0 0 qo F G) := hD
  refine lv_aload_n hx hb dX8_swept__5 rfl (lv_at hl 0 rfl) ?_
  refine va_get (D := D) (ci := 8) (v := .int 0) (C := RX8) (T := TX8) (N := 32) hx hb hg inGX8 hown hK hP 1 rfl rfl 30 (by decide) (hg _ mw_350) (fun _ h9 => h9) rfl dX8_swept__6 ?_
  exact W.iret (v := 0) hx hb hr (fun t ht hW => ⟨⟨0, (MW oc am cI cJ cZ cO 0 0 0 0 0 qo F G), rfl, ⟨rfl, _, _, _, _, _, _, _, rfl⟩, ⟨by rw [ht]; exact hP, va_K.moved hW.alike hK, hD⟩⟩, hS.F ht⟩) hS.2.2 dX8_swept__9
set_option maxHeartbeats 4000000 in
set_option maxRecDepth 100000 in
theorem q_meanLength (l : Launch) (D : va_G) (cI cJ cZ : ClassId) (cO : ClassId) (oc : Nat × va_E) (am : Nat → Nat) (qo : Nat) (F : Nat → Nat → Int32) (G : Nat → Nat → Int64) : CT l D (TO cI cJ cZ cO) yX8_meanLength (.code yX8_meanLength cX8_meanLength 4 (some Jvm.ClassFile.FieldType.double)) 5 1 0 (MW oc am cI cJ cZ cO 0 0 0 0 0 qo F G) [.ref (am 1)] (QD D (TO cI cJ cZ cO) (fun r u => r = FP.dconst0 ∧ ∃ mn' ld' sw' sm' qo' F' G', u = MW oc am cI cJ cZ cO 0 mn' ld' sw' sm' qo' F' G')) := by
  refine ent (by decide) (Nat.le_of_ble_eq_true rfl) ?_
  intro p e s m below meth c ls A hx hb hr hg hown hml hlocks hnm hP hK hD hS hA hN hl
  have hl : lv_has ls 4 [(0, .ref (am 1))] := hl
  refine lv_aload_n hx hb dX8_meanLength_0 rfl (lv_at hl 0 rfl) ?_
  refine lv_iconst (v := 0) hx hb dX8_meanLength_1 (by decide) ?_
  refine va_put (D := D) (ci := 8) (v := .int 0) (C := RX8) (T := TX8) (N := 32) hx hb hg inGX8 tyX8 tyX8_ok nmX8 hown hK hP hD hS 1 rfl rfl 0 (by decide) (hg _ mw_343) (fun _ h9 => h9) rfl (tyX8_ok 0 (by decide)) rfl rfl (Nat.le_of_ble_eq_true rfl) dX8_meanLength_2 (fun H locs hP hD hS => ?_)
  have hP : va_P D vwCl (MW oc am cI cJ cZ cO 0 0 0 0 0 qo F G) H := hP
  have hD : va_D A (MW oc am cI cJ cZ cO 0 0 0 0 0 qo F G) := hD
  refine lv_aload_n hx hb dX8_meanLength_5 rfl (lv_at hl 0 rfl) ?_
  refine kV (rV (q0 := 1) (ci := 8) hx hb hml hown hg hN hK hP hD (m_lay l D cI cJ cZ cO oc am qo F G) mw_404 mw_405 mw_406 mw_407 mw_348 pdv_X8_lay ⟨Nat.le_of_ble_eq_true rfl, Nat.le_of_ble_eq_true rfl⟩ rfl rfl rfl hl.1 rfl (Nat.le_of_ble_eq_true rfl) dX8_meanLength_6 ⟨Nat.le_of_ble_eq_true rfl, Nat.le_of_ble_eq_true rfl⟩) hD hS hA (fun u_1 H locs hp hP hD hS => ?_)
  obtain ⟨q_2, F_3, G_4, rfl⟩ := hp
  refine lv_iconst (v := 0) hx hb dX8_meanLength_9 (by decide) ?_
  refine lv_istore_n (lv' := [(1, .int 0), (0, .ref (am 1))]) hx hb dX8_meanLength_10 rfl hl (by decide) rfl (fun ls hl => ?_)
  refine lv_iconst (v := 0) hx hb dX8_meanLength_11 (by decide) ?_
  refine lv_istore_n (lv' := [(2, .int 0), (1, .int 0), (0, .ref (am 1))]) hx hb dX8_meanLength_12 rfl hl (by decide) rfl (fun ls hl => ?_)
  refine lv_iconst (v := 0) hx hb dX8_meanLength_13 (by decide) ?_
  refine lv_istore_n (lv' := [(3, .int 0), (2, .int 0), (1, .int 0), (0, .ref (am 1))]) hx hb dX8_meanLength_14 rfl hl (by decide) rfl (fun ls hl => ?_)
  refine lv_iload_n hx hb dX8_meanLength_15 rfl (lv_at hl 0 rfl) ?_
  refine lv_aload_n hx hb dX8_meanLength_16 rfl (lv_at hl 3 rfl) ?_
  refine va_get (D := D) (ci := 8) (v := .int 0) (C := RX8) (T := TX8) (N := 32) hx hb hg inGX8 hown hK hP 1 rfl rfl 8 (by decide) (hg _ mw_361) (fun _ h9 => h9) rfl dX8_meanLength_17 ?_
  refine lv_icmp_ge (tgt := 53) hx hb dX8_meanLength_20 (by decide) (fun c_20 => ?_) (fun c_20 => absurd (by decide) c_20)
  refine lv_iload_n hx hb dX8_meanLength_53 rfl (lv_at hl 1 rfl) ?_
  refine lv_if_ne (tgt := 61) hx hb dX8_meanLength_54 (by decide) (fun c_54 => absurd (by decide) c_54) (fun c_54 => ?_)
  refine lv_dconst0 hx hb dX8_meanLength_57 ?_
  refine lv_goto (tgt := 66) hx hb dX8_meanLength_58 (by decide) ?_
  exact W.dret (v := FP.dconst0) hx hb hr (fun t ht hW => ⟨⟨FP.dconst0, (MW oc am cI cJ cZ cO 0 0 1 0 0 q_2 F_3 G_4), rfl, ⟨rfl, _, _, _, _, _, _, _, rfl⟩, ⟨by rw [ht]; exact hP, va_K.moved hW.alike hK, hD⟩⟩, hS.F ht⟩) hS.2.2 dX8_meanLength_66
set_option maxHeartbeats 4000000 in
set_option maxRecDepth 100000 in
theorem q_crossings (l : Launch) (D : va_G) (cI cJ cZ : ClassId) (cO : ClassId) (oc : Nat × va_E) (am : Nat → Nat) (qo : Nat) (F : Nat → Nat → Int32) (G : Nat → Nat → Int64) : CT l D (TO cI cJ cZ cO) yX8_crossings (.code yX8_crossings cX8_crossings 1 (some Jvm.ClassFile.FieldType.int)) 5 3 160 (MW oc am cI cJ cZ cO 0 0 0 0 0 qo F G) [.ref (am 1)] (QI D (TO cI cJ cZ cO) (fun r u => r = 0 ∧ ∃ mn' ld' sw' sm' qo' F' G', u = MW oc am cI cJ cZ cO 0 mn' ld' sw' sm' qo' F' G')) := by
  refine ent (by decide) (Nat.le_of_ble_eq_true rfl) ?_
  intro p e s m below meth c ls A hx hb hr hg hown hml hlocks hnm hP hK hD hS hA hN hl
  have hl : lv_has ls 1 [(0, .ref (am 1))] := hl
  refine lv_aload_n hx hb dX8_crossings_0 rfl (lv_at hl 0 rfl) ?_
  refine lv_iconst (v := 0) hx hb dX8_crossings_1 (by decide) ?_
  refine va_put (D := D) (ci := 8) (v := .int 0) (C := RX8) (T := TX8) (N := 32) hx hb hg inGX8 tyX8 tyX8_ok nmX8 hown hK hP hD hS 1 rfl rfl 0 (by decide) (hg _ mw_343) (fun _ h9 => h9) rfl (tyX8_ok 0 (by decide)) rfl rfl (Nat.le_of_ble_eq_true rfl) dX8_crossings_2 (fun H locs hP hD hS => ?_)
  have hP : va_P D vwCl (MW oc am cI cJ cZ cO 0 0 0 0 0 qo F G) H := hP
  have hD : va_D A (MW oc am cI cJ cZ cO 0 0 0 0 0 qo F G) := hD
  refine lv_aload_n hx hb dX8_crossings_5 rfl (lv_at hl 0 rfl) ?_
  refine kV (rV (q0 := 1) (ci := 8) hx hb hml hown hg hN hK hP hD (m_lay l D cI cJ cZ cO oc am qo F G) mw_404 mw_405 mw_406 mw_407 mw_348 pdv_X8_lay ⟨Nat.le_of_ble_eq_true rfl, Nat.le_of_ble_eq_true rfl⟩ rfl rfl rfl hl.1 rfl (Nat.le_of_ble_eq_true rfl) dX8_crossings_6 ⟨Nat.le_of_ble_eq_true rfl, Nat.le_of_ble_eq_true rfl⟩) hD hS hA (fun u_1 H locs hp hP hD hS => ?_)
  obtain ⟨q_2, F_3, G_4, rfl⟩ := hp
  refine lv_aload_n hx hb dX8_crossings_9 rfl (lv_at hl 0 rfl) ?_
  refine lv_aload_n hx hb dX8_crossings_10 rfl (lv_at hl 0 rfl) ?_
  refine va_get (D := D) (ci := 8) (v := .ref q_2) (C := RX8) (T := TX8) (N := 32) hx hb hg inGX8 hown hK hP 1 rfl rfl 29 (by decide) (hg _ mw_374) (fun _ h9 => h9) rfl dX8_crossings_11 ?_
  refine kI (rV (q0 := 1) (ci := 8) hx hb hml hown hg hN hK hP hD (m_crossingsIn l D cI cJ cZ cO oc am q_2 F_3 G_4 (0) q_2) mw_390 mw_391 mw_392 mw_393 mw_348 pdv_X8_crossingsIn ⟨Nat.le_of_ble_eq_true rfl, Nat.le_of_ble_eq_true rfl⟩ rfl rfl rfl hl.1 rfl (Nat.le_of_ble_eq_true rfl) dX8_crossings_14 ⟨Nat.le_of_ble_eq_true rfl, Nat.le_of_ble_eq_true rfl⟩) hD hS hA (fun r_5 u_5 H locs hp hP hD hS => ?_)
  obtain ⟨rfl, rfl⟩ := hp
  exact W.iret (v := 0) hx hb hr (fun t ht hW => ⟨⟨0, (MW oc am cI cJ cZ cO 0 0 1 0 0 q_2 F_3 G_4), rfl, ⟨rfl, _, _, _, _, _, _, _, rfl⟩, ⟨by rw [ht]; exact hP, va_K.moved hW.alike hK, hD⟩⟩, hS.F ht⟩) hS.2.2 dX8_crossings_17
set_option maxHeartbeats 4000000 in
set_option maxRecDepth 100000 in
theorem q_digest (l : Launch) (D : va_G) (cI cJ cZ : ClassId) (cO : ClassId) (oc : Nat × va_E) (am : Nat → Nat) (qo : Nat) (F : Nat → Nat → Int32) (G : Nat → Nat → Int64) : CT l D (TO cI cJ cZ cO) yX8_digest (.code yX8_digest cX8_digest 6 (some Jvm.ClassFile.FieldType.long)) 5 4 240 (MW oc am cI cJ cZ cO 0 0 0 0 0 qo F G) [.ref (am 1)] (QL D (TO cI cJ cZ cO) (fun r u => r = (-6562806086967277532) ∧ ∃ mn' ld' sw' sm' qo' F' G', u = MW oc am cI cJ cZ cO 0 mn' ld' sw' sm' qo' F' G')) := by
  refine ent (by decide) (Nat.le_of_ble_eq_true rfl) ?_
  intro p e s m below meth c ls A hx hb hr hg hown hml hlocks hnm hP hK hD hS hA hN hl
  have hl : lv_has ls 6 [(0, .ref (am 1))] := hl
  refine lv_aload_n hx hb dX8_digest_0 rfl (lv_at hl 0 rfl) ?_
  refine lv_iconst (v := 0) hx hb dX8_digest_1 (by decide) ?_
  refine va_put (D := D) (ci := 8) (v := .int 0) (C := RX8) (T := TX8) (N := 32) hx hb hg inGX8 tyX8 tyX8_ok nmX8 hown hK hP hD hS 1 rfl rfl 0 (by decide) (hg _ mw_343) (fun _ h9 => h9) rfl (tyX8_ok 0 (by decide)) rfl rfl (Nat.le_of_ble_eq_true rfl) dX8_digest_2 (fun H locs hP hD hS => ?_)
  have hP : va_P D vwCl (MW oc am cI cJ cZ cO 0 0 0 0 0 qo F G) H := hP
  have hD : va_D A (MW oc am cI cJ cZ cO 0 0 0 0 0 qo F G) := hD
  refine lv_aload_n hx hb dX8_digest_5 rfl (lv_at hl 0 rfl) ?_
  refine kV (rV (q0 := 1) (ci := 8) hx hb hml hown hg hN hK hP hD (m_lay l D cI cJ cZ cO oc am qo F G) mw_404 mw_405 mw_406 mw_407 mw_348 pdv_X8_lay ⟨Nat.le_of_ble_eq_true rfl, Nat.le_of_ble_eq_true rfl⟩ rfl rfl rfl hl.1 rfl (Nat.le_of_ble_eq_true rfl) dX8_digest_6 ⟨Nat.le_of_ble_eq_true rfl, Nat.le_of_ble_eq_true rfl⟩) hD hS hA (fun u_1 H locs hp hP hD hS => ?_)
  obtain ⟨q_2, F_3, G_4, rfl⟩ := hp
  refine lv_aload_n hx hb dX8_digest_9 rfl (lv_at hl 0 rfl) ?_
  refine lv_ldc2 (v := 2557) hx hb hown (hg _ mw_425) dX8_digest_10 ?_
  refine va_put (D := D) (ci := 8) (v := .long 2557) (C := RX8) (T := TX8) (N := 32) hx hb hg inGX8 tyX8 tyX8_ok nmX8 hown hK hP hD hS 1 rfl rfl 31 (by decide) (hg _ mw_398) (fun _ h9 => h9) rfl (tyX8_ok 31 (by decide)) rfl rfl (Nat.le_of_ble_eq_true rfl) dX8_digest_13 (fun H locs hP hD hS => ?_)
  have hP : va_P D vwCl (MW oc am cI cJ cZ cO 0 0 1 0 2557 q_2 F_3 G_4) H := hP
  have hD : va_D A (MW oc am cI cJ cZ cO 0 0 1 0 2557 q_2 F_3 G_4) := hD
  refine lv_aload_n hx hb dX8_digest_16 rfl (lv_at hl 0 rfl) ?_
  refine lv_aload_n hx hb dX8_digest_17 rfl (lv_at hl 0 rfl) ?_
  refine va_get (D := D) (ci := 8) (v := .int 0) (C := RX8) (T := TX8) (N := 32) hx hb hg inGX8 hown hK hP 1 rfl rfl 1 (by decide) (hg _ mw_344) (fun _ h9 => h9) rfl dX8_digest_18 ?_
  refine kV (rV (q0 := 1) (ci := 8) hx hb hml hown hg hN hK hP hD (m_add l D cI cJ cZ cO oc am q_2 F_3 G_4 (2557) 0) mw_400 mw_401 mw_402 mw_403 mw_348 pdv_X8_add ⟨Nat.le_of_ble_eq_true rfl, Nat.le_of_ble_eq_true rfl⟩ rfl rfl rfl hl.1 rfl (Nat.le_of_ble_eq_true rfl) dX8_digest_21 ⟨Nat.le_of_ble_eq_true rfl, Nat.le_of_ble_eq_true rfl⟩) hD hS hA (fun u_5 H locs hp hP hD hS => ?_)
  obtain ⟨sm_6, hsm_6, rfl⟩ := hp
  obtain rfl : sm_6 = 79267 := hsm_6.trans (by decide)
  refine lv_iconst (v := 0) hx hb dX8_digest_24 (by decide) ?_
  refine lv_istore_n (lv' := [(1, .int 0), (0, .ref (am 1))]) hx hb dX8_digest_25 rfl hl (by decide) rfl (fun ls hl => ?_)
  refine lv_iload_n hx hb dX8_digest_26 rfl (lv_at hl 0 rfl) ?_
  refine lv_aload_n hx hb dX8_digest_27 rfl (lv_at hl 1 rfl) ?_
  refine va_get (D := D) (ci := 8) (v := .int 0) (C := RX8) (T := TX8) (N := 32) hx hb hg inGX8 hown hK hP 1 rfl rfl 1 (by decide) (hg _ mw_344) (fun _ h9 => h9) rfl dX8_digest_28 ?_
  refine lv_icmp_ge (tgt := 70) hx hb dX8_digest_31 (by decide) (fun c_31 => ?_) (fun c_31 => absurd (by decide) c_31)
  refine lv_aload_n hx hb dX8_digest_70 rfl (lv_at hl 1 rfl) ?_
  refine lv_aload_n hx hb dX8_digest_71 rfl (lv_at hl 1 rfl) ?_
  refine va_get (D := D) (ci := 8) (v := .int 0) (C := RX8) (T := TX8) (N := 32) hx hb hg inGX8 hown hK hP 1 rfl rfl 7 (by decide) (hg _ mw_356) (fun _ h9 => h9) rfl dX8_digest_72 ?_
  refine kV (rV (q0 := 1) (ci := 8) hx hb hml hown hg hN hK hP hD (m_add l D cI cJ cZ cO oc am q_2 F_3 G_4 (79267) 0) mw_400 mw_401 mw_402 mw_403 mw_348 pdv_X8_add ⟨Nat.le_of_ble_eq_true rfl, Nat.le_of_ble_eq_true rfl⟩ rfl rfl rfl hl.1 rfl (Nat.le_of_ble_eq_true rfl) dX8_digest_75 ⟨Nat.le_of_ble_eq_true rfl, Nat.le_of_ble_eq_true rfl⟩) hD hS hA (fun u_7 H locs hp hP hD hS => ?_)
  obtain ⟨sm_8, hsm_8, rfl⟩ := hp
  obtain rfl : sm_8 = 2457277 := hsm_8.trans (by decide)
  refine lv_iconst (v := 0) hx hb dX8_digest_78 (by decide) ?_
  refine lv_istore_n (lv' := [(1, .int 0), (0, .ref (am 1))]) hx hb dX8_digest_79 rfl hl (by decide) rfl (fun ls hl => ?_)
  refine lv_iload_n hx hb dX8_digest_80 rfl (lv_at hl 0 rfl) ?_
  refine lv_aload_n hx hb dX8_digest_81 rfl (lv_at hl 1 rfl) ?_
  refine va_get (D := D) (ci := 8) (v := .int 0) (C := RX8) (T := TX8) (N := 32) hx hb hg inGX8 hown hK hP 1 rfl rfl 7 (by decide) (hg _ mw_356) (fun _ h9 => h9) rfl dX8_digest_82 ?_
  refine lv_icmp_ge (tgt := 99) hx hb dX8_digest_85 (by decide) (fun c_85 => ?_) (fun c_85 => absurd (by decide) c_85)
  refine lv_aload_n hx hb dX8_digest_99 rfl (lv_at hl 1 rfl) ?_
  refine lv_aload_n hx hb dX8_digest_100 rfl (lv_at hl 1 rfl) ?_
  refine va_get (D := D) (ci := 8) (v := .int 0) (C := RX8) (T := TX8) (N := 32) hx hb hg inGX8 hown hK hP 1 rfl rfl 8 (by decide) (hg _ mw_361) (fun _ h9 => h9) rfl dX8_digest_101 ?_
  refine kV (rV (q0 := 1) (ci := 8) hx hb hml hown hg hN hK hP hD (m_add l D cI cJ cZ cO oc am q_2 F_3 G_4 (2457277) 0) mw_400 mw_401 mw_402 mw_403 mw_348 pdv_X8_add ⟨Nat.le_of_ble_eq_true rfl, Nat.le_of_ble_eq_true rfl⟩ rfl rfl rfl hl.1 rfl (Nat.le_of_ble_eq_true rfl) dX8_digest_104 ⟨Nat.le_of_ble_eq_true rfl, Nat.le_of_ble_eq_true rfl⟩) hD hS hA (fun u_9 H locs hp hP hD hS => ?_)
  obtain ⟨sm_10, hsm_10, rfl⟩ := hp
  obtain rfl : sm_10 = 76175587 := hsm_10.trans (by decide)
  refine lv_iconst (v := 0) hx hb dX8_digest_107 (by decide) ?_
  refine lv_istore_n (lv' := [(1, .int 0), (0, .ref (am 1))]) hx hb dX8_digest_108 rfl hl (by decide) rfl (fun ls hl => ?_)
  refine lv_iload_n hx hb dX8_digest_109 rfl (lv_at hl 0 rfl) ?_
  refine lv_aload_n hx hb dX8_digest_110 rfl (lv_at hl 1 rfl) ?_
  refine va_get (D := D) (ci := 8) (v := .int 0) (C := RX8) (T := TX8) (N := 32) hx hb hg inGX8 hown hK hP 1 rfl rfl 8 (by decide) (hg _ mw_361) (fun _ h9 => h9) rfl dX8_digest_111 ?_
  refine lv_icmp_ge (tgt := 187) hx hb dX8_digest_114 (by decide) (fun c_114 => ?_) (fun c_114 => absurd (by decide) c_114)
  refine lv_aload_n hx hb dX8_digest_187 rfl (lv_at hl 1 rfl) ?_
  refine lv_aload_n hx hb dX8_digest_188 rfl (lv_at hl 1 rfl) ?_
  refine kI (rV (q0 := 1) (ci := 8) hx hb hml hown hg hN hK hP hD (m_loopsNow l D cI cJ cZ cO oc am q_2 F_3 G_4 (76175587)) mw_408 mw_409 mw_410 mw_411 mw_348 pdv_X8_loopsNow ⟨Nat.le_of_ble_eq_true rfl, Nat.le_of_ble_eq_true rfl⟩ rfl rfl rfl hl.1 rfl (Nat.le_of_ble_eq_true rfl) dX8_digest_189 ⟨Nat.le_of_ble_eq_true rfl, Nat.le_of_ble_eq_true rfl⟩) hD hS hA (fun r_11 u_11 H locs hp hP hD hS => ?_)
  obtain ⟨rfl, rfl⟩ := hp
  refine kV (rV (q0 := 1) (ci := 8) hx hb hml hown hg hN hK hP hD (m_add l D cI cJ cZ cO oc am q_2 F_3 G_4 (76175587) 0) mw_400 mw_401 mw_402 mw_403 mw_348 pdv_X8_add ⟨Nat.le_of_ble_eq_true rfl, Nat.le_of_ble_eq_true rfl⟩ rfl rfl rfl hl.1 rfl (Nat.le_of_ble_eq_true rfl) dX8_digest_192 ⟨Nat.le_of_ble_eq_true rfl, Nat.le_of_ble_eq_true rfl⟩) hD hS hA (fun u_12 H locs hp hP hD hS => ?_)
  obtain ⟨sm_13, hsm_13, rfl⟩ := hp
  obtain rfl : sm_13 = 2361443197 := hsm_13.trans (by decide)
  refine lv_aload_n hx hb dX8_digest_195 rfl (lv_at hl 1 rfl) ?_
  refine lv_aload_n hx hb dX8_digest_196 rfl (lv_at hl 1 rfl) ?_
  refine kI (rV (q0 := 1) (ci := 8) hx hb hml hown hg hN hK hP hD (m_isTameNow l D cI cJ cZ cO oc am q_2 F_3 G_4 (2361443197)) mw_421 mw_422 mw_423 mw_424 mw_348 pdv_X8_isTameNow ⟨Nat.le_of_ble_eq_true rfl, Nat.le_of_ble_eq_true rfl⟩ rfl rfl rfl hl.1 rfl (Nat.le_of_ble_eq_true rfl) dX8_digest_197 ⟨Nat.le_of_ble_eq_true rfl, Nat.le_of_ble_eq_true rfl⟩) hD hS hA (fun r_14 u_14 H locs hp hP hD hS => ?_)
  obtain ⟨rfl, rfl⟩ := hp
  refine kV (rV (q0 := 1) (ci := 8) hx hb hml hown hg hN hK hP hD (m_addZ1 l D cI cJ cZ cO oc am q_2 F_3 G_4 (2361443197)) mw_426 mw_427 mw_428 mw_429 mw_348 pdv_X8_add_ ⟨Nat.le_of_ble_eq_true rfl, Nat.le_of_ble_eq_true rfl⟩ rfl rfl rfl hl.1 rfl (Nat.le_of_ble_eq_true rfl) dX8_digest_200 ⟨Nat.le_of_ble_eq_true rfl, Nat.le_of_ble_eq_true rfl⟩) hD hS hA (fun u_15 H locs hp hP hD hS => ?_)
  obtain ⟨sm_16, hsm_16, rfl⟩ := hp
  obtain rfl : sm_16 = 73204739108 := hsm_16.trans (by decide)
  refine lv_aload_n hx hb dX8_digest_203 rfl (lv_at hl 1 rfl) ?_
  refine lv_aload_n hx hb dX8_digest_204 rfl (lv_at hl 1 rfl) ?_
  refine kI (rV (q0 := 1) (ci := 8) hx hb hml hown hg hN hK hP hD (m_vainNow l D cI cJ cZ cO oc am q_2 F_3 G_4 (73204739108)) mw_412 mw_413 mw_414 mw_415 mw_348 pdv_X8_vainNow ⟨Nat.le_of_ble_eq_true rfl, Nat.le_of_ble_eq_true rfl⟩ rfl rfl rfl hl.1 rfl (Nat.le_of_ble_eq_true rfl) dX8_digest_205 ⟨Nat.le_of_ble_eq_true rfl, Nat.le_of_ble_eq_true rfl⟩) hD hS hA (fun r_17 u_17 H locs hp hP hD hS => ?_)
  obtain ⟨rfl, rfl⟩ := hp
  refine kV (rV (q0 := 1) (ci := 8) hx hb hml hown hg hN hK hP hD (m_add l D cI cJ cZ cO oc am q_2 F_3 G_4 (73204739108) 0) mw_400 mw_401 mw_402 mw_403 mw_348 pdv_X8_add ⟨Nat.le_of_ble_eq_true rfl, Nat.le_of_ble_eq_true rfl⟩ rfl rfl rfl hl.1 rfl (Nat.le_of_ble_eq_true rfl) dX8_digest_208 ⟨Nat.le_of_ble_eq_true rfl, Nat.le_of_ble_eq_true rfl⟩) hD hS hA (fun u_18 H locs hp hP hD hS => ?_)
  obtain ⟨sm_19, hsm_19, rfl⟩ := hp
  obtain rfl : sm_19 = 2269346912348 := hsm_19.trans (by decide)
  refine lv_aload_n hx hb dX8_digest_211 rfl (lv_at hl 1 rfl) ?_
  refine lv_aload_n hx hb dX8_digest_212 rfl (lv_at hl 1 rfl) ?_
  refine kI (rV (q0 := 1) (ci := 8) hx hb hml hown hg hN hK hP hD (m_windingsNow l D cI cJ cZ cO oc am q_2 F_3 G_4 (2269346912348)) mw_416 mw_417 mw_418 mw_419 mw_348 pdv_X8_windingsNow ⟨Nat.le_of_ble_eq_true rfl, Nat.le_of_ble_eq_true rfl⟩ rfl rfl rfl hl.1 rfl (Nat.le_of_ble_eq_true rfl) dX8_digest_213 ⟨Nat.le_of_ble_eq_true rfl, Nat.le_of_ble_eq_true rfl⟩) hD hS hA (fun r_20 u_20 H locs hp hP hD hS => ?_)
  obtain ⟨rfl, rfl⟩ := hp
  refine kV (rV (q0 := 1) (ci := 8) hx hb hml hown hg hN hK hP hD (m_add l D cI cJ cZ cO oc am q_2 F_3 G_4 (2269346912348) 0) mw_400 mw_401 mw_402 mw_403 mw_348 pdv_X8_add ⟨Nat.le_of_ble_eq_true rfl, Nat.le_of_ble_eq_true rfl⟩ rfl rfl rfl hl.1 rfl (Nat.le_of_ble_eq_true rfl) dX8_digest_216 ⟨Nat.le_of_ble_eq_true rfl, Nat.le_of_ble_eq_true rfl⟩) hD hS hA (fun u_21 H locs hp hP hD hS => ?_)
  obtain ⟨sm_22, hsm_22, rfl⟩ := hp
  obtain rfl : sm_22 = 70349754282788 := hsm_22.trans (by decide)
  refine lv_aload_n hx hb dX8_digest_219 rfl (lv_at hl 1 rfl) ?_
  refine lv_aload_n hx hb dX8_digest_220 rfl (lv_at hl 1 rfl) ?_
  refine va_get (D := D) (ci := 8) (v := .int 0) (C := RX8) (T := TX8) (N := 32) hx hb hg inGX8 hown hK hP 1 rfl rfl 21 (by decide) (hg _ mw_364) (fun _ h9 => h9) rfl dX8_digest_221 ?_
  refine kV (rV (q0 := 1) (ci := 8) hx hb hml hown hg hN hK hP hD (m_add l D cI cJ cZ cO oc am q_2 F_3 G_4 (70349754282788) 0) mw_400 mw_401 mw_402 mw_403 mw_348 pdv_X8_add ⟨Nat.le_of_ble_eq_true rfl, Nat.le_of_ble_eq_true rfl⟩ rfl rfl rfl hl.1 rfl (Nat.le_of_ble_eq_true rfl) dX8_digest_224 ⟨Nat.le_of_ble_eq_true rfl, Nat.le_of_ble_eq_true rfl⟩) hD hS hA (fun u_23 H locs hp hP hD hS => ?_)
  obtain ⟨sm_24, hsm_24, rfl⟩ := hp
  obtain rfl : sm_24 = 2180842382766428 := hsm_24.trans (by decide)
  refine lv_iconst (v := 0) hx hb dX8_digest_227 (by decide) ?_
  refine lv_istore_n (lv' := [(1, .int 0), (0, .ref (am 1))]) hx hb dX8_digest_228 rfl hl (by decide) rfl (fun ls hl => ?_)
  refine lv_iload_n hx hb dX8_digest_229 rfl (lv_at hl 0 rfl) ?_
  refine lv_aload_n hx hb dX8_digest_230 rfl (lv_at hl 1 rfl) ?_
  refine va_get (D := D) (ci := 8) (v := .int 0) (C := RX8) (T := TX8) (N := 32) hx hb hg inGX8 hown hK hP 1 rfl rfl 21 (by decide) (hg _ mw_364) (fun _ h9 => h9) rfl dX8_digest_231 ?_
  refine lv_icmp_ge (tgt := 263) hx hb dX8_digest_234 (by decide) (fun c_234 => ?_) (fun c_234 => absurd (by decide) c_234)
  refine lv_aload_n hx hb dX8_digest_263 rfl (lv_at hl 1 rfl) ?_
  refine lv_aload_n hx hb dX8_digest_264 rfl (lv_at hl 1 rfl) ?_
  refine va_get (D := D) (ci := 8) (v := .long 0) (C := RX8) (T := TX8) (N := 32) hx hb hg inGX8 hown hK hP 1 rfl rfl 22 (by decide) (hg _ mw_363) (fun _ h9 => h9) rfl dX8_digest_265 ?_
  refine kI (rS hx hb hml hown hg hN hK hP hD (m_bitCount0 l D cI cJ cZ cO (MW oc am cI cJ cZ cO 0 0 1 0 2180842382766428 q_2 F_3 G_4)) mw_246 mw_420 mw_248 mw_249 pd_J13_bitCount_95d88 ⟨Nat.le_of_ble_eq_true rfl, Nat.le_of_ble_eq_true rfl⟩ rfl hl.1 rfl (Nat.le_of_ble_eq_true rfl) dX8_digest_268 ⟨Nat.le_of_ble_eq_true rfl, Nat.le_of_ble_eq_true rfl⟩) hD hS hA (fun r_25 u_25 H locs hp hP hD hS => ?_)
  obtain ⟨rfl, rfl⟩ := hp
  refine kV (rV (q0 := 1) (ci := 8) hx hb hml hown hg hN hK hP hD (m_add l D cI cJ cZ cO oc am q_2 F_3 G_4 (2180842382766428) 0) mw_400 mw_401 mw_402 mw_403 mw_348 pdv_X8_add ⟨Nat.le_of_ble_eq_true rfl, Nat.le_of_ble_eq_true rfl⟩ rfl rfl rfl hl.1 rfl (Nat.le_of_ble_eq_true rfl) dX8_digest_271 ⟨Nat.le_of_ble_eq_true rfl, Nat.le_of_ble_eq_true rfl⟩) hD hS hA (fun u_26 H locs hp hP hD hS => ?_)
  obtain ⟨sm_27, hsm_27, rfl⟩ := hp
  obtain rfl : sm_27 = 67606113865759268 := hsm_27.trans (by decide)
  refine lv_aload_n hx hb dX8_digest_274 rfl (lv_at hl 1 rfl) ?_
  refine lv_aload_n hx hb dX8_digest_275 rfl (lv_at hl 1 rfl) ?_
  refine va_get (D := D) (ci := 8) (v := .long 0) (C := RX8) (T := TX8) (N := 32) hx hb hg inGX8 hown hK hP 1 rfl rfl 22 (by decide) (hg _ mw_363) (fun _ h9 => h9) rfl dX8_digest_276 ?_
  refine kI (rS hx hb hml hown hg hN hK hP hD (m_bitCount0 l D cI cJ cZ cO (MW oc am cI cJ cZ cO 0 0 1 0 67606113865759268 q_2 F_3 G_4)) mw_246 mw_420 mw_248 mw_249 pd_J13_bitCount_95d88 ⟨Nat.le_of_ble_eq_true rfl, Nat.le_of_ble_eq_true rfl⟩ rfl hl.1 rfl (Nat.le_of_ble_eq_true rfl) dX8_digest_279 ⟨Nat.le_of_ble_eq_true rfl, Nat.le_of_ble_eq_true rfl⟩) hD hS hA (fun r_28 u_28 H locs hp hP hD hS => ?_)
  obtain ⟨rfl, rfl⟩ := hp
  refine lv_iconst (v := 1) hx hb dX8_digest_282 (by decide) ?_
  refine lv_icmp_ne (tgt := 290) hx hb dX8_digest_283 (by decide) (fun c_283 => ?_) (fun c_283 => absurd c_283 (by decide))
  refine lv_iconst (v := 0) hx hb dX8_digest_290 (by decide) ?_
  refine kV (rV (q0 := 1) (ci := 8) hx hb hml hown hg hN hK hP hD (m_addZ0 l D cI cJ cZ cO oc am q_2 F_3 G_4 (67606113865759268)) mw_426 mw_427 mw_428 mw_429 mw_348 pdv_X8_add_ ⟨Nat.le_of_ble_eq_true rfl, Nat.le_of_ble_eq_true rfl⟩ rfl rfl rfl hl.1 rfl (Nat.le_of_ble_eq_true rfl) dX8_digest_291 ⟨Nat.le_of_ble_eq_true rfl, Nat.le_of_ble_eq_true rfl⟩) hD hS hA (fun u_29 H locs hp hP hD hS => ?_)
  obtain ⟨sm_30, hsm_30, rfl⟩ := hp
  obtain rfl : sm_30 = 2095789529838537308 := hsm_30.trans (by decide)
  refine lv_aload_n hx hb dX8_digest_294 rfl (lv_at hl 1 rfl) ?_
  refine lv_aload_n hx hb dX8_digest_295 rfl (lv_at hl 1 rfl) ?_
  refine va_get (D := D) (ci := 8) (v := .int 0) (C := RX8) (T := TX8) (N := 32) hx hb hg inGX8 hown hK hP 1 rfl rfl 28 (by decide) (hg _ mw_372) (fun _ h9 => h9) rfl dX8_digest_296 ?_
  refine kV (rV (q0 := 1) (ci := 8) hx hb hml hown hg hN hK hP hD (m_add l D cI cJ cZ cO oc am q_2 F_3 G_4 (2095789529838537308) 0) mw_400 mw_401 mw_402 mw_403 mw_348 pdv_X8_add ⟨Nat.le_of_ble_eq_true rfl, Nat.le_of_ble_eq_true rfl⟩ rfl rfl rfl hl.1 rfl (Nat.le_of_ble_eq_true rfl) dX8_digest_299 ⟨Nat.le_of_ble_eq_true rfl, Nat.le_of_ble_eq_true rfl⟩) hD hS hA (fun u_31 H locs hp hP hD hS => ?_)
  obtain ⟨sm_32, hsm_32, rfl⟩ := hp
  obtain rfl : sm_32 = (-8817500869843549916) := hsm_32.trans (by decide)
  refine lv_iconst (v := 0) hx hb dX8_digest_302 (by decide) ?_
  refine lv_istore_n (lv' := [(1, .int 0), (0, .ref (am 1))]) hx hb dX8_digest_303 rfl hl (by decide) rfl (fun ls hl => ?_)
  refine lv_iload_n hx hb dX8_digest_304 rfl (lv_at hl 0 rfl) ?_
  refine lv_aload_n hx hb dX8_digest_305 rfl (lv_at hl 1 rfl) ?_
  refine va_get (D := D) (ci := 8) (v := .int 0) (C := RX8) (T := TX8) (N := 32) hx hb hg inGX8 hown hK hP 1 rfl rfl 28 (by decide) (hg _ mw_372) (fun _ h9 => h9) rfl dX8_digest_306 ?_
  refine lv_icmp_ge (tgt := 366) hx hb dX8_digest_309 (by decide) (fun c_309 => ?_) (fun c_309 => absurd (by decide) c_309)
  refine lv_aload_n hx hb dX8_digest_366 rfl (lv_at hl 1 rfl) ?_
  refine lv_aload_n hx hb dX8_digest_367 rfl (lv_at hl 1 rfl) ?_
  refine lv_aload_n hx hb dX8_digest_368 rfl (lv_at hl 1 rfl) ?_
  refine va_get (D := D) (ci := 8) (v := .ref q_2) (C := RX8) (T := TX8) (N := 32) hx hb hg inGX8 hown hK hP 1 rfl rfl 29 (by decide) (hg _ mw_374) (fun _ h9 => h9) rfl dX8_digest_369 ?_
  refine kI (rV (q0 := 1) (ci := 8) hx hb hml hown hg hN hK hP hD (m_crossingsIn l D cI cJ cZ cO oc am q_2 F_3 G_4 ((-8817500869843549916)) q_2) mw_390 mw_391 mw_392 mw_393 mw_348 pdv_X8_crossingsIn ⟨Nat.le_of_ble_eq_true rfl, Nat.le_of_ble_eq_true rfl⟩ rfl rfl rfl hl.1 rfl (Nat.le_of_ble_eq_true rfl) dX8_digest_372 ⟨Nat.le_of_ble_eq_true rfl, Nat.le_of_ble_eq_true rfl⟩) hD hS hA (fun r_33 u_33 H locs hp hP hD hS => ?_)
  obtain ⟨rfl, rfl⟩ := hp
  refine kV (rV (q0 := 1) (ci := 8) hx hb hml hown hg hN hK hP hD (m_add l D cI cJ cZ cO oc am q_2 F_3 G_4 ((-8817500869843549916)) 0) mw_400 mw_401 mw_402 mw_403 mw_348 pdv_X8_add ⟨Nat.le_of_ble_eq_true rfl, Nat.le_of_ble_eq_true rfl⟩ rfl rfl rfl hl.1 rfl (Nat.le_of_ble_eq_true rfl) dX8_digest_375 ⟨Nat.le_of_ble_eq_true rfl, Nat.le_of_ble_eq_true rfl⟩) hD hS hA (fun u_34 H locs hp hP hD hS => ?_)
  obtain ⟨sm_35, hsm_35, rfl⟩ := hp
  obtain rfl : sm_35 = 3358634140493226844 := hsm_35.trans (by decide)
  refine lv_aload_n hx hb dX8_digest_378 rfl (lv_at hl 1 rfl) ?_
  refine lv_aload_n hx hb dX8_digest_379 rfl (lv_at hl 1 rfl) ?_
  refine va_get (D := D) (ci := 8) (v := .int 0) (C := RX8) (T := TX8) (N := 32) hx hb hg inGX8 hown hK hP 1 rfl rfl 30 (by decide) (hg _ mw_350) (fun _ h9 => h9) rfl dX8_digest_380 ?_
  refine kV (rV (q0 := 1) (ci := 8) hx hb hml hown hg hN hK hP hD (m_add l D cI cJ cZ cO oc am q_2 F_3 G_4 (3358634140493226844) 0) mw_400 mw_401 mw_402 mw_403 mw_348 pdv_X8_add ⟨Nat.le_of_ble_eq_true rfl, Nat.le_of_ble_eq_true rfl⟩ rfl rfl rfl hl.1 rfl (Nat.le_of_ble_eq_true rfl) dX8_digest_383 ⟨Nat.le_of_ble_eq_true rfl, Nat.le_of_ble_eq_true rfl⟩) hD hS hA (fun u_36 H locs hp hP hD hS => ?_)
  obtain ⟨sm_37, hsm_37, rfl⟩ := hp
  obtain rfl : sm_37 = (-6562806086967277532) := hsm_37.trans (by decide)
  refine lv_aload_n hx hb dX8_digest_386 rfl (lv_at hl 1 rfl) ?_
  refine va_get (D := D) (ci := 8) (v := .long (-6562806086967277532)) (C := RX8) (T := TX8) (N := 32) hx hb hg inGX8 hown hK hP 1 rfl rfl 31 (by decide) (hg _ mw_398) (fun _ h9 => h9) rfl dX8_digest_387 ?_
  exact W.lret (v := (-6562806086967277532)) hx hb hr (fun t ht hW => ⟨⟨(-6562806086967277532), (MW oc am cI cJ cZ cO 0 0 1 0 (-6562806086967277532) q_2 F_3 G_4), rfl, ⟨rfl, _, _, _, _, _, _, _, rfl⟩, ⟨by rw [ht]; exact hP, va_K.moved hW.alike hK, hD⟩⟩, hS.F ht⟩) hS.2.2 dX8_digest_390
set_option maxHeartbeats 4000000 in
set_option maxRecDepth 100000 in
theorem q_remove (l : Launch) (D : va_G) (cI cJ cZ : ClassId) (cO : ClassId) (oc : Nat × va_E) (am : Nat → Nat) (qo : Nat) (F : Nat → Nat → Int32) (G : Nat → Nat → Int64) (k : Int32) : CT l D (TO cI cJ cZ cO) yX8_remove (.code yX8_remove cX8_remove 3 (some Jvm.ClassFile.FieldType.int)) 5 0 0 (MW oc am cI cJ cZ cO 0 0 0 0 0 qo F G) [.ref (am 1), .int k] (QI D (TO cI cJ cZ cO) (fun r u => r = 0 ∧ ∃ mn' ld' sw' sm' qo' F' G', u = MW oc am cI cJ cZ cO 1 mn' ld' sw' sm' qo' F' G')) := by
  refine ent (by decide) (Nat.le_of_ble_eq_true rfl) ?_
  intro p e s m below meth c ls A hx hb hr hg hown hml hlocks hnm hP hK hD hS hA hN hl
  have hl : lv_has ls 3 [(0, .ref (am 1)), (1, .int k)] := hl
  refine lv_aload_n hx hb dX8_remove_0 rfl (lv_at hl 0 rfl) ?_
  refine lv_iconst (v := 0) hx hb dX8_remove_1 (by decide) ?_
  refine va_put (D := D) (ci := 8) (v := .int 0) (C := RX8) (T := TX8) (N := 32) hx hb hg inGX8 tyX8 tyX8_ok nmX8 hown hK hP hD hS 1 rfl rfl 0 (by decide) (hg _ mw_343) (fun _ h9 => h9) rfl (tyX8_ok 0 (by decide)) rfl rfl (Nat.le_of_ble_eq_true rfl) dX8_remove_2 (fun H locs hP hD hS => ?_)
  have hP : va_P D vwCl (MW oc am cI cJ cZ cO 0 0 0 0 0 qo F G) H := hP
  have hD : va_D A (MW oc am cI cJ cZ cO 0 0 0 0 0 qo F G) := hD
  refine lv_aload_n hx hb dX8_remove_5 rfl (lv_at hl 0 rfl) ?_
  refine lv_iload_n hx hb dX8_remove_6 rfl (lv_at hl 1 rfl) ?_
  refine kI (rV (q0 := 1) (ci := 8) hx hb hml hown hg hN hK hP hD (m_isInstruction l D cI cJ cZ cO oc am qo F G 0 k) mw_430 mw_431 mw_432 mw_433 mw_348 pdv_X8_isInstruction ⟨Nat.le_of_ble_eq_true rfl, Nat.le_of_ble_eq_true rfl⟩ rfl rfl rfl hl.1 rfl (Nat.le_of_ble_eq_true rfl) dX8_remove_7 ⟨Nat.le_of_ble_eq_true rfl, Nat.le_of_ble_eq_true rfl⟩) hD hS hA (fun r_1 u_1 H locs hp hP hD hS => ?_)
  obtain ⟨rfl, rfl⟩ := hp
  refine lv_if_ne (tgt := 19) hx hb dX8_remove_10 (by decide) (fun c_10 => absurd (by decide) c_10) (fun c_10 => ?_)
  refine lv_aload_n hx hb dX8_remove_13 rfl (lv_at hl 0 rfl) ?_
  refine lv_iconst (v := 1) hx hb dX8_remove_14 (by decide) ?_
  refine kI (rV (q0 := 1) (ci := 8) hx hb hml hown hg hN hK hP hD (m_refuse l D cI cJ cZ cO oc am qo F G 0 0 0 0 0 1) mw_434 mw_435 mw_436 mw_437 mw_348 pdv_X8_refuse ⟨Nat.le_of_ble_eq_true rfl, Nat.le_of_ble_eq_true rfl⟩ rfl rfl rfl hl.1 rfl (Nat.le_of_ble_eq_true rfl) dX8_remove_15 ⟨Nat.le_of_ble_eq_true rfl, Nat.le_of_ble_eq_true rfl⟩) hD hS hA (fun r_2 u_2 H locs hp hP hD hS => ?_)
  obtain ⟨rfl, rfl⟩ := hp
  exact W.iret (v := 0) hx hb hr (fun t ht hW => ⟨⟨0, (MW oc am cI cJ cZ cO 1 0 0 0 0 qo F G), rfl, ⟨rfl, _, _, _, _, _, _, _, rfl⟩, ⟨by rw [ht]; exact hP, va_K.moved hW.alike hK, hD⟩⟩, hS.F ht⟩) hS.2.2 dX8_remove_18
set_option maxHeartbeats 4000000 in
set_option maxRecDepth 100000 in
theorem q_kindOf (l : Launch) (D : va_G) (cI cJ cZ : ClassId) (cO : ClassId) (oc : Nat × va_E) (am : Nat → Nat) (qo : Nat) (F : Nat → Nat → Int32) (G : Nat → Nat → Int64) (k : Int32) : CT l D (TO cI cJ cZ cO) yX8_kindOf (.code yX8_kindOf cX8_kindOf 2 (some Jvm.ClassFile.FieldType.int)) 5 0 0 (MW oc am cI cJ cZ cO 0 0 0 0 0 qo F G) [.ref (am 1), .int k] (QI D (TO cI cJ cZ cO) (fun r u => r = 0 ∧ ∃ mn' ld' sw' sm' qo' F' G', u = MW oc am cI cJ cZ cO 1 mn' ld' sw' sm' qo' F' G')) := by
  refine ent (by decide) (Nat.le_of_ble_eq_true rfl) ?_
  intro p e s m below meth c ls A hx hb hr hg hown hml hlocks hnm hP hK hD hS hA hN hl
  have hl : lv_has ls 2 [(0, .ref (am 1)), (1, .int k)] := hl
  refine lv_aload_n hx hb dX8_kindOf_0 rfl (lv_at hl 0 rfl) ?_
  refine lv_iconst (v := 0) hx hb dX8_kindOf_1 (by decide) ?_
  refine va_put (D := D) (ci := 8) (v := .int 0) (C := RX8) (T := TX8) (N := 32) hx hb hg inGX8 tyX8 tyX8_ok nmX8 hown hK hP hD hS 1 rfl rfl 0 (by decide) (hg _ mw_343) (fun _ h9 => h9) rfl (tyX8_ok 0 (by decide)) rfl rfl (Nat.le_of_ble_eq_true rfl) dX8_kindOf_2 (fun H locs hP hD hS => ?_)
  have hP : va_P D vwCl (MW oc am cI cJ cZ cO 0 0 0 0 0 qo F G) H := hP
  have hD : va_D A (MW oc am cI cJ cZ cO 0 0 0 0 0 qo F G) := hD
  refine lv_aload_n hx hb dX8_kindOf_5 rfl (lv_at hl 0 rfl) ?_
  refine lv_iload_n hx hb dX8_kindOf_6 rfl (lv_at hl 1 rfl) ?_
  refine kI (rV (q0 := 1) (ci := 8) hx hb hml hown hg hN hK hP hD (m_isInstruction l D cI cJ cZ cO oc am qo F G 0 k) mw_430 mw_431 mw_432 mw_433 mw_348 pdv_X8_isInstruction ⟨Nat.le_of_ble_eq_true rfl, Nat.le_of_ble_eq_true rfl⟩ rfl rfl rfl hl.1 rfl (Nat.le_of_ble_eq_true rfl) dX8_kindOf_7 ⟨Nat.le_of_ble_eq_true rfl, Nat.le_of_ble_eq_true rfl⟩) hD hS hA (fun r_1 u_1 H locs hp hP hD hS => ?_)
  obtain ⟨rfl, rfl⟩ := hp
  refine lv_if_eq (tgt := 22) hx hb dX8_kindOf_10 (by decide) (fun c_10 => ?_) (fun c_10 => absurd (by decide) c_10)
  refine lv_aload_n hx hb dX8_kindOf_22 rfl (lv_at hl 0 rfl) ?_
  refine lv_iconst (v := 1) hx hb dX8_kindOf_23 (by decide) ?_
  refine kI (rV (q0 := 1) (ci := 8) hx hb hml hown hg hN hK hP hD (m_refuse l D cI cJ cZ cO oc am qo F G 0 0 0 0 0 1) mw_434 mw_435 mw_436 mw_437 mw_348 pdv_X8_refuse ⟨Nat.le_of_ble_eq_true rfl, Nat.le_of_ble_eq_true rfl⟩ rfl rfl rfl hl.1 rfl (Nat.le_of_ble_eq_true rfl) dX8_kindOf_24 ⟨Nat.le_of_ble_eq_true rfl, Nat.le_of_ble_eq_true rfl⟩) hD hS hA (fun r_2 u_2 H locs hp hP hD hS => ?_)
  obtain ⟨rfl, rfl⟩ := hp
  exact W.iret (v := 0) hx hb hr (fun t ht hW => ⟨⟨0, (MW oc am cI cJ cZ cO 1 0 0 0 0 qo F G), rfl, ⟨rfl, _, _, _, _, _, _, _, rfl⟩, ⟨by rw [ht]; exact hP, va_K.moved hW.alike hK, hD⟩⟩, hS.F ht⟩) hS.2.2 dX8_kindOf_27
set_option maxHeartbeats 4000000 in
set_option maxRecDepth 100000 in
theorem q_targetOf (l : Launch) (D : va_G) (cI cJ cZ : ClassId) (cO : ClassId) (oc : Nat × va_E) (am : Nat → Nat) (qo : Nat) (F : Nat → Nat → Int32) (G : Nat → Nat → Int64) (k : Int32) : CT l D (TO cI cJ cZ cO) yX8_targetOf (.code yX8_targetOf cX8_targetOf 2 (some Jvm.ClassFile.FieldType.int)) 5 0 0 (MW oc am cI cJ cZ cO 0 0 0 0 0 qo F G) [.ref (am 1), .int k] (QI D (TO cI cJ cZ cO) (fun r u => r = 0 ∧ ∃ mn' ld' sw' sm' qo' F' G', u = MW oc am cI cJ cZ cO 1 mn' ld' sw' sm' qo' F' G')) := by
  refine ent (by decide) (Nat.le_of_ble_eq_true rfl) ?_
  intro p e s m below meth c ls A hx hb hr hg hown hml hlocks hnm hP hK hD hS hA hN hl
  have hl : lv_has ls 2 [(0, .ref (am 1)), (1, .int k)] := hl
  refine lv_aload_n hx hb dX8_targetOf_0 rfl (lv_at hl 0 rfl) ?_
  refine lv_iconst (v := 0) hx hb dX8_targetOf_1 (by decide) ?_
  refine va_put (D := D) (ci := 8) (v := .int 0) (C := RX8) (T := TX8) (N := 32) hx hb hg inGX8 tyX8 tyX8_ok nmX8 hown hK hP hD hS 1 rfl rfl 0 (by decide) (hg _ mw_343) (fun _ h9 => h9) rfl (tyX8_ok 0 (by decide)) rfl rfl (Nat.le_of_ble_eq_true rfl) dX8_targetOf_2 (fun H locs hP hD hS => ?_)
  have hP : va_P D vwCl (MW oc am cI cJ cZ cO 0 0 0 0 0 qo F G) H := hP
  have hD : va_D A (MW oc am cI cJ cZ cO 0 0 0 0 0 qo F G) := hD
  refine lv_aload_n hx hb dX8_targetOf_5 rfl (lv_at hl 0 rfl) ?_
  refine lv_iload_n hx hb dX8_targetOf_6 rfl (lv_at hl 1 rfl) ?_
  refine kI (rV (q0 := 1) (ci := 8) hx hb hml hown hg hN hK hP hD (m_isInstruction l D cI cJ cZ cO oc am qo F G 0 k) mw_430 mw_431 mw_432 mw_433 mw_348 pdv_X8_isInstruction ⟨Nat.le_of_ble_eq_true rfl, Nat.le_of_ble_eq_true rfl⟩ rfl rfl rfl hl.1 rfl (Nat.le_of_ble_eq_true rfl) dX8_targetOf_7 ⟨Nat.le_of_ble_eq_true rfl, Nat.le_of_ble_eq_true rfl⟩) hD hS hA (fun r_1 u_1 H locs hp hP hD hS => ?_)
  obtain ⟨rfl, rfl⟩ := hp
  refine lv_if_eq (tgt := 22) hx hb dX8_targetOf_10 (by decide) (fun c_10 => ?_) (fun c_10 => absurd (by decide) c_10)
  refine lv_aload_n hx hb dX8_targetOf_22 rfl (lv_at hl 0 rfl) ?_
  refine lv_iconst (v := 1) hx hb dX8_targetOf_23 (by decide) ?_
  refine kI (rV (q0 := 1) (ci := 8) hx hb hml hown hg hN hK hP hD (m_refuse l D cI cJ cZ cO oc am qo F G 0 0 0 0 0 1) mw_434 mw_435 mw_436 mw_437 mw_348 pdv_X8_refuse ⟨Nat.le_of_ble_eq_true rfl, Nat.le_of_ble_eq_true rfl⟩ rfl rfl rfl hl.1 rfl (Nat.le_of_ble_eq_true rfl) dX8_targetOf_24 ⟨Nat.le_of_ble_eq_true rfl, Nat.le_of_ble_eq_true rfl⟩) hD hS hA (fun r_2 u_2 H locs hp hP hD hS => ?_)
  obtain ⟨rfl, rfl⟩ := hp
  exact W.iret (v := 0) hx hb hr (fun t ht hW => ⟨⟨0, (MW oc am cI cJ cZ cO 1 0 0 0 0 qo F G), rfl, ⟨rfl, _, _, _, _, _, _, _, rfl⟩, ⟨by rw [ht]; exact hP, va_K.moved hW.alike hK, hD⟩⟩, hS.F ht⟩) hS.2.2 dX8_targetOf_27
set_option maxHeartbeats 4000000 in
set_option maxRecDepth 100000 in
theorem q_blockOf (l : Launch) (D : va_G) (cI cJ cZ : ClassId) (cO : ClassId) (oc : Nat × va_E) (am : Nat → Nat) (qo : Nat) (F : Nat → Nat → Int32) (G : Nat → Nat → Int64) (k : Int32) : CT l D (TO cI cJ cZ cO) yX8_blockOf (.code yX8_blockOf cX8_blockOf 2 (some Jvm.ClassFile.FieldType.int)) 5 1 0 (MW oc am cI cJ cZ cO 0 0 0 0 0 qo F G) [.ref (am 1), .int k] (QI D (TO cI cJ cZ cO) (fun r u => r = 0 ∧ ∃ mn' ld' sw' sm' qo' F' G', u = MW oc am cI cJ cZ cO 1 mn' ld' sw' sm' qo' F' G')) := by
  refine ent (by decide) (Nat.le_of_ble_eq_true rfl) ?_
  intro p e s m below meth c ls A hx hb hr hg hown hml hlocks hnm hP hK hD hS hA hN hl
  have hl : lv_has ls 2 [(0, .ref (am 1)), (1, .int k)] := hl
  refine lv_aload_n hx hb dX8_blockOf_0 rfl (lv_at hl 0 rfl) ?_
  refine lv_iconst (v := 0) hx hb dX8_blockOf_1 (by decide) ?_
  refine va_put (D := D) (ci := 8) (v := .int 0) (C := RX8) (T := TX8) (N := 32) hx hb hg inGX8 tyX8 tyX8_ok nmX8 hown hK hP hD hS 1 rfl rfl 0 (by decide) (hg _ mw_343) (fun _ h9 => h9) rfl (tyX8_ok 0 (by decide)) rfl rfl (Nat.le_of_ble_eq_true rfl) dX8_blockOf_2 (fun H locs hP hD hS => ?_)
  have hP : va_P D vwCl (MW oc am cI cJ cZ cO 0 0 0 0 0 qo F G) H := hP
  have hD : va_D A (MW oc am cI cJ cZ cO 0 0 0 0 0 qo F G) := hD
  refine lv_aload_n hx hb dX8_blockOf_5 rfl (lv_at hl 0 rfl) ?_
  refine kV (rV (q0 := 1) (ci := 8) hx hb hml hown hg hN hK hP hD (m_lay l D cI cJ cZ cO oc am qo F G) mw_404 mw_405 mw_406 mw_407 mw_348 pdv_X8_lay ⟨Nat.le_of_ble_eq_true rfl, Nat.le_of_ble_eq_true rfl⟩ rfl rfl rfl hl.1 rfl (Nat.le_of_ble_eq_true rfl) dX8_blockOf_6 ⟨Nat.le_of_ble_eq_true rfl, Nat.le_of_ble_eq_true rfl⟩) hD hS hA (fun u_1 H locs hp hP hD hS => ?_)
  obtain ⟨q_2, F_3, G_4, rfl⟩ := hp
  refine lv_aload_n hx hb dX8_blockOf_9 rfl (lv_at hl 0 rfl) ?_
  refine lv_iload_n hx hb dX8_blockOf_10 rfl (lv_at hl 1 rfl) ?_
  refine kI (rV (q0 := 1) (ci := 8) hx hb hml hown hg hN hK hP hD (m_isInstruction l D cI cJ cZ cO oc am q_2 F_3 G_4 1 k) mw_430 mw_431 mw_432 mw_433 mw_348 pdv_X8_isInstruction ⟨Nat.le_of_ble_eq_true rfl, Nat.le_of_ble_eq_true rfl⟩ rfl rfl rfl hl.1 rfl (Nat.le_of_ble_eq_true rfl) dX8_blockOf_11 ⟨Nat.le_of_ble_eq_true rfl, Nat.le_of_ble_eq_true rfl⟩) hD hS hA (fun r_5 u_5 H locs hp hP hD hS => ?_)
  obtain ⟨rfl, rfl⟩ := hp
  refine lv_if_eq (tgt := 26) hx hb dX8_blockOf_14 (by decide) (fun c_14 => ?_) (fun c_14 => absurd (by decide) c_14)
  refine lv_aload_n hx hb dX8_blockOf_26 rfl (lv_at hl 0 rfl) ?_
  refine lv_iconst (v := 1) hx hb dX8_blockOf_27 (by decide) ?_
  refine kI (rV (q0 := 1) (ci := 8) hx hb hml hown hg hN hK hP hD (m_refuse l D cI cJ cZ cO oc am q_2 F_3 G_4 0 0 1 0 0 1) mw_434 mw_435 mw_436 mw_437 mw_348 pdv_X8_refuse ⟨Nat.le_of_ble_eq_true rfl, Nat.le_of_ble_eq_true rfl⟩ rfl rfl rfl hl.1 rfl (Nat.le_of_ble_eq_true rfl) dX8_blockOf_28 ⟨Nat.le_of_ble_eq_true rfl, Nat.le_of_ble_eq_true rfl⟩) hD hS hA (fun r_6 u_6 H locs hp hP hD hS => ?_)
  obtain ⟨rfl, rfl⟩ := hp
  exact W.iret (v := 0) hx hb hr (fun t ht hW => ⟨⟨0, (MW oc am cI cJ cZ cO 1 0 1 0 0 q_2 F_3 G_4), rfl, ⟨rfl, _, _, _, _, _, _, _, rfl⟩, ⟨by rw [ht]; exact hP, va_K.moved hW.alike hK, hD⟩⟩, hS.F ht⟩) hS.2.2 dX8_blockOf_31
set_option maxHeartbeats 4000000 in
set_option maxRecDepth 100000 in
theorem q_firstOf (l : Launch) (D : va_G) (cI cJ cZ : ClassId) (cO : ClassId) (oc : Nat × va_E) (am : Nat → Nat) (qo : Nat) (F : Nat → Nat → Int32) (G : Nat → Nat → Int64) (k : Int32) : CT l D (TO cI cJ cZ cO) yX8_firstOf (.code yX8_firstOf cX8_firstOf 2 (some Jvm.ClassFile.FieldType.int)) 5 1 0 (MW oc am cI cJ cZ cO 0 0 0 0 0 qo F G) [.ref (am 1), .int k] (QI D (TO cI cJ cZ cO) (fun r u => r = 0 ∧ ∃ mn' ld' sw' sm' qo' F' G', u = MW oc am cI cJ cZ cO 1 mn' ld' sw' sm' qo' F' G')) := by
  refine ent (by decide) (Nat.le_of_ble_eq_true rfl) ?_
  intro p e s m below meth c ls A hx hb hr hg hown hml hlocks hnm hP hK hD hS hA hN hl
  have hl : lv_has ls 2 [(0, .ref (am 1)), (1, .int k)] := hl
  refine lv_aload_n hx hb dX8_firstOf_0 rfl (lv_at hl 0 rfl) ?_
  refine lv_iload_n hx hb dX8_firstOf_1 rfl (lv_at hl 1 rfl) ?_
  refine kI (rV (q0 := 1) (ci := 8) hx hb hml hown hg hN hK hP hD (m_isBlock l D cI cJ cZ cO oc am qo F G k) mw_438 mw_439 mw_440 mw_441 mw_348 pdv_X8_isBlock ⟨Nat.le_of_ble_eq_true rfl, Nat.le_of_ble_eq_true rfl⟩ rfl rfl rfl hl.1 rfl (Nat.le_of_ble_eq_true rfl) dX8_firstOf_2 ⟨Nat.le_of_ble_eq_true rfl, Nat.le_of_ble_eq_true rfl⟩) hD hS hA (fun r_1 u_1 H locs hp hP hD hS => ?_)
  obtain ⟨rfl, q_2, F_3, G_4, rfl⟩ := hp
  refine lv_if_eq (tgt := 17) hx hb dX8_firstOf_5 (by decide) (fun c_5 => ?_) (fun c_5 => absurd (by decide) c_5)
  refine lv_iconst (v := 0) hx hb dX8_firstOf_17 (by decide) ?_
  exact W.iret (v := 0) hx hb hr (fun t ht hW => ⟨⟨0, (MW oc am cI cJ cZ cO 1 0 1 0 0 q_2 F_3 G_4), rfl, ⟨rfl, _, _, _, _, _, _, _, rfl⟩, ⟨by rw [ht]; exact hP, va_K.moved hW.alike hK, hD⟩⟩, hS.F ht⟩) hS.2.2 dX8_firstOf_18
set_option maxHeartbeats 4000000 in
set_option maxRecDepth 100000 in
theorem q_parentOf (l : Launch) (D : va_G) (cI cJ cZ : ClassId) (cO : ClassId) (oc : Nat × va_E) (am : Nat → Nat) (qo : Nat) (F : Nat → Nat → Int32) (G : Nat → Nat → Int64) (k : Int32) : CT l D (TO cI cJ cZ cO) yX8_parentOf (.code yX8_parentOf cX8_parentOf 2 (some Jvm.ClassFile.FieldType.int)) 5 1 0 (MW oc am cI cJ cZ cO 0 0 0 0 0 qo F G) [.ref (am 1), .int k] (QI D (TO cI cJ cZ cO) (fun r u => r = 0 ∧ ∃ mn' ld' sw' sm' qo' F' G', u = MW oc am cI cJ cZ cO 1 mn' ld' sw' sm' qo' F' G')) := by
  refine ent (by decide) (Nat.le_of_ble_eq_true rfl) ?_
  intro p e s m below meth c ls A hx hb hr hg hown hml hlocks hnm hP hK hD hS hA hN hl
  have hl : lv_has ls 2 [(0, .ref (am 1)), (1, .int k)] := hl
  refine lv_aload_n hx hb dX8_parentOf_0 rfl (lv_at hl 0 rfl) ?_
  refine lv_iload_n hx hb dX8_parentOf_1 rfl (lv_at hl 1 rfl) ?_
  refine kI (rV (q0 := 1) (ci := 8) hx hb hml hown hg hN hK hP hD (m_isBlock l D cI cJ cZ cO oc am qo F G k) mw_438 mw_439 mw_440 mw_441 mw_348 pdv_X8_isBlock ⟨Nat.le_of_ble_eq_true rfl, Nat.le_of_ble_eq_true rfl⟩ rfl rfl rfl hl.1 rfl (Nat.le_of_ble_eq_true rfl) dX8_parentOf_2 ⟨Nat.le_of_ble_eq_true rfl, Nat.le_of_ble_eq_true rfl⟩) hD hS hA (fun r_1 u_1 H locs hp hP hD hS => ?_)
  obtain ⟨rfl, q_2, F_3, G_4, rfl⟩ := hp
  refine lv_if_eq (tgt := 16) hx hb dX8_parentOf_5 (by decide) (fun c_5 => ?_) (fun c_5 => absurd (by decide) c_5)
  refine lv_iconst (v := 0) hx hb dX8_parentOf_16 (by decide) ?_
  exact W.iret (v := 0) hx hb hr (fun t ht hW => ⟨⟨0, (MW oc am cI cJ cZ cO 1 0 1 0 0 q_2 F_3 G_4), rfl, ⟨rfl, _, _, _, _, _, _, _, rfl⟩, ⟨by rw [ht]; exact hP, va_K.moved hW.alike hK, hD⟩⟩, hS.F ht⟩) hS.2.2 dX8_parentOf_17
set_option maxHeartbeats 4000000 in
set_option maxRecDepth 100000 in
theorem q_loopSize (l : Launch) (D : va_G) (cI cJ cZ : ClassId) (cO : ClassId) (oc : Nat × va_E) (am : Nat → Nat) (qo : Nat) (F : Nat → Nat → Int32) (G : Nat → Nat → Int64) (k : Int32) : CT l D (TO cI cJ cZ cO) yX8_loopSize (.code yX8_loopSize cX8_loopSize 2 (some Jvm.ClassFile.FieldType.int)) 5 1 0 (MW oc am cI cJ cZ cO 0 0 0 0 0 qo F G) [.ref (am 1), .int k] (QI D (TO cI cJ cZ cO) (fun r u => r = 0 ∧ ∃ mn' ld' sw' sm' qo' F' G', u = MW oc am cI cJ cZ cO 1 mn' ld' sw' sm' qo' F' G')) := by
  refine ent (by decide) (Nat.le_of_ble_eq_true rfl) ?_
  intro p e s m below meth c ls A hx hb hr hg hown hml hlocks hnm hP hK hD hS hA hN hl
  have hl : lv_has ls 2 [(0, .ref (am 1)), (1, .int k)] := hl
  refine lv_aload_n hx hb dX8_loopSize_0 rfl (lv_at hl 0 rfl) ?_
  refine lv_iload_n hx hb dX8_loopSize_1 rfl (lv_at hl 1 rfl) ?_
  refine kI (rV (q0 := 1) (ci := 8) hx hb hml hown hg hN hK hP hD (m_isBlock l D cI cJ cZ cO oc am qo F G k) mw_438 mw_439 mw_440 mw_441 mw_348 pdv_X8_isBlock ⟨Nat.le_of_ble_eq_true rfl, Nat.le_of_ble_eq_true rfl⟩ rfl rfl rfl hl.1 rfl (Nat.le_of_ble_eq_true rfl) dX8_loopSize_2 ⟨Nat.le_of_ble_eq_true rfl, Nat.le_of_ble_eq_true rfl⟩) hD hS hA (fun r_1 u_1 H locs hp hP hD hS => ?_)
  obtain ⟨rfl, q_2, F_3, G_4, rfl⟩ := hp
  refine lv_if_eq (tgt := 20) hx hb dX8_loopSize_5 (by decide) (fun c_5 => ?_) (fun c_5 => absurd (by decide) c_5)
  refine lv_iconst (v := 0) hx hb dX8_loopSize_20 (by decide) ?_
  exact W.iret (v := 0) hx hb hr (fun t ht hW => ⟨⟨0, (MW oc am cI cJ cZ cO 1 0 1 0 0 q_2 F_3 G_4), rfl, ⟨rfl, _, _, _, _, _, _, _, rfl⟩, ⟨by rw [ht]; exact hP, va_K.moved hW.alike hK, hD⟩⟩, hS.F ht⟩) hS.2.2 dX8_loopSize_21
set_option maxHeartbeats 4000000 in
set_option maxRecDepth 100000 in
theorem q_depthOf (l : Launch) (D : va_G) (cI cJ cZ : ClassId) (cO : ClassId) (oc : Nat × va_E) (am : Nat → Nat) (qo : Nat) (F : Nat → Nat → Int32) (G : Nat → Nat → Int64) (k : Int32) : CT l D (TO cI cJ cZ cO) yX8_depthOf (.code yX8_depthOf cX8_depthOf 2 (some Jvm.ClassFile.FieldType.int)) 5 1 0 (MW oc am cI cJ cZ cO 0 0 0 0 0 qo F G) [.ref (am 1), .int k] (QI D (TO cI cJ cZ cO) (fun r u => r = 0 ∧ ∃ mn' ld' sw' sm' qo' F' G', u = MW oc am cI cJ cZ cO 1 mn' ld' sw' sm' qo' F' G')) := by
  refine ent (by decide) (Nat.le_of_ble_eq_true rfl) ?_
  intro p e s m below meth c ls A hx hb hr hg hown hml hlocks hnm hP hK hD hS hA hN hl
  have hl : lv_has ls 2 [(0, .ref (am 1)), (1, .int k)] := hl
  refine lv_aload_n hx hb dX8_depthOf_0 rfl (lv_at hl 0 rfl) ?_
  refine lv_iload_n hx hb dX8_depthOf_1 rfl (lv_at hl 1 rfl) ?_
  refine kI (rV (q0 := 1) (ci := 8) hx hb hml hown hg hN hK hP hD (m_isBlock l D cI cJ cZ cO oc am qo F G k) mw_438 mw_439 mw_440 mw_441 mw_348 pdv_X8_isBlock ⟨Nat.le_of_ble_eq_true rfl, Nat.le_of_ble_eq_true rfl⟩ rfl rfl rfl hl.1 rfl (Nat.le_of_ble_eq_true rfl) dX8_depthOf_2 ⟨Nat.le_of_ble_eq_true rfl, Nat.le_of_ble_eq_true rfl⟩) hD hS hA (fun r_1 u_1 H locs hp hP hD hS => ?_)
  obtain ⟨rfl, q_2, F_3, G_4, rfl⟩ := hp
  refine lv_if_eq (tgt := 16) hx hb dX8_depthOf_5 (by decide) (fun c_5 => ?_) (fun c_5 => absurd (by decide) c_5)
  refine lv_iconst (v := 0) hx hb dX8_depthOf_16 (by decide) ?_
  exact W.iret (v := 0) hx hb hr (fun t ht hW => ⟨⟨0, (MW oc am cI cJ cZ cO 1 0 1 0 0 q_2 F_3 G_4), rfl, ⟨rfl, _, _, _, _, _, _, _, rfl⟩, ⟨by rw [ht]; exact hP, va_K.moved hW.alike hK, hD⟩⟩, hS.F ht⟩) hS.2.2 dX8_depthOf_17
set_option maxHeartbeats 4000000 in
set_option maxRecDepth 100000 in
theorem q_liveIn (l : Launch) (D : va_G) (cI cJ cZ : ClassId) (cO : ClassId) (oc : Nat × va_E) (am : Nat → Nat) (qo : Nat) (F : Nat → Nat → Int32) (G : Nat → Nat → Int64) (k : Int32) : CT l D (TO cI cJ cZ cO) yX8_liveIn (.code yX8_liveIn cX8_liveIn 2 (some Jvm.ClassFile.FieldType.int)) 5 1 0 (MW oc am cI cJ cZ cO 0 0 0 0 0 qo F G) [.ref (am 1), .int k] (QI D (TO cI cJ cZ cO) (fun r u => r = 0 ∧ ∃ mn' ld' sw' sm' qo' F' G', u = MW oc am cI cJ cZ cO 1 mn' ld' sw' sm' qo' F' G')) := by
  refine ent (by decide) (Nat.le_of_ble_eq_true rfl) ?_
  intro p e s m below meth c ls A hx hb hr hg hown hml hlocks hnm hP hK hD hS hA hN hl
  have hl : lv_has ls 2 [(0, .ref (am 1)), (1, .int k)] := hl
  refine lv_aload_n hx hb dX8_liveIn_0 rfl (lv_at hl 0 rfl) ?_
  refine lv_iload_n hx hb dX8_liveIn_1 rfl (lv_at hl 1 rfl) ?_
  refine kI (rV (q0 := 1) (ci := 8) hx hb hml hown hg hN hK hP hD (m_isBlock l D cI cJ cZ cO oc am qo F G k) mw_438 mw_439 mw_440 mw_441 mw_348 pdv_X8_isBlock ⟨Nat.le_of_ble_eq_true rfl, Nat.le_of_ble_eq_true rfl⟩ rfl rfl rfl hl.1 rfl (Nat.le_of_ble_eq_true rfl) dX8_liveIn_2 ⟨Nat.le_of_ble_eq_true rfl, Nat.le_of_ble_eq_true rfl⟩) hD hS hA (fun r_1 u_1 H locs hp hP hD hS => ?_)
  obtain ⟨rfl, q_2, F_3, G_4, rfl⟩ := hp
  refine lv_if_eq (tgt := 16) hx hb dX8_liveIn_5 (by decide) (fun c_5 => ?_) (fun c_5 => absurd (by decide) c_5)
  refine lv_iconst (v := 0) hx hb dX8_liveIn_16 (by decide) ?_
  exact W.iret (v := 0) hx hb hr (fun t ht hW => ⟨⟨0, (MW oc am cI cJ cZ cO 1 0 1 0 0 q_2 F_3 G_4), rfl, ⟨rfl, _, _, _, _, _, _, _, rfl⟩, ⟨by rw [ht]; exact hP, va_K.moved hW.alike hK, hD⟩⟩, hS.F ht⟩) hS.2.2 dX8_liveIn_17
set_option maxHeartbeats 4000000 in
set_option maxRecDepth 100000 in
theorem q_endsIn (l : Launch) (D : va_G) (cI cJ cZ : ClassId) (cO : ClassId) (oc : Nat × va_E) (am : Nat → Nat) (qo : Nat) (F : Nat → Nat → Int32) (G : Nat → Nat → Int64) (k : Int32) : CT l D (TO cI cJ cZ cO) yX8_endsIn (.code yX8_endsIn cX8_endsIn 2 (some Jvm.ClassFile.FieldType.int)) 5 1 0 (MW oc am cI cJ cZ cO 0 0 0 0 0 qo F G) [.ref (am 1), .int k] (QI D (TO cI cJ cZ cO) (fun r u => r = 0 ∧ ∃ mn' ld' sw' sm' qo' F' G', u = MW oc am cI cJ cZ cO 1 mn' ld' sw' sm' qo' F' G')) := by
  refine ent (by decide) (Nat.le_of_ble_eq_true rfl) ?_
  intro p e s m below meth c ls A hx hb hr hg hown hml hlocks hnm hP hK hD hS hA hN hl
  have hl : lv_has ls 2 [(0, .ref (am 1)), (1, .int k)] := hl
  refine lv_aload_n hx hb dX8_endsIn_0 rfl (lv_at hl 0 rfl) ?_
  refine lv_iload_n hx hb dX8_endsIn_1 rfl (lv_at hl 1 rfl) ?_
  refine kI (rV (q0 := 1) (ci := 8) hx hb hml hown hg hN hK hP hD (m_isBlock l D cI cJ cZ cO oc am qo F G k) mw_438 mw_439 mw_440 mw_441 mw_348 pdv_X8_isBlock ⟨Nat.le_of_ble_eq_true rfl, Nat.le_of_ble_eq_true rfl⟩ rfl rfl rfl hl.1 rfl (Nat.le_of_ble_eq_true rfl) dX8_endsIn_2 ⟨Nat.le_of_ble_eq_true rfl, Nat.le_of_ble_eq_true rfl⟩) hD hS hA (fun r_1 u_1 H locs hp hP hD hS => ?_)
  obtain ⟨rfl, q_2, F_3, G_4, rfl⟩ := hp
  refine lv_if_eq (tgt := 17) hx hb dX8_endsIn_5 (by decide) (fun c_5 => ?_) (fun c_5 => absurd (by decide) c_5)
  refine lv_iconst (v := 0) hx hb dX8_endsIn_17 (by decide) ?_
  exact W.iret (v := 0) hx hb hr (fun t ht hW => ⟨⟨0, (MW oc am cI cJ cZ cO 1 0 1 0 0 q_2 F_3 G_4), rfl, ⟨rfl, _, _, _, _, _, _, _, rfl⟩, ⟨by rw [ht]; exact hP, va_K.moved hW.alike hK, hD⟩⟩, hS.F ht⟩) hS.2.2 dX8_endsIn_18
set_option maxHeartbeats 4000000 in
set_option maxRecDepth 100000 in
theorem q_layerOf (l : Launch) (D : va_G) (cI cJ cZ : ClassId) (cO : ClassId) (oc : Nat × va_E) (am : Nat → Nat) (qo : Nat) (F : Nat → Nat → Int32) (G : Nat → Nat → Int64) (k : Int32) : CT l D (TO cI cJ cZ cO) yX8_layerOf (.code yX8_layerOf cX8_layerOf 2 (some Jvm.ClassFile.FieldType.int)) 5 1 0 (MW oc am cI cJ cZ cO 0 0 0 0 0 qo F G) [.ref (am 1), .int k] (QI D (TO cI cJ cZ cO) (fun r u => r = 0 ∧ ∃ mn' ld' sw' sm' qo' F' G', u = MW oc am cI cJ cZ cO 1 mn' ld' sw' sm' qo' F' G')) := by
  refine ent (by decide) (Nat.le_of_ble_eq_true rfl) ?_
  intro p e s m below meth c ls A hx hb hr hg hown hml hlocks hnm hP hK hD hS hA hN hl
  have hl : lv_has ls 2 [(0, .ref (am 1)), (1, .int k)] := hl
  refine lv_aload_n hx hb dX8_layerOf_0 rfl (lv_at hl 0 rfl) ?_
  refine lv_iload_n hx hb dX8_layerOf_1 rfl (lv_at hl 1 rfl) ?_
  refine kI (rV (q0 := 1) (ci := 8) hx hb hml hown hg hN hK hP hD (m_isBlock l D cI cJ cZ cO oc am qo F G k) mw_438 mw_439 mw_440 mw_441 mw_348 pdv_X8_isBlock ⟨Nat.le_of_ble_eq_true rfl, Nat.le_of_ble_eq_true rfl⟩ rfl rfl rfl hl.1 rfl (Nat.le_of_ble_eq_true rfl) dX8_layerOf_2 ⟨Nat.le_of_ble_eq_true rfl, Nat.le_of_ble_eq_true rfl⟩) hD hS hA (fun r_1 u_1 H locs hp hP hD hS => ?_)
  obtain ⟨rfl, q_2, F_3, G_4, rfl⟩ := hp
  refine lv_if_eq (tgt := 16) hx hb dX8_layerOf_5 (by decide) (fun c_5 => ?_) (fun c_5 => absurd (by decide) c_5)
  refine lv_iconst (v := 0) hx hb dX8_layerOf_16 (by decide) ?_
  exact W.iret (v := 0) hx hb hr (fun t ht hW => ⟨⟨0, (MW oc am cI cJ cZ cO 1 0 1 0 0 q_2 F_3 G_4), rfl, ⟨rfl, _, _, _, _, _, _, _, rfl⟩, ⟨by rw [ht]; exact hP, va_K.moved hW.alike hK, hD⟩⟩, hS.F ht⟩) hS.2.2 dX8_layerOf_17
set_option maxHeartbeats 4000000 in
set_option maxRecDepth 100000 in
theorem q_placeOf (l : Launch) (D : va_G) (cI cJ cZ : ClassId) (cO : ClassId) (oc : Nat × va_E) (am : Nat → Nat) (qo : Nat) (F : Nat → Nat → Int32) (G : Nat → Nat → Int64) (k : Int32) : CT l D (TO cI cJ cZ cO) yX8_placeOf (.code yX8_placeOf cX8_placeOf 2 (some Jvm.ClassFile.FieldType.int)) 5 1 0 (MW oc am cI cJ cZ cO 0 0 0 0 0 qo F G) [.ref (am 1), .int k] (QI D (TO cI cJ cZ cO) (fun r u => r = 0 ∧ ∃ mn' ld' sw' sm' qo' F' G', u = MW oc am cI cJ cZ cO 1 mn' ld' sw' sm' qo' F' G')) := by
  refine ent (by decide) (Nat.le_of_ble_eq_true rfl) ?_
  intro p e s m below meth c ls A hx hb hr hg hown hml hlocks hnm hP hK hD hS hA hN hl
  have hl : lv_has ls 2 [(0, .ref (am 1)), (1, .int k)] := hl
  refine lv_aload_n hx hb dX8_placeOf_0 rfl (lv_at hl 0 rfl) ?_
  refine lv_iload_n hx hb dX8_placeOf_1 rfl (lv_at hl 1 rfl) ?_
  refine kI (rV (q0 := 1) (ci := 8) hx hb hml hown hg hN hK hP hD (m_isBlock l D cI cJ cZ cO oc am qo F G k) mw_438 mw_439 mw_440 mw_441 mw_348 pdv_X8_isBlock ⟨Nat.le_of_ble_eq_true rfl, Nat.le_of_ble_eq_true rfl⟩ rfl rfl rfl hl.1 rfl (Nat.le_of_ble_eq_true rfl) dX8_placeOf_2 ⟨Nat.le_of_ble_eq_true rfl, Nat.le_of_ble_eq_true rfl⟩) hD hS hA (fun r_1 u_1 H locs hp hP hD hS => ?_)
  obtain ⟨rfl, q_2, F_3, G_4, rfl⟩ := hp
  refine lv_if_eq (tgt := 16) hx hb dX8_placeOf_5 (by decide) (fun c_5 => ?_) (fun c_5 => absurd (by decide) c_5)
  refine lv_iconst (v := 0) hx hb dX8_placeOf_16 (by decide) ?_
  exact W.iret (v := 0) hx hb hr (fun t ht hW => ⟨⟨0, (MW oc am cI cJ cZ cO 1 0 1 0 0 q_2 F_3 G_4), rfl, ⟨rfl, _, _, _, _, _, _, _, rfl⟩, ⟨by rw [ht]; exact hP, va_K.moved hW.alike hK, hD⟩⟩, hS.F ht⟩) hS.2.2 dX8_placeOf_17
set_option maxHeartbeats 4000000 in
set_option maxRecDepth 100000 in
theorem q_edgeFrom (l : Launch) (D : va_G) (cI cJ cZ : ClassId) (cO : ClassId) (oc : Nat × va_E) (am : Nat → Nat) (qo : Nat) (F : Nat → Nat → Int32) (G : Nat → Nat → Int64) (k : Int32) : CT l D (TO cI cJ cZ cO) yX8_edgeFrom (.code yX8_edgeFrom cX8_edgeFrom 2 (some Jvm.ClassFile.FieldType.int)) 5 1 0 (MW oc am cI cJ cZ cO 0 0 0 0 0 qo F G) [.ref (am 1), .int k] (QI D (TO cI cJ cZ cO) (fun r u => r = 0 ∧ ∃ mn' ld' sw' sm' qo' F' G', u = MW oc am cI cJ cZ cO 1 mn' ld' sw' sm' qo' F' G')) := by
  refine ent (by decide) (Nat.le_of_ble_eq_true rfl) ?_
  intro p e s m below meth c ls A hx hb hr hg hown hml hlocks hnm hP hK hD hS hA hN hl
  have hl : lv_has ls 2 [(0, .ref (am 1)), (1, .int k)] := hl
  refine lv_aload_n hx hb dX8_edgeFrom_0 rfl (lv_at hl 0 rfl) ?_
  refine lv_iload_n hx hb dX8_edgeFrom_1 rfl (lv_at hl 1 rfl) ?_
  refine kI (rV (q0 := 1) (ci := 8) hx hb hml hown hg hN hK hP hD (m_isEdge l D cI cJ cZ cO oc am qo F G k) mw_442 mw_443 mw_444 mw_445 mw_348 pdv_X8_isEdge ⟨Nat.le_of_ble_eq_true rfl, Nat.le_of_ble_eq_true rfl⟩ rfl rfl rfl hl.1 rfl (Nat.le_of_ble_eq_true rfl) dX8_edgeFrom_2 ⟨Nat.le_of_ble_eq_true rfl, Nat.le_of_ble_eq_true rfl⟩) hD hS hA (fun r_1 u_1 H locs hp hP hD hS => ?_)
  obtain ⟨rfl, q_2, F_3, G_4, rfl⟩ := hp
  refine lv_if_eq (tgt := 17) hx hb dX8_edgeFrom_5 (by decide) (fun c_5 => ?_) (fun c_5 => absurd (by decide) c_5)
  refine lv_iconst (v := 0) hx hb dX8_edgeFrom_17 (by decide) ?_
  exact W.iret (v := 0) hx hb hr (fun t ht hW => ⟨⟨0, (MW oc am cI cJ cZ cO 1 0 1 0 0 q_2 F_3 G_4), rfl, ⟨rfl, _, _, _, _, _, _, _, rfl⟩, ⟨by rw [ht]; exact hP, va_K.moved hW.alike hK, hD⟩⟩, hS.F ht⟩) hS.2.2 dX8_edgeFrom_18
set_option maxHeartbeats 4000000 in
set_option maxRecDepth 100000 in
theorem q_edgeTo (l : Launch) (D : va_G) (cI cJ cZ : ClassId) (cO : ClassId) (oc : Nat × va_E) (am : Nat → Nat) (qo : Nat) (F : Nat → Nat → Int32) (G : Nat → Nat → Int64) (k : Int32) : CT l D (TO cI cJ cZ cO) yX8_edgeTo (.code yX8_edgeTo cX8_edgeTo 2 (some Jvm.ClassFile.FieldType.int)) 5 1 0 (MW oc am cI cJ cZ cO 0 0 0 0 0 qo F G) [.ref (am 1), .int k] (QI D (TO cI cJ cZ cO) (fun r u => r = 0 ∧ ∃ mn' ld' sw' sm' qo' F' G', u = MW oc am cI cJ cZ cO 1 mn' ld' sw' sm' qo' F' G')) := by
  refine ent (by decide) (Nat.le_of_ble_eq_true rfl) ?_
  intro p e s m below meth c ls A hx hb hr hg hown hml hlocks hnm hP hK hD hS hA hN hl
  have hl : lv_has ls 2 [(0, .ref (am 1)), (1, .int k)] := hl
  refine lv_aload_n hx hb dX8_edgeTo_0 rfl (lv_at hl 0 rfl) ?_
  refine lv_iload_n hx hb dX8_edgeTo_1 rfl (lv_at hl 1 rfl) ?_
  refine kI (rV (q0 := 1) (ci := 8) hx hb hml hown hg hN hK hP hD (m_isEdge l D cI cJ cZ cO oc am qo F G k) mw_442 mw_443 mw_444 mw_445 mw_348 pdv_X8_isEdge ⟨Nat.le_of_ble_eq_true rfl, Nat.le_of_ble_eq_true rfl⟩ rfl rfl rfl hl.1 rfl (Nat.le_of_ble_eq_true rfl) dX8_edgeTo_2 ⟨Nat.le_of_ble_eq_true rfl, Nat.le_of_ble_eq_true rfl⟩) hD hS hA (fun r_1 u_1 H locs hp hP hD hS => ?_)
  obtain ⟨rfl, q_2, F_3, G_4, rfl⟩ := hp
  refine lv_if_eq (tgt := 17) hx hb dX8_edgeTo_5 (by decide) (fun c_5 => ?_) (fun c_5 => absurd (by decide) c_5)
  refine lv_iconst (v := 0) hx hb dX8_edgeTo_17 (by decide) ?_
  exact W.iret (v := 0) hx hb hr (fun t ht hW => ⟨⟨0, (MW oc am cI cJ cZ cO 1 0 1 0 0 q_2 F_3 G_4), rfl, ⟨rfl, _, _, _, _, _, _, _, rfl⟩, ⟨by rw [ht]; exact hP, va_K.moved hW.alike hK, hD⟩⟩, hS.F ht⟩) hS.2.2 dX8_edgeTo_18
set_option maxHeartbeats 4000000 in
set_option maxRecDepth 100000 in
theorem q_bends (l : Launch) (D : va_G) (cI cJ cZ : ClassId) (cO : ClassId) (oc : Nat × va_E) (am : Nat → Nat) (qo : Nat) (F : Nat → Nat → Int32) (G : Nat → Nat → Int64) (k : Int32) : CT l D (TO cI cJ cZ cO) yX8_bends (.code yX8_bends cX8_bends 2 (some Jvm.ClassFile.FieldType.int)) 5 1 0 (MW oc am cI cJ cZ cO 0 0 0 0 0 qo F G) [.ref (am 1), .int k] (QI D (TO cI cJ cZ cO) (fun r u => r = 0 ∧ ∃ mn' ld' sw' sm' qo' F' G', u = MW oc am cI cJ cZ cO 1 mn' ld' sw' sm' qo' F' G')) := by
  refine ent (by decide) (Nat.le_of_ble_eq_true rfl) ?_
  intro p e s m below meth c ls A hx hb hr hg hown hml hlocks hnm hP hK hD hS hA hN hl
  have hl : lv_has ls 2 [(0, .ref (am 1)), (1, .int k)] := hl
  refine lv_aload_n hx hb dX8_bends_0 rfl (lv_at hl 0 rfl) ?_
  refine lv_iload_n hx hb dX8_bends_1 rfl (lv_at hl 1 rfl) ?_
  refine kI (rV (q0 := 1) (ci := 8) hx hb hml hown hg hN hK hP hD (m_isEdge l D cI cJ cZ cO oc am qo F G k) mw_442 mw_443 mw_444 mw_445 mw_348 pdv_X8_isEdge ⟨Nat.le_of_ble_eq_true rfl, Nat.le_of_ble_eq_true rfl⟩ rfl rfl rfl hl.1 rfl (Nat.le_of_ble_eq_true rfl) dX8_bends_2 ⟨Nat.le_of_ble_eq_true rfl, Nat.le_of_ble_eq_true rfl⟩) hD hS hA (fun r_1 u_1 H locs hp hP hD hS => ?_)
  obtain ⟨rfl, q_2, F_3, G_4, rfl⟩ := hp
  refine lv_if_eq (tgt := 16) hx hb dX8_bends_5 (by decide) (fun c_5 => ?_) (fun c_5 => absurd (by decide) c_5)
  refine lv_iconst (v := 0) hx hb dX8_bends_16 (by decide) ?_
  exact W.iret (v := 0) hx hb hr (fun t ht hW => ⟨⟨0, (MW oc am cI cJ cZ cO 1 0 1 0 0 q_2 F_3 G_4), rfl, ⟨rfl, _, _, _, _, _, _, _, rfl⟩, ⟨by rw [ht]; exact hP, va_K.moved hW.alike hK, hD⟩⟩, hS.F ht⟩) hS.2.2 dX8_bends_17
set_option maxHeartbeats 4000000 in
set_option maxRecDepth 100000 in
theorem q_ruleOf (l : Launch) (D : va_G) (cI cJ cZ : ClassId) (cO : ClassId) (oc : Nat × va_E) (am : Nat → Nat) (qo : Nat) (F : Nat → Nat → Int32) (G : Nat → Nat → Int64) (k : Int32) : CT l D (TO cI cJ cZ cO) yX8_ruleOf (.code yX8_ruleOf cX8_ruleOf 2 (some Jvm.ClassFile.FieldType.int)) 5 1 0 (MW oc am cI cJ cZ cO 0 0 0 0 0 qo F G) [.ref (am 1), .int k] (QI D (TO cI cJ cZ cO) (fun r u => r = 0 ∧ ∃ mn' ld' sw' sm' qo' F' G', u = MW oc am cI cJ cZ cO 1 mn' ld' sw' sm' qo' F' G')) := by
  refine ent (by decide) (Nat.le_of_ble_eq_true rfl) ?_
  intro p e s m below meth c ls A hx hb hr hg hown hml hlocks hnm hP hK hD hS hA hN hl
  have hl : lv_has ls 2 [(0, .ref (am 1)), (1, .int k)] := hl
  refine lv_aload_n hx hb dX8_ruleOf_0 rfl (lv_at hl 0 rfl) ?_
  refine kV (rV (q0 := 1) (ci := 8) hx hb hml hown hg hN hK hP hD (m_lay l D cI cJ cZ cO oc am qo F G) mw_404 mw_405 mw_406 mw_407 mw_348 pdv_X8_lay ⟨Nat.le_of_ble_eq_true rfl, Nat.le_of_ble_eq_true rfl⟩ rfl rfl rfl hl.1 rfl (Nat.le_of_ble_eq_true rfl) dX8_ruleOf_1 ⟨Nat.le_of_ble_eq_true rfl, Nat.le_of_ble_eq_true rfl⟩) hD hS hA (fun u_1 H locs hp hP hD hS => ?_)
  obtain ⟨q_2, F_3, G_4, rfl⟩ := hp
  refine lv_aload_n hx hb dX8_ruleOf_4 rfl (lv_at hl 0 rfl) ?_
  refine lv_iconst (v := 0) hx hb dX8_ruleOf_5 (by decide) ?_
  refine va_put (D := D) (ci := 8) (v := .int 0) (C := RX8) (T := TX8) (N := 32) hx hb hg inGX8 tyX8 tyX8_ok nmX8 hown hK hP hD hS 1 rfl rfl 0 (by decide) (hg _ mw_343) (fun _ h9 => h9) rfl (tyX8_ok 0 (by decide)) rfl rfl (Nat.le_of_ble_eq_true rfl) dX8_ruleOf_6 (fun H locs hP hD hS => ?_)
  have hP : va_P D vwCl (MW oc am cI cJ cZ cO 0 0 1 0 0 q_2 F_3 G_4) H := hP
  have hD : va_D A (MW oc am cI cJ cZ cO 0 0 1 0 0 q_2 F_3 G_4) := hD
  refine lv_iload_n hx hb dX8_ruleOf_9 rfl (lv_at hl 1 rfl) ?_
  refine lv_iconst (v := 0) hx hb dX8_ruleOf_10 (by decide) ?_
  refine lv_aload_n hx hb dX8_ruleOf_11 rfl (lv_at hl 0 rfl) ?_
  refine va_get (D := D) (ci := 8) (v := .int 0) (C := RX8) (T := TX8) (N := 32) hx hb hg inGX8 hown hK hP 1 rfl rfl 21 (by decide) (hg _ mw_364) (fun _ h9 => h9) rfl dX8_ruleOf_12 ?_
  refine lv_iconst (v := 1) hx hb dX8_ruleOf_15 (by decide) ?_
  refine lv_isub hx hb dX8_ruleOf_16 ?_
  refine lv_topi (fun v_5 ev_5 => ?_)
  obtain rfl : v_5 = ((-1) : Int32) := ev_5.trans (by decide)
  refine kI (rS hx hb hml hown hg hN hK hP hD (m_is l D cI cJ cZ cO (MW oc am cI cJ cZ cO 0 0 1 0 0 q_2 F_3 G_4) k 0 (-1)) mw_345 mw_346 mw_347 mw_348 pd_X8_is ⟨Nat.le_of_ble_eq_true rfl, Nat.le_of_ble_eq_true rfl⟩ rfl hl.1 rfl (Nat.le_of_ble_eq_true rfl) dX8_ruleOf_17 ⟨Nat.le_of_ble_eq_true rfl, Nat.le_of_ble_eq_true rfl⟩) hD hS hA (fun r_6 u_6 H locs hp hP hD hS => ?_)
  obtain ⟨hisr_6, rfl⟩ := hp
  obtain rfl : r_6 = 0 := is_m1 hisr_6
  refine lv_if_eq (tgt := 32) hx hb dX8_ruleOf_20 (by decide) (fun c_20 => ?_) (fun c_20 => absurd (by decide) c_20)
  refine lv_aload_n hx hb dX8_ruleOf_32 rfl (lv_at hl 0 rfl) ?_
  refine lv_iconst (v := 1) hx hb dX8_ruleOf_33 (by decide) ?_
  refine kI (rV (q0 := 1) (ci := 8) hx hb hml hown hg hN hK hP hD (m_refuse l D cI cJ cZ cO oc am q_2 F_3 G_4 0 0 1 0 0 1) mw_434 mw_435 mw_436 mw_437 mw_348 pdv_X8_refuse ⟨Nat.le_of_ble_eq_true rfl, Nat.le_of_ble_eq_true rfl⟩ rfl rfl rfl hl.1 rfl (Nat.le_of_ble_eq_true rfl) dX8_ruleOf_34 ⟨Nat.le_of_ble_eq_true rfl, Nat.le_of_ble_eq_true rfl⟩) hD hS hA (fun r_7 u_7 H locs hp hP hD hS => ?_)
  obtain ⟨rfl, rfl⟩ := hp
  exact W.iret (v := 0) hx hb hr (fun t ht hW => ⟨⟨0, (MW oc am cI cJ cZ cO 1 0 1 0 0 q_2 F_3 G_4), rfl, ⟨rfl, _, _, _, _, _, _, _, rfl⟩, ⟨by rw [ht]; exact hP, va_K.moved hW.alike hK, hD⟩⟩, hS.F ht⟩) hS.2.2 dX8_ruleOf_37
set_option maxHeartbeats 4000000 in
set_option maxRecDepth 100000 in
theorem q_nodeOf (l : Launch) (D : va_G) (cI cJ cZ : ClassId) (cO : ClassId) (oc : Nat × va_E) (am : Nat → Nat) (qo : Nat) (F : Nat → Nat → Int32) (G : Nat → Nat → Int64) (k : Int32) : CT l D (TO cI cJ cZ cO) yX8_nodeOf (.code yX8_nodeOf cX8_nodeOf 2 (some Jvm.ClassFile.FieldType.int)) 5 1 0 (MW oc am cI cJ cZ cO 0 0 0 0 0 qo F G) [.ref (am 1), .int k] (QI D (TO cI cJ cZ cO) (fun r u => r = 0 ∧ ∃ mn' ld' sw' sm' qo' F' G', u = MW oc am cI cJ cZ cO 1 mn' ld' sw' sm' qo' F' G')) := by
  refine ent (by decide) (Nat.le_of_ble_eq_true rfl) ?_
  intro p e s m below meth c ls A hx hb hr hg hown hml hlocks hnm hP hK hD hS hA hN hl
  have hl : lv_has ls 2 [(0, .ref (am 1)), (1, .int k)] := hl
  refine lv_aload_n hx hb dX8_nodeOf_0 rfl (lv_at hl 0 rfl) ?_
  refine kV (rV (q0 := 1) (ci := 8) hx hb hml hown hg hN hK hP hD (m_lay l D cI cJ cZ cO oc am qo F G) mw_404 mw_405 mw_406 mw_407 mw_348 pdv_X8_lay ⟨Nat.le_of_ble_eq_true rfl, Nat.le_of_ble_eq_true rfl⟩ rfl rfl rfl hl.1 rfl (Nat.le_of_ble_eq_true rfl) dX8_nodeOf_1 ⟨Nat.le_of_ble_eq_true rfl, Nat.le_of_ble_eq_true rfl⟩) hD hS hA (fun u_1 H locs hp hP hD hS => ?_)
  obtain ⟨q_2, F_3, G_4, rfl⟩ := hp
  refine lv_aload_n hx hb dX8_nodeOf_4 rfl (lv_at hl 0 rfl) ?_
  refine lv_iconst (v := 0) hx hb dX8_nodeOf_5 (by decide) ?_
  refine va_put (D := D) (ci := 8) (v := .int 0) (C := RX8) (T := TX8) (N := 32) hx hb hg inGX8 tyX8 tyX8_ok nmX8 hown hK hP hD hS 1 rfl rfl 0 (by decide) (hg _ mw_343) (fun _ h9 => h9) rfl (tyX8_ok 0 (by decide)) rfl rfl (Nat.le_of_ble_eq_true rfl) dX8_nodeOf_6 (fun H locs hP hD hS => ?_)
  have hP : va_P D vwCl (MW oc am cI cJ cZ cO 0 0 1 0 0 q_2 F_3 G_4) H := hP
  have hD : va_D A (MW oc am cI cJ cZ cO 0 0 1 0 0 q_2 F_3 G_4) := hD
  refine lv_iload_n hx hb dX8_nodeOf_9 rfl (lv_at hl 1 rfl) ?_
  refine lv_iconst (v := 0) hx hb dX8_nodeOf_10 (by decide) ?_
  refine lv_aload_n hx hb dX8_nodeOf_11 rfl (lv_at hl 0 rfl) ?_
  refine va_get (D := D) (ci := 8) (v := .int 0) (C := RX8) (T := TX8) (N := 32) hx hb hg inGX8 hown hK hP 1 rfl rfl 21 (by decide) (hg _ mw_364) (fun _ h9 => h9) rfl dX8_nodeOf_12 ?_
  refine lv_iconst (v := 1) hx hb dX8_nodeOf_15 (by decide) ?_
  refine lv_isub hx hb dX8_nodeOf_16 ?_
  refine lv_topi (fun v_5 ev_5 => ?_)
  obtain rfl : v_5 = ((-1) : Int32) := ev_5.trans (by decide)
  refine kI (rS hx hb hml hown hg hN hK hP hD (m_is l D cI cJ cZ cO (MW oc am cI cJ cZ cO 0 0 1 0 0 q_2 F_3 G_4) k 0 (-1)) mw_345 mw_346 mw_347 mw_348 pd_X8_is ⟨Nat.le_of_ble_eq_true rfl, Nat.le_of_ble_eq_true rfl⟩ rfl hl.1 rfl (Nat.le_of_ble_eq_true rfl) dX8_nodeOf_17 ⟨Nat.le_of_ble_eq_true rfl, Nat.le_of_ble_eq_true rfl⟩) hD hS hA (fun r_6 u_6 H locs hp hP hD hS => ?_)
  obtain ⟨hisr_6, rfl⟩ := hp
  obtain rfl : r_6 = 0 := is_m1 hisr_6
  refine lv_if_eq (tgt := 32) hx hb dX8_nodeOf_20 (by decide) (fun c_20 => ?_) (fun c_20 => absurd (by decide) c_20)
  refine lv_aload_n hx hb dX8_nodeOf_32 rfl (lv_at hl 0 rfl) ?_
  refine lv_iconst (v := 1) hx hb dX8_nodeOf_33 (by decide) ?_
  refine kI (rV (q0 := 1) (ci := 8) hx hb hml hown hg hN hK hP hD (m_refuse l D cI cJ cZ cO oc am q_2 F_3 G_4 0 0 1 0 0 1) mw_434 mw_435 mw_436 mw_437 mw_348 pdv_X8_refuse ⟨Nat.le_of_ble_eq_true rfl, Nat.le_of_ble_eq_true rfl⟩ rfl rfl rfl hl.1 rfl (Nat.le_of_ble_eq_true rfl) dX8_nodeOf_34 ⟨Nat.le_of_ble_eq_true rfl, Nat.le_of_ble_eq_true rfl⟩) hD hS hA (fun r_7 u_7 H locs hp hP hD hS => ?_)
  obtain ⟨rfl, rfl⟩ := hp
  exact W.iret (v := 0) hx hb hr (fun t ht hW => ⟨⟨0, (MW oc am cI cJ cZ cO 1 0 1 0 0 q_2 F_3 G_4), rfl, ⟨rfl, _, _, _, _, _, _, _, rfl⟩, ⟨by rw [ht]; exact hP, va_K.moved hW.alike hK, hD⟩⟩, hS.F ht⟩) hS.2.2 dX8_nodeOf_37
set_option maxHeartbeats 4000000 in
set_option maxRecDepth 100000 in
theorem q_points (l : Launch) (D : va_G) (cI cJ cZ : ClassId) (cO : ClassId) (oc : Nat × va_E) (am : Nat → Nat) (qo : Nat) (F : Nat → Nat → Int32) (G : Nat → Nat → Int64) (k : Int32) : CT l D (TO cI cJ cZ cO) yX8_points (.code yX8_points cX8_points 2 (some Jvm.ClassFile.FieldType.int)) 5 1 0 (MW oc am cI cJ cZ cO 0 0 0 0 0 qo F G) [.ref (am 1), .int k] (QI D (TO cI cJ cZ cO) (fun r u => r = 0 ∧ ∃ mn' ld' sw' sm' qo' F' G', u = MW oc am cI cJ cZ cO 1 mn' ld' sw' sm' qo' F' G')) := by
  refine ent (by decide) (Nat.le_of_ble_eq_true rfl) ?_
  intro p e s m below meth c ls A hx hb hr hg hown hml hlocks hnm hP hK hD hS hA hN hl
  have hl : lv_has ls 2 [(0, .ref (am 1)), (1, .int k)] := hl
  refine lv_aload_n hx hb dX8_points_0 rfl (lv_at hl 0 rfl) ?_
  refine lv_iload_n hx hb dX8_points_1 rfl (lv_at hl 1 rfl) ?_
  refine kI (rV (q0 := 1) (ci := 8) hx hb hml hown hg hN hK hP hD (m_isLayer l D cI cJ cZ cO oc am qo F G k) mw_446 mw_447 mw_448 mw_449 mw_348 pdv_X8_isLayer ⟨Nat.le_of_ble_eq_true rfl, Nat.le_of_ble_eq_true rfl⟩ rfl rfl rfl hl.1 rfl (Nat.le_of_ble_eq_true rfl) dX8_points_2 ⟨Nat.le_of_ble_eq_true rfl, Nat.le_of_ble_eq_true rfl⟩) hD hS hA (fun r_1 u_1 H locs hp hP hD hS => ?_)
  obtain ⟨rfl, q_2, F_3, G_4, rfl⟩ := hp
  refine lv_if_eq (tgt := 18) hx hb dX8_points_5 (by decide) (fun c_5 => ?_) (fun c_5 => absurd (by decide) c_5)
  refine lv_iconst (v := 0) hx hb dX8_points_18 (by decide) ?_
  exact W.iret (v := 0) hx hb hr (fun t ht hW => ⟨⟨0, (MW oc am cI cJ cZ cO 1 0 1 0 0 q_2 F_3 G_4), rfl, ⟨rfl, _, _, _, _, _, _, _, rfl⟩, ⟨by rw [ht]; exact hP, va_K.moved hW.alike hK, hD⟩⟩, hS.F ht⟩) hS.2.2 dX8_points_19
set_option maxHeartbeats 4000000 in
set_option maxRecDepth 100000 in
theorem q_isReached (l : Launch) (D : va_G) (cI cJ cZ : ClassId) (cO : ClassId) (oc : Nat × va_E) (am : Nat → Nat) (qo : Nat) (F : Nat → Nat → Int32) (G : Nat → Nat → Int64) (k : Int32) : CT l D (TO cI cJ cZ cO) yX8_isReached (.code yX8_isReached cX8_isReached 2 (some Jvm.ClassFile.FieldType.boolean)) 5 1 0 (MW oc am cI cJ cZ cO 0 0 0 0 0 qo F G) [.ref (am 1), .int k] (QI D (TO cI cJ cZ cO) (fun r u => r = 0 ∧ ∃ mn' ld' sw' sm' qo' F' G', u = MW oc am cI cJ cZ cO 1 mn' ld' sw' sm' qo' F' G')) := by
  refine ent (by decide) (Nat.le_of_ble_eq_true rfl) ?_
  intro p e s m below meth c ls A hx hb hr hg hown hml hlocks hnm hP hK hD hS hA hN hl
  have hl : lv_has ls 2 [(0, .ref (am 1)), (1, .int k)] := hl
  refine lv_aload_n hx hb dX8_isReached_0 rfl (lv_at hl 0 rfl) ?_
  refine lv_iload_n hx hb dX8_isReached_1 rfl (lv_at hl 1 rfl) ?_
  refine kI (rV (q0 := 1) (ci := 8) hx hb hml hown hg hN hK hP hD (m_isBlock l D cI cJ cZ cO oc am qo F G k) mw_438 mw_439 mw_440 mw_441 mw_348 pdv_X8_isBlock ⟨Nat.le_of_ble_eq_true rfl, Nat.le_of_ble_eq_true rfl⟩ rfl rfl rfl hl.1 rfl (Nat.le_of_ble_eq_true rfl) dX8_isReached_2 ⟨Nat.le_of_ble_eq_true rfl, Nat.le_of_ble_eq_true rfl⟩) hD hS hA (fun r_1 u_1 H locs hp hP hD hS => ?_)
  obtain ⟨rfl, q_2, F_3, G_4, rfl⟩ := hp
  refine lv_if_eq (tgt := 20) hx hb dX8_isReached_5 (by decide) (fun c_5 => ?_) (fun c_5 => absurd (by decide) c_5)
  refine lv_iconst (v := 0) hx hb dX8_isReached_20 (by decide) ?_
  exact W.zret (v := 0) hx hb hr rfl (fun t ht hW => ⟨⟨0, (MW oc am cI cJ cZ cO 1 0 1 0 0 q_2 F_3 G_4), rfl, ⟨rfl, _, _, _, _, _, _, _, rfl⟩, ⟨by rw [ht]; exact hP, va_K.moved hW.alike hK, hD⟩⟩, hS.F ht⟩) hS.2.2 dX8_isReached_21
set_option maxHeartbeats 4000000 in
set_option maxRecDepth 100000 in
theorem q_isBack (l : Launch) (D : va_G) (cI cJ cZ : ClassId) (cO : ClassId) (oc : Nat × va_E) (am : Nat → Nat) (qo : Nat) (F : Nat → Nat → Int32) (G : Nat → Nat → Int64) (k : Int32) : CT l D (TO cI cJ cZ cO) yX8_isBack (.code yX8_isBack cX8_isBack 2 (some Jvm.ClassFile.FieldType.boolean)) 5 1 0 (MW oc am cI cJ cZ cO 0 0 0 0 0 qo F G) [.ref (am 1), .int k] (QI D (TO cI cJ cZ cO) (fun r u => r = 0 ∧ ∃ mn' ld' sw' sm' qo' F' G', u = MW oc am cI cJ cZ cO 1 mn' ld' sw' sm' qo' F' G')) := by
  refine ent (by decide) (Nat.le_of_ble_eq_true rfl) ?_
  intro p e s m below meth c ls A hx hb hr hg hown hml hlocks hnm hP hK hD hS hA hN hl
  have hl : lv_has ls 2 [(0, .ref (am 1)), (1, .int k)] := hl
  refine lv_aload_n hx hb dX8_isBack_0 rfl (lv_at hl 0 rfl) ?_
  refine lv_iload_n hx hb dX8_isBack_1 rfl (lv_at hl 1 rfl) ?_
  refine kI (rV (q0 := 1) (ci := 8) hx hb hml hown hg hN hK hP hD (m_isEdge l D cI cJ cZ cO oc am qo F G k) mw_442 mw_443 mw_444 mw_445 mw_348 pdv_X8_isEdge ⟨Nat.le_of_ble_eq_true rfl, Nat.le_of_ble_eq_true rfl⟩ rfl rfl rfl hl.1 rfl (Nat.le_of_ble_eq_true rfl) dX8_isBack_2 ⟨Nat.le_of_ble_eq_true rfl, Nat.le_of_ble_eq_true rfl⟩) hD hS hA (fun r_1 u_1 H locs hp hP hD hS => ?_)
  obtain ⟨rfl, q_2, F_3, G_4, rfl⟩ := hp
  refine lv_if_eq (tgt := 20) hx hb dX8_isBack_5 (by decide) (fun c_5 => ?_) (fun c_5 => absurd (by decide) c_5)
  refine lv_iconst (v := 0) hx hb dX8_isBack_20 (by decide) ?_
  exact W.zret (v := 0) hx hb hr rfl (fun t ht hW => ⟨⟨0, (MW oc am cI cJ cZ cO 1 0 1 0 0 q_2 F_3 G_4), rfl, ⟨rfl, _, _, _, _, _, _, _, rfl⟩, ⟨by rw [ht]; exact hP, va_K.moved hW.alike hK, hD⟩⟩, hS.F ht⟩) hS.2.2 dX8_isBack_21
set_option maxHeartbeats 4000000 in
set_option maxRecDepth 100000 in
theorem q_isTurned (l : Launch) (D : va_G) (cI cJ cZ : ClassId) (cO : ClassId) (oc : Nat × va_E) (am : Nat → Nat) (qo : Nat) (F : Nat → Nat → Int32) (G : Nat → Nat → Int64) (k : Int32) : CT l D (TO cI cJ cZ cO) yX8_isTurned (.code yX8_isTurned cX8_isTurned 2 (some Jvm.ClassFile.FieldType.boolean)) 5 1 0 (MW oc am cI cJ cZ cO 0 0 0 0 0 qo F G) [.ref (am 1), .int k] (QI D (TO cI cJ cZ cO) (fun r u => r = 0 ∧ ∃ mn' ld' sw' sm' qo' F' G', u = MW oc am cI cJ cZ cO 1 mn' ld' sw' sm' qo' F' G')) := by
  refine ent (by decide) (Nat.le_of_ble_eq_true rfl) ?_
  intro p e s m below meth c ls A hx hb hr hg hown hml hlocks hnm hP hK hD hS hA hN hl
  have hl : lv_has ls 2 [(0, .ref (am 1)), (1, .int k)] := hl
  refine lv_aload_n hx hb dX8_isTurned_0 rfl (lv_at hl 0 rfl) ?_
  refine lv_iload_n hx hb dX8_isTurned_1 rfl (lv_at hl 1 rfl) ?_
  refine kI (rV (q0 := 1) (ci := 8) hx hb hml hown hg hN hK hP hD (m_isEdge l D cI cJ cZ cO oc am qo F G k) mw_442 mw_443 mw_444 mw_445 mw_348 pdv_X8_isEdge ⟨Nat.le_of_ble_eq_true rfl, Nat.le_of_ble_eq_true rfl⟩ rfl rfl rfl hl.1 rfl (Nat.le_of_ble_eq_true rfl) dX8_isTurned_2 ⟨Nat.le_of_ble_eq_true rfl, Nat.le_of_ble_eq_true rfl⟩) hD hS hA (fun r_1 u_1 H locs hp hP hD hS => ?_)
  obtain ⟨rfl, q_2, F_3, G_4, rfl⟩ := hp
  refine lv_if_eq (tgt := 29) hx hb dX8_isTurned_5 (by decide) (fun c_5 => ?_) (fun c_5 => absurd (by decide) c_5)
  refine lv_iconst (v := 0) hx hb dX8_isTurned_29 (by decide) ?_
  exact W.zret (v := 0) hx hb hr rfl (fun t ht hW => ⟨⟨0, (MW oc am cI cJ cZ cO 1 0 1 0 0 q_2 F_3 G_4), rfl, ⟨rfl, _, _, _, _, _, _, _, rfl⟩, ⟨by rw [ht]; exact hP, va_K.moved hW.alike hK, hD⟩⟩, hS.F ht⟩) hS.2.2 dX8_isTurned_30
set_option maxHeartbeats 4000000 in
set_option maxRecDepth 100000 in
theorem q_setTarget (l : Launch) (D : va_G) (cI cJ cZ : ClassId) (cO : ClassId) (oc : Nat × va_E) (am : Nat → Nat) (qo : Nat) (F : Nat → Nat → Int32) (G : Nat → Nat → Int64) (k : Int32) (k2 : Int32) : CT l D (TO cI cJ cZ cO) yX8_setTarget (.code yX8_setTarget cX8_setTarget 4 (some Jvm.ClassFile.FieldType.int)) 5 0 0 (MW oc am cI cJ cZ cO 0 0 0 0 0 qo F G) [.ref (am 1), .int k, .int k2] (QI D (TO cI cJ cZ cO) (fun r u => r = 0 ∧ ∃ mn' ld' sw' sm' qo' F' G', u = MW oc am cI cJ cZ cO 1 mn' ld' sw' sm' qo' F' G')) := by
  refine ent (by decide) (Nat.le_of_ble_eq_true rfl) ?_
  intro p e s m below meth c ls A hx hb hr hg hown hml hlocks hnm hP hK hD hS hA hN hl
  have hl : lv_has ls 4 [(0, .ref (am 1)), (1, .int k), (2, .int k2)] := hl
  refine lv_aload_n hx hb dX8_setTarget_0 rfl (lv_at hl 0 rfl) ?_
  refine lv_iconst (v := 0) hx hb dX8_setTarget_1 (by decide) ?_
  refine va_put (D := D) (ci := 8) (v := .int 0) (C := RX8) (T := TX8) (N := 32) hx hb hg inGX8 tyX8 tyX8_ok nmX8 hown hK hP hD hS 1 rfl rfl 0 (by decide) (hg _ mw_343) (fun _ h9 => h9) rfl (tyX8_ok 0 (by decide)) rfl rfl (Nat.le_of_ble_eq_true rfl) dX8_setTarget_2 (fun H locs hP hD hS => ?_)
  have hP : va_P D vwCl (MW oc am cI cJ cZ cO 0 0 0 0 0 qo F G) H := hP
  have hD : va_D A (MW oc am cI cJ cZ cO 0 0 0 0 0 qo F G) := hD
  refine lv_aload_n hx hb dX8_setTarget_5 rfl (lv_at hl 0 rfl) ?_
  refine lv_iload_n hx hb dX8_setTarget_6 rfl (lv_at hl 1 rfl) ?_
  refine kI (rV (q0 := 1) (ci := 8) hx hb hml hown hg hN hK hP hD (m_isInstruction l D cI cJ cZ cO oc am qo F G 0 k) mw_430 mw_431 mw_432 mw_433 mw_348 pdv_X8_isInstruction ⟨Nat.le_of_ble_eq_true rfl, Nat.le_of_ble_eq_true rfl⟩ rfl rfl rfl hl.1 rfl (Nat.le_of_ble_eq_true rfl) dX8_setTarget_7 ⟨Nat.le_of_ble_eq_true rfl, Nat.le_of_ble_eq_true rfl⟩) hD hS hA (fun r_1 u_1 H locs hp hP hD hS => ?_)
  obtain ⟨rfl, rfl⟩ := hp
  refine lv_if_ne (tgt := 19) hx hb dX8_setTarget_10 (by decide) (fun c_10 => absurd (by decide) c_10) (fun c_10 => ?_)
  refine lv_aload_n hx hb dX8_setTarget_13 rfl (lv_at hl 0 rfl) ?_
  refine lv_iconst (v := 1) hx hb dX8_setTarget_14 (by decide) ?_
  refine kI (rV (q0 := 1) (ci := 8) hx hb hml hown hg hN hK hP hD (m_refuse l D cI cJ cZ cO oc am qo F G 0 0 0 0 0 1) mw_434 mw_435 mw_436 mw_437 mw_348 pdv_X8_refuse ⟨Nat.le_of_ble_eq_true rfl, Nat.le_of_ble_eq_true rfl⟩ rfl rfl rfl hl.1 rfl (Nat.le_of_ble_eq_true rfl) dX8_setTarget_15 ⟨Nat.le_of_ble_eq_true rfl, Nat.le_of_ble_eq_true rfl⟩) hD hS hA (fun r_2 u_2 H locs hp hP hD hS => ?_)
  obtain ⟨rfl, rfl⟩ := hp
  exact W.iret (v := 0) hx hb hr (fun t ht hW => ⟨⟨0, (MW oc am cI cJ cZ cO 1 0 0 0 0 qo F G), rfl, ⟨rfl, _, _, _, _, _, _, _, rfl⟩, ⟨by rw [ht]; exact hP, va_K.moved hW.alike hK, hD⟩⟩, hS.F ht⟩) hS.2.2 dX8_setTarget_18
set_option maxHeartbeats 4000000 in
set_option maxRecDepth 100000 in
theorem q_bendAt (l : Launch) (D : va_G) (cI cJ cZ : ClassId) (cO : ClassId) (oc : Nat × va_E) (am : Nat → Nat) (qo : Nat) (F : Nat → Nat → Int32) (G : Nat → Nat → Int64) (k : Int32) (k2 : Int32) : CT l D (TO cI cJ cZ cO) yX8_bendAt (.code yX8_bendAt cX8_bendAt 3 (some Jvm.ClassFile.FieldType.int)) 5 1 0 (MW oc am cI cJ cZ cO 0 0 0 0 0 qo F G) [.ref (am 1), .int k, .int k2] (QI D (TO cI cJ cZ cO) (fun r u => r = 0 ∧ ∃ mn' ld' sw' sm' qo' F' G', u = MW oc am cI cJ cZ cO 1 mn' ld' sw' sm' qo' F' G')) := by
  refine ent (by decide) (Nat.le_of_ble_eq_true rfl) ?_
  intro p e s m below meth c ls A hx hb hr hg hown hml hlocks hnm hP hK hD hS hA hN hl
  have hl : lv_has ls 3 [(0, .ref (am 1)), (1, .int k), (2, .int k2)] := hl
  refine lv_aload_n hx hb dX8_bendAt_0 rfl (lv_at hl 0 rfl) ?_
  refine lv_iload_n hx hb dX8_bendAt_1 rfl (lv_at hl 1 rfl) ?_
  refine kI (rV (q0 := 1) (ci := 8) hx hb hml hown hg hN hK hP hD (m_isEdge l D cI cJ cZ cO oc am qo F G k) mw_442 mw_443 mw_444 mw_445 mw_348 pdv_X8_isEdge ⟨Nat.le_of_ble_eq_true rfl, Nat.le_of_ble_eq_true rfl⟩ rfl rfl rfl hl.1 rfl (Nat.le_of_ble_eq_true rfl) dX8_bendAt_2 ⟨Nat.le_of_ble_eq_true rfl, Nat.le_of_ble_eq_true rfl⟩) hD hS hA (fun r_1 u_1 H locs hp hP hD hS => ?_)
  obtain ⟨rfl, q_2, F_3, G_4, rfl⟩ := hp
  refine lv_if_ne (tgt := 10) hx hb dX8_bendAt_5 (by decide) (fun c_5 => absurd (by decide) c_5) (fun c_5 => ?_)
  refine lv_iconst (v := 0) hx hb dX8_bendAt_8 (by decide) ?_
  exact W.iret (v := 0) hx hb hr (fun t ht hW => ⟨⟨0, (MW oc am cI cJ cZ cO 1 0 1 0 0 q_2 F_3 G_4), rfl, ⟨rfl, _, _, _, _, _, _, _, rfl⟩, ⟨by rw [ht]; exact hP, va_K.moved hW.alike hK, hD⟩⟩, hS.F ht⟩) hS.2.2 dX8_bendAt_9
set_option maxHeartbeats 4000000 in
set_option maxRecDepth 100000 in
theorem q_pointAt (l : Launch) (D : va_G) (cI cJ cZ : ClassId) (cO : ClassId) (oc : Nat × va_E) (am : Nat → Nat) (qo : Nat) (F : Nat → Nat → Int32) (G : Nat → Nat → Int64) (k : Int32) (k2 : Int32) : CT l D (TO cI cJ cZ cO) yX8_pointAt (.code yX8_pointAt cX8_pointAt 3 (some Jvm.ClassFile.FieldType.int)) 5 1 0 (MW oc am cI cJ cZ cO 0 0 0 0 0 qo F G) [.ref (am 1), .int k, .int k2] (QI D (TO cI cJ cZ cO) (fun r u => r = 0 ∧ ∃ mn' ld' sw' sm' qo' F' G', u = MW oc am cI cJ cZ cO 1 mn' ld' sw' sm' qo' F' G')) := by
  refine ent (by decide) (Nat.le_of_ble_eq_true rfl) ?_
  intro p e s m below meth c ls A hx hb hr hg hown hml hlocks hnm hP hK hD hS hA hN hl
  have hl : lv_has ls 3 [(0, .ref (am 1)), (1, .int k), (2, .int k2)] := hl
  refine lv_aload_n hx hb dX8_pointAt_0 rfl (lv_at hl 0 rfl) ?_
  refine lv_iload_n hx hb dX8_pointAt_1 rfl (lv_at hl 1 rfl) ?_
  refine kI (rV (q0 := 1) (ci := 8) hx hb hml hown hg hN hK hP hD (m_isLayer l D cI cJ cZ cO oc am qo F G k) mw_446 mw_447 mw_448 mw_449 mw_348 pdv_X8_isLayer ⟨Nat.le_of_ble_eq_true rfl, Nat.le_of_ble_eq_true rfl⟩ rfl rfl rfl hl.1 rfl (Nat.le_of_ble_eq_true rfl) dX8_pointAt_2 ⟨Nat.le_of_ble_eq_true rfl, Nat.le_of_ble_eq_true rfl⟩) hD hS hA (fun r_1 u_1 H locs hp hP hD hS => ?_)
  obtain ⟨rfl, q_2, F_3, G_4, rfl⟩ := hp
  refine lv_if_ne (tgt := 10) hx hb dX8_pointAt_5 (by decide) (fun c_5 => absurd (by decide) c_5) (fun c_5 => ?_)
  refine lv_iconst (v := 0) hx hb dX8_pointAt_8 (by decide) ?_
  exact W.iret (v := 0) hx hb hr (fun t ht hW => ⟨⟨0, (MW oc am cI cJ cZ cO 1 0 1 0 0 q_2 F_3 G_4), rfl, ⟨rfl, _, _, _, _, _, _, _, rfl⟩, ⟨by rw [ht]; exact hP, va_K.moved hW.alike hK, hD⟩⟩, hS.F ht⟩) hS.2.2 dX8_pointAt_9
set_option maxHeartbeats 4000000 in
set_option maxRecDepth 100000 in
theorem q_dominates (l : Launch) (D : va_G) (cI cJ cZ : ClassId) (cO : ClassId) (oc : Nat × va_E) (am : Nat → Nat) (qo : Nat) (F : Nat → Nat → Int32) (G : Nat → Nat → Int64) (k : Int32) (k2 : Int32) : CT l D (TO cI cJ cZ cO) yX8_dominates (.code yX8_dominates cX8_dominates 3 (some Jvm.ClassFile.FieldType.boolean)) 5 1 0 (MW oc am cI cJ cZ cO 0 0 0 0 0 qo F G) [.ref (am 1), .int k, .int k2] (QI D (TO cI cJ cZ cO) (fun r u => r = 0 ∧ ∃ mn' ld' sw' sm' qo' F' G', u = MW oc am cI cJ cZ cO 1 mn' ld' sw' sm' qo' F' G')) := by
  refine ent (by decide) (Nat.le_of_ble_eq_true rfl) ?_
  intro p e s m below meth c ls A hx hb hr hg hown hml hlocks hnm hP hK hD hS hA hN hl
  have hl : lv_has ls 3 [(0, .ref (am 1)), (1, .int k), (2, .int k2)] := hl
  refine lv_aload_n hx hb dX8_dominates_0 rfl (lv_at hl 0 rfl) ?_
  refine lv_iload_n hx hb dX8_dominates_1 rfl (lv_at hl 1 rfl) ?_
  refine kI (rV (q0 := 1) (ci := 8) hx hb hml hown hg hN hK hP hD (m_isBlock l D cI cJ cZ cO oc am qo F G k) mw_438 mw_439 mw_440 mw_441 mw_348 pdv_X8_isBlock ⟨Nat.le_of_ble_eq_true rfl, Nat.le_of_ble_eq_true rfl⟩ rfl rfl rfl hl.1 rfl (Nat.le_of_ble_eq_true rfl) dX8_dominates_2 ⟨Nat.le_of_ble_eq_true rfl, Nat.le_of_ble_eq_true rfl⟩) hD hS hA (fun r_1 u_1 H locs hp hP hD hS => ?_)
  obtain ⟨rfl, q_2, F_3, G_4, rfl⟩ := hp
  refine lv_if_eq (tgt := 29) hx hb dX8_dominates_5 (by decide) (fun c_5 => ?_) (fun c_5 => absurd (by decide) c_5)
  refine lv_iconst (v := 0) hx hb dX8_dominates_29 (by decide) ?_
  exact W.zret (v := 0) hx hb hr rfl (fun t ht hW => ⟨⟨0, (MW oc am cI cJ cZ cO 1 0 1 0 0 q_2 F_3 G_4), rfl, ⟨rfl, _, _, _, _, _, _, _, rfl⟩, ⟨by rw [ht]; exact hP, va_K.moved hW.alike hK, hD⟩⟩, hS.F ht⟩) hS.2.2 dX8_dominates_30
set_option maxHeartbeats 4000000 in
set_option maxRecDepth 100000 in
theorem q_comesBehind (l : Launch) (D : va_G) (cI cJ cZ : ClassId) (cO : ClassId) (oc : Nat × va_E) (am : Nat → Nat) (qo : Nat) (F : Nat → Nat → Int32) (G : Nat → Nat → Int64) (k : Int32) (k2 : Int32) : CT l D (TO cI cJ cZ cO) yX8_comesBehind (.code yX8_comesBehind cX8_comesBehind 3 (some Jvm.ClassFile.FieldType.boolean)) 5 1 0 (MW oc am cI cJ cZ cO 0 0 0 0 0 qo F G) [.ref (am 1), .int k, .int k2] (QI D (TO cI cJ cZ cO) (fun r u => r = 0 ∧ ∃ mn' ld' sw' sm' qo' F' G', u = MW oc am cI cJ cZ cO 1 mn' ld' sw' sm' qo' F' G')) := by
  refine ent (by decide) (Nat.le_of_ble_eq_true rfl) ?_
  intro p e s m below meth c ls A hx hb hr hg hown hml hlocks hnm hP hK hD hS hA hN hl
  have hl : lv_has ls 3 [(0, .ref (am 1)), (1, .int k), (2, .int k2)] := hl
  refine lv_aload_n hx hb dX8_comesBehind_0 rfl (lv_at hl 0 rfl) ?_
  refine lv_iload_n hx hb dX8_comesBehind_1 rfl (lv_at hl 1 rfl) ?_
  refine kI (rV (q0 := 1) (ci := 8) hx hb hml hown hg hN hK hP hD (m_isBlock l D cI cJ cZ cO oc am qo F G k) mw_438 mw_439 mw_440 mw_441 mw_348 pdv_X8_isBlock ⟨Nat.le_of_ble_eq_true rfl, Nat.le_of_ble_eq_true rfl⟩ rfl rfl rfl hl.1 rfl (Nat.le_of_ble_eq_true rfl) dX8_comesBehind_2 ⟨Nat.le_of_ble_eq_true rfl, Nat.le_of_ble_eq_true rfl⟩) hD hS hA (fun r_1 u_1 H locs hp hP hD hS => ?_)
  obtain ⟨rfl, q_2, F_3, G_4, rfl⟩ := hp
  refine lv_if_eq (tgt := 32) hx hb dX8_comesBehind_5 (by decide) (fun c_5 => ?_) (fun c_5 => absurd (by decide) c_5)
  refine lv_iconst (v := 0) hx hb dX8_comesBehind_32 (by decide) ?_
  exact W.zret (v := 0) hx hb hr rfl (fun t ht hW => ⟨⟨0, (MW oc am cI cJ cZ cO 1 0 1 0 0 q_2 F_3 G_4), rfl, ⟨rfl, _, _, _, _, _, _, _, rfl⟩, ⟨by rw [ht]; exact hP, va_K.moved hW.alike hK, hD⟩⟩, hS.F ht⟩) hS.2.2 dX8_comesBehind_33
set_option maxHeartbeats 4000000 in
set_option maxRecDepth 100000 in
theorem q_setUse (l : Launch) (D : va_G) (cI cJ cZ : ClassId) (cO : ClassId) (oc : Nat × va_E) (am : Nat → Nat) (qo : Nat) (F : Nat → Nat → Int32) (G : Nat → Nat → Int64) (k : Int32) (k2 : Int32) (k3 : Int32) : CT l D (TO cI cJ cZ cO) yX8_setUse (.code yX8_setUse cX8_setUse 5 (some Jvm.ClassFile.FieldType.int)) 5 0 0 (MW oc am cI cJ cZ cO 0 0 0 0 0 qo F G) [.ref (am 1), .int k, .int k2, .int k3] (QI D (TO cI cJ cZ cO) (fun r u => r = 0 ∧ ∃ mn' ld' sw' sm' qo' F' G', u = MW oc am cI cJ cZ cO 1 mn' ld' sw' sm' qo' F' G')) := by
  refine ent (by decide) (Nat.le_of_ble_eq_true rfl) ?_
  intro p e s m below meth c ls A hx hb hr hg hown hml hlocks hnm hP hK hD hS hA hN hl
  have hl : lv_has ls 5 [(0, .ref (am 1)), (1, .int k), (2, .int k2), (3, .int k3)] := hl
  refine lv_aload_n hx hb dX8_setUse_0 rfl (lv_at hl 0 rfl) ?_
  refine lv_iconst (v := 0) hx hb dX8_setUse_1 (by decide) ?_
  refine va_put (D := D) (ci := 8) (v := .int 0) (C := RX8) (T := TX8) (N := 32) hx hb hg inGX8 tyX8 tyX8_ok nmX8 hown hK hP hD hS 1 rfl rfl 0 (by decide) (hg _ mw_343) (fun _ h9 => h9) rfl (tyX8_ok 0 (by decide)) rfl rfl (Nat.le_of_ble_eq_true rfl) dX8_setUse_2 (fun H locs hP hD hS => ?_)
  have hP : va_P D vwCl (MW oc am cI cJ cZ cO 0 0 0 0 0 qo F G) H := hP
  have hD : va_D A (MW oc am cI cJ cZ cO 0 0 0 0 0 qo F G) := hD
  refine lv_aload_n hx hb dX8_setUse_5 rfl (lv_at hl 0 rfl) ?_
  refine lv_iload_n hx hb dX8_setUse_6 rfl (lv_at hl 1 rfl) ?_
  refine kI (rV (q0 := 1) (ci := 8) hx hb hml hown hg hN hK hP hD (m_isInstruction l D cI cJ cZ cO oc am qo F G 0 k) mw_430 mw_431 mw_432 mw_433 mw_348 pdv_X8_isInstruction ⟨Nat.le_of_ble_eq_true rfl, Nat.le_of_ble_eq_true rfl⟩ rfl rfl rfl hl.1 rfl (Nat.le_of_ble_eq_true rfl) dX8_setUse_7 ⟨Nat.le_of_ble_eq_true rfl, Nat.le_of_ble_eq_true rfl⟩) hD hS hA (fun r_1 u_1 H locs hp hP hD hS => ?_)
  obtain ⟨rfl, rfl⟩ := hp
  refine lv_if_ne (tgt := 19) hx hb dX8_setUse_10 (by decide) (fun c_10 => absurd (by decide) c_10) (fun c_10 => ?_)
  refine lv_aload_n hx hb dX8_setUse_13 rfl (lv_at hl 0 rfl) ?_
  refine lv_iconst (v := 1) hx hb dX8_setUse_14 (by decide) ?_
  refine kI (rV (q0 := 1) (ci := 8) hx hb hml hown hg hN hK hP hD (m_refuse l D cI cJ cZ cO oc am qo F G 0 0 0 0 0 1) mw_434 mw_435 mw_436 mw_437 mw_348 pdv_X8_refuse ⟨Nat.le_of_ble_eq_true rfl, Nat.le_of_ble_eq_true rfl⟩ rfl rfl rfl hl.1 rfl (Nat.le_of_ble_eq_true rfl) dX8_setUse_15 ⟨Nat.le_of_ble_eq_true rfl, Nat.le_of_ble_eq_true rfl⟩) hD hS hA (fun r_2 u_2 H locs hp hP hD hS => ?_)
  obtain ⟨rfl, rfl⟩ := hp
  exact W.iret (v := 0) hx hb hr (fun t ht hW => ⟨⟨0, (MW oc am cI cJ cZ cO 1 0 0 0 0 qo F G), rfl, ⟨rfl, _, _, _, _, _, _, _, rfl⟩, ⟨by rw [ht]; exact hP, va_K.moved hW.alike hK, hD⟩⟩, hS.F ht⟩) hS.2.2 dX8_setUse_18
