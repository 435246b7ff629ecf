theorem dX7_instructions_0 : decode cX7_instructions 0 = .ok (.aload_n 0, 1) := by decide +kernel
theorem dX7_instructions_1 : decode cX7_instructions 1 = .ok (.getfield 10, 3) := by decide +kernel
theorem dX7_instructions_4 : decode cX7_instructions 4 = .ok (.getfield 51, 3) := by decide +kernel
theorem dX7_instructions_7 : decode cX7_instructions 7 = .ok (.ireturn, 1) := by decide +kernel
theorem dX7_blocks_0 : decode cX7_blocks 0 = .ok (.aload_n 0, 1) := by decide +kernel
theorem dX7_blocks_1 : decode cX7_blocks 1 = .ok (.invokevirtual 123, 3) := by decide +kernel
theorem dX7_blocks_4 : decode cX7_blocks 4 = .ok (.getfield 127, 3) := by decide +kernel
theorem dX7_blocks_7 : decode cX7_blocks 7 = .ok (.ireturn, 1) := by decide +kernel
theorem dX7_edges_0 : decode cX7_edges 0 = .ok (.aload_n 0, 1) := by decide +kernel
theorem dX7_edges_1 : decode cX7_edges 1 = .ok (.invokevirtual 123, 3) := by decide +kernel
theorem dX7_edges_4 : decode cX7_edges 4 = .ok (.getfield 147, 3) := by decide +kernel
theorem dX7_edges_7 : decode cX7_edges 7 = .ok (.ireturn, 1) := by decide +kernel
theorem dX7_loops_0 : decode cX7_loops 0 = .ok (.aload_n 0, 1) := by decide +kernel
theorem dX7_loops_1 : decode cX7_loops 1 = .ok (.invokevirtual 159, 3) := by decide +kernel
theorem dX7_loops_4 : decode cX7_loops 4 = .ok (.getfield 178, 3) := by decide +kernel
theorem dX7_loops_7 : decode cX7_loops 7 = .ok (.ireturn, 1) := by decide +kernel
theorem dX7_vain_0 : decode cX7_vain 0 = .ok (.aload_n 0, 1) := by decide +kernel
theorem dX7_vain_1 : decode cX7_vain 1 = .ok (.invokevirtual 200, 3) := by decide +kernel
theorem dX7_vain_4 : decode cX7_vain 4 = .ok (.getfield 207, 3) := by decide +kernel
theorem dX7_vain_7 : decode cX7_vain 7 = .ok (.ireturn, 1) := by decide +kernel
theorem dX7_windings_0 : decode cX7_windings 0 = .ok (.aload_n 0, 1) := by decide +kernel
theorem dX7_windings_1 : decode cX7_windings 1 = .ok (.invokevirtual 123, 3) := by decide +kernel
theorem dX7_windings_4 : decode cX7_windings 4 = .ok (.invokevirtual 210, 3) := by decide +kernel
theorem dX7_windings_7 : decode cX7_windings 7 = .ok (.ireturn, 1) := by decide +kernel
theorem dX7_steps_0 : decode cX7_steps 0 = .ok (.aload_n 0, 1) := by decide +kernel
theorem dX7_steps_1 : decode cX7_steps 1 = .ok (.invokevirtual 214, 3) := by decide +kernel
theorem dX7_steps_4 : decode cX7_steps 4 = .ok (.getfield 218, 3) := by decide +kernel
theorem dX7_steps_7 : decode cX7_steps 7 = .ok (.ireturn, 1) := by decide +kernel
theorem dX7_left_0 : decode cX7_left 0 = .ok (.aload_n 0, 1) := by decide +kernel
theorem dX7_left_1 : decode cX7_left 1 = .ok (.invokevirtual 214, 3) := by decide +kernel
theorem dX7_left_4 : decode cX7_left 4 = .ok (.getfield 230, 3) := by decide +kernel
theorem dX7_left_7 : decode cX7_left 7 = .ok (.invokestatic 188, 3) := by decide +kernel
theorem dX7_left_10 : decode cX7_left 10 = .ok (.ireturn, 1) := by decide +kernel
theorem dX7_layers_0 : decode cX7_layers 0 = .ok (.aload_n 0, 1) := by decide +kernel
theorem dX7_layers_1 : decode cX7_layers 1 = .ok (.invokevirtual 234, 3) := by decide +kernel
theorem dX7_layers_4 : decode cX7_layers 4 = .ok (.getfield 238, 3) := by decide +kernel
theorem dX7_layers_7 : decode cX7_layers 7 = .ok (.ireturn, 1) := by decide +kernel
theorem dX7_crossings_0 : decode cX7_crossings 0 = .ok (.aload_n 0, 1) := by decide +kernel
theorem dX7_crossings_1 : decode cX7_crossings 1 = .ok (.invokevirtual 234, 3) := by decide +kernel
theorem dX7_crossings_4 : decode cX7_crossings 4 = .ok (.invokevirtual 277, 3) := by decide +kernel
theorem dX7_crossings_7 : decode cX7_crossings 7 = .ok (.ireturn, 1) := by decide +kernel
theorem dX7_isTame_0 : decode cX7_isTame 0 = .ok (.aload_n 0, 1) := by decide +kernel
theorem dX7_isTame_1 : decode cX7_isTame 1 = .ok (.invokevirtual 159, 3) := by decide +kernel
theorem dX7_isTame_4 : decode cX7_isTame 4 = .ok (.getfield 197, 3) := by decide +kernel
theorem dX7_isTame_7 : decode cX7_isTame 7 = .ok (.ireturn, 1) := by decide +kernel
theorem dX7_isNeat_0 : decode cX7_isNeat 0 = .ok (.aload_n 0, 1) := by decide +kernel
theorem dX7_isNeat_1 : decode cX7_isNeat 1 = .ok (.invokevirtual 214, 3) := by decide +kernel
theorem dX7_isNeat_4 : decode cX7_isNeat 4 = .ok (.getfield 230, 3) := by decide +kernel
theorem dX7_isNeat_7 : decode cX7_isNeat 7 = .ok (.invokestatic 188, 3) := by decide +kernel
theorem dX7_isNeat_10 : decode cX7_isNeat 10 = .ok (.iconst 1, 1) := by decide +kernel
theorem dX7_isNeat_11 : decode cX7_isNeat 11 = .ok (.if_icmp .ne 7, 3) := by decide +kernel
theorem dX7_isNeat_18 : decode cX7_isNeat 18 = .ok (.iconst 0, 1) := by decide +kernel
theorem dX7_isNeat_19 : decode cX7_isNeat 19 = .ok (.ireturn, 1) := by decide +kernel
theorem dX7_swept_0 : decode cX7_swept 0 = .ok (.aload_n 0, 1) := by decide +kernel
theorem dX7_swept_1 : decode cX7_swept 1 = .ok (.invokevirtual 234, 3) := by decide +kernel
theorem dX7_swept_4 : decode cX7_swept 4 = .ok (.getfield 289, 3) := by decide +kernel
theorem dX7_swept_7 : decode cX7_swept 7 = .ok (.ireturn, 1) := by decide +kernel
theorem dX7_meanLength_0 : decode cX7_meanLength 0 = .ok (.aload_n 0, 1) := by decide +kernel
theorem dX7_meanLength_1 : decode cX7_meanLength 1 = .ok (.invokevirtual 234, 3) := by decide +kernel
theorem dX7_meanLength_4 : decode cX7_meanLength 4 = .ok (.invokevirtual 292, 3) := by decide +kernel
theorem dX7_meanLength_7 : decode cX7_meanLength 7 = .ok (.dreturn, 1) := by decide +kernel
theorem dX7_digest_0 : decode cX7_digest 0 = .ok (.aload_n 0, 1) := by decide +kernel
theorem dX7_digest_1 : decode cX7_digest 1 = .ok (.invokevirtual 159, 3) := by decide +kernel
theorem dX7_digest_4 : decode cX7_digest 4 = .ok (.pop, 1) := by decide +kernel
theorem dX7_digest_5 : decode cX7_digest 5 = .ok (.aload_n 0, 1) := by decide +kernel
theorem dX7_digest_6 : decode cX7_digest 6 = .ok (.invokevirtual 200, 3) := by decide +kernel
theorem dX7_digest_9 : decode cX7_digest 9 = .ok (.pop, 1) := by decide +kernel
theorem dX7_digest_10 : decode cX7_digest 10 = .ok (.aload_n 0, 1) := by decide +kernel
theorem dX7_digest_11 : decode cX7_digest 11 = .ok (.invokevirtual 214, 3) := by decide +kernel
theorem dX7_digest_14 : decode cX7_digest 14 = .ok (.pop, 1) := by decide +kernel
theorem dX7_digest_15 : decode cX7_digest 15 = .ok (.aload_n 0, 1) := by decide +kernel
theorem dX7_digest_16 : decode cX7_digest 16 = .ok (.invokevirtual 234, 3) := by decide +kernel
theorem dX7_digest_19 : decode cX7_digest 19 = .ok (.pop, 1) := by decide +kernel
theorem dX7_digest_20 : decode cX7_digest 20 = .ok (.aload_n 0, 1) := by decide +kernel
theorem dX7_digest_21 : decode cX7_digest 21 = .ok (.ldc2_w 296, 3) := by decide +kernel
theorem dX7_digest_24 : decode cX7_digest 24 = .ok (.invokevirtual 298, 3) := by decide +kernel
theorem dX7_digest_27 : decode cX7_digest 27 = .ok (.lstore_n 1, 1) := by decide +kernel
theorem dX7_digest_28 : decode cX7_digest 28 = .ok (.aload_n 0, 1) := by decide +kernel
theorem dX7_digest_29 : decode cX7_digest 29 = .ok (.lload_n 1, 1) := by decide +kernel
theorem dX7_digest_30 : decode cX7_digest 30 = .ok (.invokevirtual 302, 3) := by decide +kernel
theorem dX7_digest_33 : decode cX7_digest 33 = .ok (.lstore_n 1, 1) := by decide +kernel
theorem dX7_digest_34 : decode cX7_digest 34 = .ok (.aload_n 0, 1) := by decide +kernel
theorem dX7_digest_35 : decode cX7_digest 35 = .ok (.lload_n 1, 1) := by decide +kernel
theorem dX7_digest_36 : decode cX7_digest 36 = .ok (.invokevirtual 305, 3) := by decide +kernel
theorem dX7_digest_39 : decode cX7_digest 39 = .ok (.lstore_n 1, 1) := by decide +kernel
theorem dX7_digest_40 : decode cX7_digest 40 = .ok (.lload_n 1, 1) := by decide +kernel
theorem dX7_digest_41 : decode cX7_digest 41 = .ok (.aload_n 0, 1) := by decide +kernel
theorem dX7_digest_42 : decode cX7_digest 42 = .ok (.getfield 26, 3) := by decide +kernel
theorem dX7_digest_45 : decode cX7_digest 45 = .ok (.getfield 178, 3) := by decide +kernel
theorem dX7_digest_48 : decode cX7_digest 48 = .ok (.invokestatic 308, 3) := by decide +kernel
theorem dX7_digest_51 : decode cX7_digest 51 = .ok (.lstore_n 1, 1) := by decide +kernel
theorem dX7_digest_52 : decode cX7_digest 52 = .ok (.lload_n 1, 1) := by decide +kernel
theorem dX7_digest_53 : decode cX7_digest 53 = .ok (.aload_n 0, 1) := by decide +kernel
theorem dX7_digest_54 : decode cX7_digest 54 = .ok (.getfield 26, 3) := by decide +kernel
theorem dX7_digest_57 : decode cX7_digest 57 = .ok (.getfield 197, 3) := by decide +kernel
theorem dX7_digest_60 : decode cX7_digest 60 = .ok (.invokestatic 312, 3) := by decide +kernel
theorem dX7_digest_63 : decode cX7_digest 63 = .ok (.lstore_n 1, 1) := by decide +kernel
theorem dX7_digest_64 : decode cX7_digest 64 = .ok (.lload_n 1, 1) := by decide +kernel
theorem dX7_digest_65 : decode cX7_digest 65 = .ok (.aload_n 0, 1) := by decide +kernel
theorem dX7_digest_66 : decode cX7_digest 66 = .ok (.getfield 33, 3) := by decide +kernel
theorem dX7_digest_69 : decode cX7_digest 69 = .ok (.getfield 207, 3) := by decide +kernel
theorem dX7_digest_72 : decode cX7_digest 72 = .ok (.invokestatic 308, 3) := by decide +kernel
theorem dX7_digest_75 : decode cX7_digest 75 = .ok (.lstore_n 1, 1) := by decide +kernel
theorem dX7_digest_76 : decode cX7_digest 76 = .ok (.lload_n 1, 1) := by decide +kernel
theorem dX7_digest_77 : decode cX7_digest 77 = .ok (.aload_n 0, 1) := by decide +kernel
theorem dX7_digest_78 : decode cX7_digest 78 = .ok (.getfield 19, 3) := by decide +kernel
theorem dX7_digest_81 : decode cX7_digest 81 = .ok (.invokevirtual 210, 3) := by decide +kernel
theorem dX7_digest_84 : decode cX7_digest 84 = .ok (.invokestatic 308, 3) := by decide +kernel
theorem dX7_digest_87 : decode cX7_digest 87 = .ok (.lstore_n 1, 1) := by decide +kernel
theorem dX7_digest_88 : decode cX7_digest 88 = .ok (.aload_n 0, 1) := by decide +kernel
theorem dX7_digest_89 : decode cX7_digest 89 = .ok (.lload_n 1, 1) := by decide +kernel
theorem dX7_digest_90 : decode cX7_digest 90 = .ok (.invokevirtual 315, 3) := by decide +kernel
theorem dX7_digest_93 : decode cX7_digest 93 = .ok (.lstore_n 1, 1) := by decide +kernel
theorem dX7_digest_94 : decode cX7_digest 94 = .ok (.aload_n 0, 1) := by decide +kernel
theorem dX7_digest_95 : decode cX7_digest 95 = .ok (.lload_n 1, 1) := by decide +kernel
theorem dX7_digest_96 : decode cX7_digest 96 = .ok (.invokevirtual 318, 3) := by decide +kernel
theorem dX7_digest_99 : decode cX7_digest 99 = .ok (.lstore_n 1, 1) := by decide +kernel
theorem dX7_digest_100 : decode cX7_digest 100 = .ok (.lload_n 1, 1) := by decide +kernel
theorem dX7_digest_101 : decode cX7_digest 101 = .ok (.aload_n 0, 1) := by decide +kernel
theorem dX7_digest_102 : decode cX7_digest 102 = .ok (.getfield 47, 3) := by decide +kernel
theorem dX7_digest_105 : decode cX7_digest 105 = .ok (.invokevirtual 277, 3) := by decide +kernel
theorem dX7_digest_108 : decode cX7_digest 108 = .ok (.invokestatic 308, 3) := by decide +kernel
theorem dX7_digest_111 : decode cX7_digest 111 = .ok (.lstore_n 1, 1) := by decide +kernel
theorem dX7_digest_112 : decode cX7_digest 112 = .ok (.lload_n 1, 1) := by decide +kernel
theorem dX7_digest_113 : decode cX7_digest 113 = .ok (.aload_n 0, 1) := by decide +kernel
theorem dX7_digest_114 : decode cX7_digest 114 = .ok (.getfield 47, 3) := by decide +kernel
theorem dX7_digest_117 : decode cX7_digest 117 = .ok (.getfield 289, 3) := by decide +kernel
theorem dX7_digest_120 : decode cX7_digest 120 = .ok (.invokestatic 308, 3) := by decide +kernel
theorem dX7_digest_123 : decode cX7_digest 123 = .ok (.lreturn, 1) := by decide +kernel
theorem dX7_remove_0 : decode cX7_remove 0 = .ok (.aload_n 0, 1) := by decide +kernel
theorem dX7_remove_1 : decode cX7_remove 1 = .ok (.iload_n 1, 1) := by decide +kernel
theorem dX7_remove_2 : decode cX7_remove 2 = .ok (.invokevirtual 85, 3) := by decide +kernel
theorem dX7_kindOf_0 : decode cX7_kindOf 0 = .ok (.aload_n 0, 1) := by decide +kernel
theorem dX7_kindOf_1 : decode cX7_kindOf 1 = .ok (.iload_n 1, 1) := by decide +kernel
theorem dX7_kindOf_2 : decode cX7_kindOf 2 = .ok (.invokevirtual 85, 3) := by decide +kernel
theorem dX7_targetOf_0 : decode cX7_targetOf 0 = .ok (.aload_n 0, 1) := by decide +kernel
theorem dX7_targetOf_1 : decode cX7_targetOf 1 = .ok (.iload_n 1, 1) := by decide +kernel
theorem dX7_targetOf_2 : decode cX7_targetOf 2 = .ok (.invokevirtual 85, 3) := by decide +kernel
theorem dX7_blockOf_0 : decode cX7_blockOf 0 = .ok (.aload_n 0, 1) := by decide +kernel
theorem dX7_blockOf_1 : decode cX7_blockOf 1 = .ok (.iload_n 1, 1) := by decide +kernel
theorem dX7_blockOf_2 : decode cX7_blockOf 2 = .ok (.invokevirtual 85, 3) := by decide +kernel
theorem dX7_firstOf_0 : decode cX7_firstOf 0 = .ok (.aload_n 0, 1) := by decide +kernel
theorem dX7_firstOf_1 : decode cX7_firstOf 1 = .ok (.iload_n 1, 1) := by decide +kernel
theorem dX7_firstOf_2 : decode cX7_firstOf 2 = .ok (.invokevirtual 133, 3) := by decide +kernel
theorem dX7_parentOf_0 : decode cX7_parentOf 0 = .ok (.aload_n 0, 1) := by decide +kernel
theorem dX7_parentOf_1 : decode cX7_parentOf 1 = .ok (.iload_n 1, 1) := by decide +kernel
theorem dX7_parentOf_2 : decode cX7_parentOf 2 = .ok (.invokevirtual 133, 3) := by decide +kernel
theorem dX7_loopSize_0 : decode cX7_loopSize 0 = .ok (.aload_n 0, 1) := by decide +kernel
theorem dX7_loopSize_1 : decode cX7_loopSize 1 = .ok (.iload_n 1, 1) := by decide +kernel
theorem dX7_loopSize_2 : decode cX7_loopSize 2 = .ok (.invokevirtual 133, 3) := by decide +kernel
theorem dX7_depthOf_0 : decode cX7_depthOf 0 = .ok (.aload_n 0, 1) := by decide +kernel
theorem dX7_depthOf_1 : decode cX7_depthOf 1 = .ok (.iload_n 1, 1) := by decide +kernel
theorem dX7_depthOf_2 : decode cX7_depthOf 2 = .ok (.invokevirtual 133, 3) := by decide +kernel
theorem dX7_liveIn_0 : decode cX7_liveIn 0 = .ok (.aload_n 0, 1) := by decide +kernel
theorem dX7_liveIn_1 : decode cX7_liveIn 1 = .ok (.iload_n 1, 1) := by decide +kernel
theorem dX7_liveIn_2 : decode cX7_liveIn 2 = .ok (.invokevirtual 133, 3) := by decide +kernel
theorem dX7_endsIn_0 : decode cX7_endsIn 0 = .ok (.aload_n 0, 1) := by decide +kernel
theorem dX7_endsIn_1 : decode cX7_endsIn 1 = .ok (.iload_n 1, 1) := by decide +kernel
theorem dX7_endsIn_2 : decode cX7_endsIn 2 = .ok (.invokevirtual 133, 3) := by decide +kernel
theorem dX7_layerOf_0 : decode cX7_layerOf 0 = .ok (.aload_n 0, 1) := by decide +kernel
theorem dX7_layerOf_1 : decode cX7_layerOf 1 = .ok (.iload_n 1, 1) := by decide +kernel
theorem dX7_layerOf_2 : decode cX7_layerOf 2 = .ok (.invokevirtual 133, 3) := by decide +kernel
theorem dX7_placeOf_0 : decode cX7_placeOf 0 = .ok (.aload_n 0, 1) := by decide +kernel
theorem dX7_placeOf_1 : decode cX7_placeOf 1 = .ok (.iload_n 1, 1) := by decide +kernel
theorem dX7_placeOf_2 : decode cX7_placeOf 2 = .ok (.invokevirtual 133, 3) := by decide +kernel
theorem dX7_edgeFrom_0 : decode cX7_edgeFrom 0 = .ok (.aload_n 0, 1) := by decide +kernel
theorem dX7_edgeFrom_1 : decode cX7_edgeFrom 1 = .ok (.iload_n 1, 1) := by decide +kernel
theorem dX7_edgeFrom_2 : decode cX7_edgeFrom 2 = .ok (.invokevirtual 150, 3) := by decide +kernel
theorem dX7_edgeTo_0 : decode cX7_edgeTo 0 = .ok (.aload_n 0, 1) := by decide +kernel
theorem dX7_edgeTo_1 : decode cX7_edgeTo 1 = .ok (.iload_n 1, 1) := by decide +kernel
theorem dX7_edgeTo_2 : decode cX7_edgeTo 2 = .ok (.invokevirtual 150, 3) := by decide +kernel
theorem dX7_bends_0 : decode cX7_bends 0 = .ok (.aload_n 0, 1) := by decide +kernel
theorem dX7_bends_1 : decode cX7_bends 1 = .ok (.iload_n 1, 1) := by decide +kernel
theorem dX7_bends_2 : decode cX7_bends 2 = .ok (.invokevirtual 150, 3) := by decide +kernel
theorem dX7_ruleOf_0 : decode cX7_ruleOf 0 = .ok (.aload_n 0, 1) := by decide +kernel
theorem dX7_ruleOf_1 : decode cX7_ruleOf 1 = .ok (.iload_n 1, 1) := by decide +kernel
theorem dX7_ruleOf_2 : decode cX7_ruleOf 2 = .ok (.invokevirtual 221, 3) := by decide +kernel
theorem dX7_nodeOf_0 : decode cX7_nodeOf 0 = .ok (.aload_n 0, 1) := by decide +kernel
theorem dX7_nodeOf_1 : decode cX7_nodeOf 1 = .ok (.iload_n 1, 1) := by decide +kernel
theorem dX7_nodeOf_2 : decode cX7_nodeOf 2 = .ok (.invokevirtual 221, 3) := by decide +kernel
theorem dX7_points_0 : decode cX7_points 0 = .ok (.aload_n 0, 1) := by decide +kernel
theorem dX7_points_1 : decode cX7_points 1 = .ok (.iload_n 1, 1) := by decide +kernel
theorem dX7_points_2 : decode cX7_points 2 = .ok (.invokevirtual 253, 3) := by decide +kernel
theorem dX7_isReached_0 : decode cX7_isReached 0 = .ok (.aload_n 0, 1) := by decide +kernel
theorem dX7_isReached_1 : decode cX7_isReached 1 = .ok (.iload_n 1, 1) := by decide +kernel
theorem dX7_isReached_2 : decode cX7_isReached 2 = .ok (.invokevirtual 133, 3) := by decide +kernel
theorem dX7_isBack_0 : decode cX7_isBack 0 = .ok (.aload_n 0, 1) := by decide +kernel
theorem dX7_isBack_1 : decode cX7_isBack 1 = .ok (.iload_n 1, 1) := by decide +kernel
theorem dX7_isBack_2 : decode cX7_isBack 2 = .ok (.invokevirtual 150, 3) := by decide +kernel
theorem dX7_isTurned_0 : decode cX7_isTurned 0 = .ok (.aload_n 0, 1) := by decide +kernel
theorem dX7_isTurned_1 : decode cX7_isTurned 1 = .ok (.iload_n 1, 1) := by decide +kernel
theorem dX7_isTurned_2 : decode cX7_isTurned 2 = .ok (.invokevirtual 150, 3) := by decide +kernel
theorem dX7_setTarget_0 : decode cX7_setTarget 0 = .ok (.aload_n 0, 1) := by decide +kernel
theorem dX7_setTarget_1 : decode cX7_setTarget 1 = .ok (.iload_n 1, 1) := by decide +kernel
theorem dX7_setTarget_2 : decode cX7_setTarget 2 = .ok (.invokevirtual 85, 3) := by decide +kernel
theorem dX7_bendAt_0 : decode cX7_bendAt 0 = .ok (.aload_n 0, 1) := by decide +kernel
theorem dX7_bendAt_1 : decode cX7_bendAt 1 = .ok (.iload_n 1, 1) := by decide +kernel
theorem dX7_bendAt_2 : decode cX7_bendAt 2 = .ok (.invokevirtual 150, 3) := by decide +kernel
theorem dX7_pointAt_0 : decode cX7_pointAt 0 = .ok (.aload_n 0, 1) := by decide +kernel
theorem dX7_pointAt_1 : decode cX7_pointAt 1 = .ok (.iload_n 1, 1) := by decide +kernel
theorem dX7_pointAt_2 : decode cX7_pointAt 2 = .ok (.invokevirtual 253, 3) := by decide +kernel
theorem dX7_dominates_0 : decode cX7_dominates 0 = .ok (.aload_n 0, 1) := by decide +kernel
theorem dX7_dominates_1 : decode cX7_dominates 1 = .ok (.iload_n 1, 1) := by decide +kernel
theorem dX7_dominates_2 : decode cX7_dominates 2 = .ok (.invokevirtual 133, 3) := by decide +kernel
theorem dX7_comesBehind_0 : decode cX7_comesBehind 0 = .ok (.aload_n 0, 1) := by decide +kernel
theorem dX7_comesBehind_1 : decode cX7_comesBehind 1 = .ok (.iload_n 1, 1) := by decide +kernel
theorem dX7_comesBehind_2 : decode cX7_comesBehind 2 = .ok (.invokevirtual 133, 3) := by decide +kernel
theorem dX7_setUse_0 : decode cX7_setUse 0 = .ok (.aload_n 0, 1) := by decide +kernel
theorem dX7_setUse_1 : decode cX7_setUse 1 = .ok (.iload_n 1, 1) := by decide +kernel
theorem dX7_setUse_2 : decode cX7_setUse 2 = .ok (.invokevirtual 85, 3) := by decide +kernel
theorem dX7_sweep_0 : decode cX7_sweep 0 = .ok (.iload_n 1, 1) := by decide +kernel
theorem dX7_sweep_1 : decode cX7_sweep 1 = .ok (.invokestatic 280, 3) := by decide +kernel
theorem dX7_sweep_4 : decode cX7_sweep 4 = .ok (.aload_n 0, 1) := by decide +kernel
theorem dX7_sweep_5 : decode cX7_sweep 5 = .ok (.invokevirtual 234, 3) := by decide +kernel
theorem dX7_sweep_8 : decode cX7_sweep 8 = .ok (.iload_n 1, 1) := by decide +kernel
theorem dX7_sweep_9 : decode cX7_sweep 9 = .ok (.invokevirtual 283, 3) := by decide +kernel
theorem dX7_sweep_12 : decode cX7_sweep 12 = .ok (.aload_n 0, 1) := by decide +kernel
theorem dX7_sweep_13 : decode cX7_sweep 13 = .ok (.invokevirtual 234, 3) := by decide +kernel
theorem dX7_sweep_16 : decode cX7_sweep 16 = .ok (.invokevirtual 277, 3) := by decide +kernel
theorem dX7_sweep_19 : decode cX7_sweep 19 = .ok (.ireturn, 1) := by decide +kernel
theorem dX7_wouldCross_0 : decode cX7_wouldCross 0 = .ok (.iload_n 1, 1) := by decide +kernel
theorem dX7_wouldCross_1 : decode cX7_wouldCross 1 = .ok (.invokestatic 280, 3) := by decide +kernel
theorem dX7_wouldCross_4 : decode cX7_wouldCross 4 = .ok (.aload_n 0, 1) := by decide +kernel
theorem dX7_wouldCross_5 : decode cX7_wouldCross 5 = .ok (.invokevirtual 234, 3) := by decide +kernel
theorem dX7_wouldCross_8 : decode cX7_wouldCross 8 = .ok (.iload_n 1, 1) := by decide +kernel
theorem dX7_wouldCross_9 : decode cX7_wouldCross 9 = .ok (.invokevirtual 286, 3) := by decide +kernel
theorem dX7_wouldCross_12 : decode cX7_wouldCross 12 = .ok (.ireturn, 1) := by decide +kernel
theorem dX0_shiftTargets_0 : decode cX0_shiftTargets 0 = .ok (.iconst 0, 1) := by decide +kernel
theorem dX0_shiftTargets_1 : decode cX0_shiftTargets 1 = .ok (.istore_n 3, 1) := by decide +kernel
theorem dX0_shiftTargets_2 : decode cX0_shiftTargets 2 = .ok (.iload_n 3, 1) := by decide +kernel
theorem dX0_shiftTargets_3 : decode cX0_shiftTargets 3 = .ok (.aload_n 0, 1) := by decide +kernel
theorem dX0_shiftTargets_4 : decode cX0_shiftTargets 4 = .ok (.getfield 28, 3) := by decide +kernel
theorem dX0_shiftTargets_7 : decode cX0_shiftTargets 7 = .ok (.if_icmp .ge 42, 3) := by decide +kernel
theorem dX0_shiftTargets_49 : decode cX0_shiftTargets 49 = .ok (.return_, 1) := by decide +kernel
theorem dX0_add_0 : decode cX0_add 0 = .ok (.aload_n 0, 1) := by decide +kernel
theorem dX0_add_1 : decode cX0_add 1 = .ok (.iload_n 1, 1) := by decide +kernel
theorem dX0_add_2 : decode cX0_add 2 = .ok (.iconst 1, 1) := by decide +kernel
theorem dX0_add_3 : decode cX0_add 3 = .ok (.invokevirtual 24, 3) := by decide +kernel
theorem dX0_add_6 : decode cX0_add 6 = .ok (.aload_n 0, 1) := by decide +kernel
theorem dX0_add_7 : decode cX0_add 7 = .ok (.getfield 28, 3) := by decide +kernel
theorem dX0_add_10 : decode cX0_add 10 = .ok (.istore 4, 2) := by decide +kernel
theorem dX0_add_12 : decode cX0_add 12 = .ok (.iload 4, 2) := by decide +kernel
theorem dX0_add_14 : decode cX0_add 14 = .ok (.iload_n 1, 1) := by decide +kernel
theorem dX0_add_15 : decode cX0_add 15 = .ok (.if_icmp .le 19, 3) := by decide +kernel
theorem dX0_add_34 : decode cX0_add 34 = .ok (.aload_n 0, 1) := by decide +kernel
theorem dX0_add_35 : decode cX0_add 35 = .ok (.getfield 9, 3) := by decide +kernel
theorem dX0_add_38 : decode cX0_add 38 = .ok (.iload_n 1, 1) := by decide +kernel
theorem dX0_add_39 : decode cX0_add 39 = .ok (.iload_n 2, 1) := by decide +kernel
theorem dX0_add_40 : decode cX0_add 40 = .ok (.invokestatic 35, 3) := by decide +kernel
theorem dX0_add_43 : decode cX0_add 43 = .ok (.aload_n 0, 1) := by decide +kernel
theorem dX0_add_44 : decode cX0_add 44 = .ok (.getfield 15, 3) := by decide +kernel
theorem dX0_add_47 : decode cX0_add 47 = .ok (.iload_n 1, 1) := by decide +kernel
theorem dX0_add_48 : decode cX0_add 48 = .ok (.iload_n 3, 1) := by decide +kernel
theorem dX0_add_49 : decode cX0_add 49 = .ok (.invokestatic 35, 3) := by decide +kernel
theorem dX0_add_52 : decode cX0_add 52 = .ok (.aload_n 0, 1) := by decide +kernel
theorem dX0_add_53 : decode cX0_add 53 = .ok (.getfield 18, 3) := by decide +kernel
theorem dX0_add_56 : decode cX0_add 56 = .ok (.iload_n 1, 1) := by decide +kernel
theorem dX0_add_57 : decode cX0_add 57 = .ok (.iconst (-1), 1) := by decide +kernel
theorem dX0_add_58 : decode cX0_add 58 = .ok (.invokestatic 35, 3) := by decide +kernel
theorem dX0_add_61 : decode cX0_add 61 = .ok (.aload_n 0, 1) := by decide +kernel
theorem dX0_add_62 : decode cX0_add 62 = .ok (.getfield 21, 3) := by decide +kernel
theorem dX0_add_65 : decode cX0_add 65 = .ok (.iload_n 1, 1) := by decide +kernel
theorem dX0_add_66 : decode cX0_add 66 = .ok (.iconst 0, 1) := by decide +kernel
theorem dX0_add_67 : decode cX0_add 67 = .ok (.invokestatic 35, 3) := by decide +kernel
theorem dX0_add_70 : decode cX0_add 70 = .ok (.aload_n 0, 1) := by decide +kernel
theorem dX0_add_71 : decode cX0_add 71 = .ok (.dup, 1) := by decide +kernel
theorem dX0_add_72 : decode cX0_add 72 = .ok (.getfield 28, 3) := by decide +kernel
theorem dX0_add_75 : decode cX0_add 75 = .ok (.iconst 1, 1) := by decide +kernel
theorem dX0_add_76 : decode cX0_add 76 = .ok (.iadd, 1) := by decide +kernel
theorem dX0_add_77 : decode cX0_add 77 = .ok (.putfield 28, 3) := by decide +kernel
theorem dX0_add_80 : decode cX0_add 80 = .ok (.return_, 1) := by decide +kernel
theorem dX7_forget_0 : decode cX7_forget 0 = .ok (.aload_n 0, 1) := by decide +kernel
theorem dX7_forget_1 : decode cX7_forget 1 = .ok (.getfield 19, 3) := by decide +kernel
theorem dX7_forget_4 : decode cX7_forget 4 = .ok (.iconst 0, 1) := by decide +kernel
theorem dX7_forget_5 : decode cX7_forget 5 = .ok (.putfield 333, 3) := by decide +kernel
theorem dX7_forget_8 : decode cX7_forget 8 = .ok (.aload_n 0, 1) := by decide +kernel
theorem dX7_forget_9 : decode cX7_forget 9 = .ok (.getfield 26, 3) := by decide +kernel
theorem dX7_forget_12 : decode cX7_forget 12 = .ok (.iconst 0, 1) := by decide +kernel
theorem dX7_forget_13 : decode cX7_forget 13 = .ok (.putfield 334, 3) := by decide +kernel
theorem dX7_forget_16 : decode cX7_forget 16 = .ok (.aload_n 0, 1) := by decide +kernel
theorem dX7_forget_17 : decode cX7_forget 17 = .ok (.getfield 33, 3) := by decide +kernel
theorem dX7_forget_20 : decode cX7_forget 20 = .ok (.iconst 0, 1) := by decide +kernel
theorem dX7_forget_21 : decode cX7_forget 21 = .ok (.putfield 119, 3) := by decide +kernel
theorem dX7_forget_24 : decode cX7_forget 24 = .ok (.aload_n 0, 1) := by decide +kernel
theorem dX7_forget_25 : decode cX7_forget 25 = .ok (.getfield 40, 3) := by decide +kernel
theorem dX7_forget_28 : decode cX7_forget 28 = .ok (.iconst 0, 1) := by decide +kernel
theorem dX7_forget_29 : decode cX7_forget 29 = .ok (.putfield 335, 3) := by decide +kernel
theorem dX7_forget_32 : decode cX7_forget 32 = .ok (.aload_n 0, 1) := by decide +kernel
theorem dX7_forget_33 : decode cX7_forget 33 = .ok (.getfield 47, 3) := by decide +kernel
theorem dX7_forget_36 : decode cX7_forget 36 = .ok (.iconst 0, 1) := by decide +kernel
theorem dX7_forget_37 : decode cX7_forget 37 = .ok (.putfield 336, 3) := by decide +kernel
theorem dX7_forget_40 : decode cX7_forget 40 = .ok (.return_, 1) := by decide +kernel
theorem dX7_insert_0 : decode cX7_insert 0 = .ok (.iload_n 1, 1) := by decide +kernel
theorem dX7_insert_1 : decode cX7_insert 1 = .ok (.ifCond .lt 14, 3) := by decide +kernel
theorem dX7_insert_4 : decode cX7_insert 4 = .ok (.iload_n 1, 1) := by decide +kernel
theorem dX7_insert_5 : decode cX7_insert 5 = .ok (.aload_n 0, 1) := by decide +kernel
theorem dX7_insert_6 : decode cX7_insert 6 = .ok (.getfield 10, 3) := by decide +kernel
theorem dX7_insert_9 : decode cX7_insert 9 = .ok (.getfield 51, 3) := by decide +kernel
theorem dX7_insert_12 : decode cX7_insert 12 = .ok (.if_icmp .le 13, 3) := by decide +kernel
theorem dX7_insert_15 : decode cX7_insert 15 = .ok (.new 55, 3) := by decide +kernel
theorem dX7_insert_18 : decode cX7_insert 18 = .ok (.dup, 1) := by decide +kernel
theorem dX7_insert_19 : decode cX7_insert 19 = .ok (.ldc 57, 2) := by decide +kernel
theorem dX7_insert_21 : decode cX7_insert 21 = .ok (.invokespecial 59, 3) := by decide +kernel
theorem dX7_insert_24 : decode cX7_insert 24 = .ok (.athrow, 1) := by decide +kernel
theorem dX7_insert_25 : decode cX7_insert 25 = .ok (.iload_n 2, 1) := by decide +kernel
theorem dX7_insert_26 : decode cX7_insert 26 = .ok (.ifCond .lt 8, 3) := by decide +kernel
theorem dX7_insert_29 : decode cX7_insert 29 = .ok (.iload_n 2, 1) := by decide +kernel
theorem dX7_insert_30 : decode cX7_insert 30 = .ok (.iconst 3, 1) := by decide +kernel
theorem dX7_insert_31 : decode cX7_insert 31 = .ok (.if_icmp .le 13, 3) := by decide +kernel
theorem dX7_insert_34 : decode cX7_insert 34 = .ok (.new 55, 3) := by decide +kernel
theorem dX7_insert_37 : decode cX7_insert 37 = .ok (.dup, 1) := by decide +kernel
theorem dX7_insert_38 : decode cX7_insert 38 = .ok (.ldc 62, 2) := by decide +kernel
theorem dX7_insert_40 : decode cX7_insert 40 = .ok (.invokespecial 59, 3) := by decide +kernel
theorem dX7_insert_43 : decode cX7_insert 43 = .ok (.athrow, 1) := by decide +kernel
theorem dX7_insert_44 : decode cX7_insert 44 = .ok (.iload_n 2, 1) := by decide +kernel
theorem dX7_insert_45 : decode cX7_insert 45 = .ok (.invokestatic 64, 3) := by decide +kernel
theorem dX7_insert_48 : decode cX7_insert 48 = .ok (.ifCond .eq 20, 3) := by decide +kernel
theorem dX7_insert_51 : decode cX7_insert 51 = .ok (.iload_n 3, 1) := by decide +kernel
theorem dX7_insert_52 : decode cX7_insert 52 = .ok (.invokestatic 68, 3) := by decide +kernel
theorem dX7_insert_55 : decode cX7_insert 55 = .ok (.ifCond .ne 13, 3) := by decide +kernel
theorem dX7_insert_58 : decode cX7_insert 58 = .ok (.new 55, 3) := by decide +kernel
theorem dX7_insert_61 : decode cX7_insert 61 = .ok (.dup, 1) := by decide +kernel
theorem dX7_insert_62 : decode cX7_insert 62 = .ok (.ldc 71, 2) := by decide +kernel
theorem dX7_insert_64 : decode cX7_insert 64 = .ok (.invokespecial 59, 3) := by decide +kernel
theorem dX7_insert_67 : decode cX7_insert 67 = .ok (.athrow, 1) := by decide +kernel
theorem dX7_insert_68 : decode cX7_insert 68 = .ok (.aload_n 0, 1) := by decide +kernel
theorem dX7_insert_69 : decode cX7_insert 69 = .ok (.getfield 10, 3) := by decide +kernel
theorem dX7_insert_72 : decode cX7_insert 72 = .ok (.getfield 51, 3) := by decide +kernel
theorem dX7_insert_75 : decode cX7_insert 75 = .ok (.bipush 40, 2) := by decide +kernel
theorem dX7_insert_77 : decode cX7_insert 77 = .ok (.if_icmp .lt 13, 3) := by decide +kernel
theorem dX7_insert_90 : decode cX7_insert 90 = .ok (.aload_n 0, 1) := by decide +kernel
theorem dX7_insert_91 : decode cX7_insert 91 = .ok (.getfield 10, 3) := by decide +kernel
theorem dX7_insert_94 : decode cX7_insert 94 = .ok (.iload_n 1, 1) := by decide +kernel
theorem dX7_insert_95 : decode cX7_insert 95 = .ok (.iload_n 2, 1) := by decide +kernel
theorem dX7_insert_96 : decode cX7_insert 96 = .ok (.iload_n 2, 1) := by decide +kernel
theorem dX7_insert_97 : decode cX7_insert 97 = .ok (.invokestatic 64, 3) := by decide +kernel
theorem dX7_insert_100 : decode cX7_insert 100 = .ok (.ifCond .eq 7, 3) := by decide +kernel
theorem dX7_insert_103 : decode cX7_insert 103 = .ok (.iload_n 3, 1) := by decide +kernel
theorem dX7_insert_104 : decode cX7_insert 104 = .ok (.goto 4, 3) := by decide +kernel
theorem dX7_insert_107 : decode cX7_insert 107 = .ok (.iconst 0, 1) := by decide +kernel
theorem dX7_insert_108 : decode cX7_insert 108 = .ok (.invokevirtual 78, 3) := by decide +kernel
theorem dX7_insert_111 : decode cX7_insert 111 = .ok (.aload_n 0, 1) := by decide +kernel
theorem dX7_insert_112 : decode cX7_insert 112 = .ok (.invokevirtual 82, 3) := by decide +kernel
theorem dX7_insert_115 : decode cX7_insert 115 = .ok (.aload_n 0, 1) := by decide +kernel
theorem dX7_insert_116 : decode cX7_insert 116 = .ok (.getfield 10, 3) := by decide +kernel
theorem dX7_insert_119 : decode cX7_insert 119 = .ok (.getfield 51, 3) := by decide +kernel
theorem dX7_insert_122 : decode cX7_insert 122 = .ok (.ireturn, 1) := by decide +kernel
theorem mw_253 : Cond.code yX7_freshRanks cX7_freshRanks 1 (some (Jvm.ClassFile.FieldType.object "OrielChart$Ranks")) ∈ GW := gw_mem (inT2 _ (List.mem_of_getElem? (i := 168) rfl)) rfl
theorem mw_254 : Cond.methodLink RX7 159 yX7_freshRanks ∈ GW := gw_mem (inT2 _ (List.mem_of_getElem? (i := 165) rfl)) rfl
theorem mw_255 : Cond.instanceMethod yX7_freshRanks ∈ GW := gw_mem (inT2 _ (List.mem_of_getElem? (i := 167) rfl)) rfl
theorem mw_256 : Cond.selects RX7 yX7_freshRanks yX7_freshRanks ∈ GW := gw_mem (inTp (q := (yX7_freshRanks, 6)) (List.mem_of_getElem? (i := 4) rfl)) rfl
theorem mw_257 : Cond.code yX7_freshLives cX7_freshLives 1 (some (Jvm.ClassFile.FieldType.object "OrielChart$Lives")) ∈ GW := gw_mem (inT2 _ (List.mem_of_getElem? (i := 206) rfl)) rfl
theorem mw_258 : Cond.methodLink RX7 200 yX7_freshLives ∈ GW := gw_mem (inT2 _ (List.mem_of_getElem? (i := 203) rfl)) rfl
theorem mw_259 : Cond.instanceMethod yX7_freshLives ∈ GW := gw_mem (inT2 _ (List.mem_of_getElem? (i := 205) rfl)) rfl
theorem mw_260 : Cond.selects RX7 yX7_freshLives yX7_freshLives ∈ GW := gw_mem (inTp (q := (yX7_freshLives, 6)) (List.mem_of_getElem? (i := 7) rfl)) rfl
theorem mw_261 : Cond.code yX1_countWindings cX1_countWindings 3 (some Jvm.ClassFile.FieldType.int) ∈ GW := gw_mem (inT2 _ (List.mem_of_getElem? (i := 237) rfl)) rfl
theorem mw_262 : Cond.methodLink RX7 210 yX1_countWindings ∈ GW := gw_mem (inT2 _ (List.mem_of_getElem? (i := 234) rfl)) rfl
theorem mw_263 : Cond.instanceMethod yX1_countWindings ∈ GW := gw_mem (inT2 _ (List.mem_of_getElem? (i := 235) rfl)) rfl
theorem mw_264 : Cond.selects RX1 yX1_countWindings yX1_countWindings ∈ GW := gw_mem (inT2 _ (List.mem_of_getElem? (i := 236) rfl)) rfl
theorem mw_265 : Cond.methodLink RX7 277 yX3_countCrossings ∈ GW := gw_mem (inT3 _ (List.mem_of_getElem? (i := 135) rfl)) rfl
theorem mw_266 : Cond.code yX3_meanSpan cX3_meanSpan 4 (some Jvm.ClassFile.FieldType.double) ∈ GW := gw_mem (inT3 _ (List.mem_of_getElem? (i := 158) rfl)) rfl
theorem mw_267 : Cond.methodLink RX7 292 yX3_meanSpan ∈ GW := gw_mem (inT3 _ (List.mem_of_getElem? (i := 155) rfl)) rfl
theorem mw_268 : Cond.instanceMethod yX3_meanSpan ∈ GW := gw_mem (inT3 _ (List.mem_of_getElem? (i := 156) rfl)) rfl
theorem mw_269 : Cond.selects RX3 yX3_meanSpan yX3_meanSpan ∈ GW := gw_mem (inT3 _ (List.mem_of_getElem? (i := 157) rfl)) rfl
theorem mw_270 : Cond.constantLong RX7 296 (2557) ∈ GW := gw_mem (inT3 _ (List.mem_of_getElem? (i := 163) rfl)) rfl
theorem mw_271 : Cond.code yX7_digestOfCode cX7_digestOfCode 6 (some Jvm.ClassFile.FieldType.long) ∈ GW := gw_mem (inT3 _ (List.mem_of_getElem? (i := 167) rfl)) rfl
theorem mw_272 : Cond.methodLink RX7 298 yX7_digestOfCode ∈ GW := gw_mem (inT3 _ (List.mem_of_getElem? (i := 164) rfl)) rfl
theorem mw_273 : Cond.instanceMethod yX7_digestOfCode ∈ GW := gw_mem (inT3 _ (List.mem_of_getElem? (i := 166) rfl)) rfl
theorem mw_274 : Cond.selects RX7 yX7_digestOfCode yX7_digestOfCode ∈ GW := gw_mem (inTp (q := (yX7_digestOfCode, 6)) (List.mem_of_getElem? (i := 32) rfl)) rfl
theorem mw_275 : Cond.code yX7_digestOfBlocks cX7_digestOfBlocks 6 (some Jvm.ClassFile.FieldType.long) ∈ GW := gw_mem (inT3 _ (List.mem_of_getElem? (i := 176) rfl)) rfl
theorem mw_276 : Cond.methodLink RX7 302 yX7_digestOfBlocks ∈ GW := gw_mem (inT3 _ (List.mem_of_getElem? (i := 173) rfl)) rfl
theorem mw_277 : Cond.instanceMethod yX7_digestOfBlocks ∈ GW := gw_mem (inT3 _ (List.mem_of_getElem? (i := 175) rfl)) rfl
theorem mw_278 : Cond.selects RX7 yX7_digestOfBlocks yX7_digestOfBlocks ∈ GW := gw_mem (inTp (q := (yX7_digestOfBlocks, 6)) (List.mem_of_getElem? (i := 33) rfl)) rfl
theorem mw_279 : Cond.code yX7_digestOfEdges cX7_digestOfEdges 6 (some Jvm.ClassFile.FieldType.long) ∈ GW := gw_mem (inT3 _ (List.mem_of_getElem? (i := 197) rfl)) rfl
theorem mw_280 : Cond.methodLink RX7 305 yX7_digestOfEdges ∈ GW := gw_mem (inT3 _ (List.mem_of_getElem? (i := 194) rfl)) rfl
theorem mw_281 : Cond.instanceMethod yX7_digestOfEdges ∈ GW := gw_mem (inT3 _ (List.mem_of_getElem? (i := 196) rfl)) rfl
theorem mw_282 : Cond.selects RX7 yX7_digestOfEdges yX7_digestOfEdges ∈ GW := gw_mem (inTp (q := (yX7_digestOfEdges, 6)) (List.mem_of_getElem? (i := 34) rfl)) rfl
theorem mw_283 : Cond.code yX7_digestOfSteps cX7_digestOfSteps 6 (some Jvm.ClassFile.FieldType.long) ∈ GW := gw_mem (inT3 _ (List.mem_of_getElem? (i := 211) rfl)) rfl
theorem mw_284 : Cond.methodLink RX7 315 yX7_digestOfSteps ∈ GW := gw_mem (inT3 _ (List.mem_of_getElem? (i := 208) rfl)) rfl
theorem mw_285 : Cond.instanceMethod yX7_digestOfSteps ∈ GW := gw_mem (inT3 _ (List.mem_of_getElem? (i := 210) rfl)) rfl
theorem mw_286 : Cond.selects RX7 yX7_digestOfSteps yX7_digestOfSteps ∈ GW := gw_mem (inTp (q := (yX7_digestOfSteps, 6)) (List.mem_of_getElem? (i := 35) rfl)) rfl
theorem mw_287 : Cond.code yX7_digestOfLayers cX7_digestOfLayers 8 (some Jvm.ClassFile.FieldType.long) ∈ GW := gw_mem (inT3 _ (List.mem_of_getElem? (i := 215) rfl)) rfl
theorem mw_288 : Cond.methodLink RX7 318 yX7_digestOfLayers ∈ GW := gw_mem (inT3 _ (List.mem_of_getElem? (i := 212) rfl)) rfl
theorem mw_289 : Cond.instanceMethod yX7_digestOfLayers ∈ GW := gw_mem (inT3 _ (List.mem_of_getElem? (i := 214) rfl)) rfl
theorem mw_290 : Cond.selects RX7 yX7_digestOfLayers yX7_digestOfLayers ∈ GW := gw_mem (inTp (q := (yX7_digestOfLayers, 6)) (List.mem_of_getElem? (i := 36) rfl)) rfl
theorem mw_291 : Cond.code yX7_needInstruction cX7_needInstruction 2 (none : Option FieldType) ∈ GW := gw_mem (inT4 _ (List.mem_of_getElem? (i := 115) rfl)) rfl
theorem mw_292 : Cond.methodLink RX7 85 yX7_needInstruction ∈ GW := gw_mem (inT4 _ (List.mem_of_getElem? (i := 112) rfl)) rfl
theorem mw_293 : Cond.instanceMethod yX7_needInstruction ∈ GW := gw_mem (inT4 _ (List.mem_of_getElem? (i := 114) rfl)) rfl
theorem mw_294 : Cond.selects RX7 yX7_needInstruction yX7_needInstruction ∈ GW := gw_mem (inTp (q := (yX7_needInstruction, 6)) (List.mem_of_getElem? (i := 41) rfl)) rfl
theorem mw_295 : Cond.code yX7_needBlock cX7_needBlock 2 (none : Option FieldType) ∈ GW := gw_mem (inT4 _ (List.mem_of_getElem? (i := 185) rfl)) rfl
theorem mw_296 : Cond.methodLink RX7 133 yX7_needBlock ∈ GW := gw_mem (inT4 _ (List.mem_of_getElem? (i := 182) rfl)) rfl
theorem mw_297 : Cond.instanceMethod yX7_needBlock ∈ GW := gw_mem (inT4 _ (List.mem_of_getElem? (i := 184) rfl)) rfl
theorem mw_298 : Cond.selects RX7 yX7_needBlock yX7_needBlock ∈ GW := gw_mem (inTp (q := (yX7_needBlock, 6)) (List.mem_of_getElem? (i := 42) rfl)) rfl
theorem mw_299 : Cond.code yX7_needEdge cX7_needEdge 2 (none : Option FieldType) ∈ GW := gw_mem (inT4 _ (List.mem_of_getElem? (i := 204) rfl)) rfl
theorem mw_300 : Cond.methodLink RX7 150 yX7_needEdge ∈ GW := gw_mem (inT4 _ (List.mem_of_getElem? (i := 201) rfl)) rfl
theorem mw_301 : Cond.instanceMethod yX7_needEdge ∈ GW := gw_mem (inT4 _ (List.mem_of_getElem? (i := 203) rfl)) rfl
theorem mw_302 : Cond.selects RX7 yX7_needEdge yX7_needEdge ∈ GW := gw_mem (inTp (q := (yX7_needEdge, 6)) (List.mem_of_getElem? (i := 43) rfl)) rfl
theorem mw_303 : Cond.code yX7_needStep cX7_needStep 2 (none : Option FieldType) ∈ GW := gw_mem (inT5 _ (List.mem_of_getElem? (i := 37) rfl)) rfl
theorem mw_304 : Cond.methodLink RX7 221 yX7_needStep ∈ GW := gw_mem (inT5 _ (List.mem_of_getElem? (i := 34) rfl)) rfl
theorem mw_305 : Cond.instanceMethod yX7_needStep ∈ GW := gw_mem (inT5 _ (List.mem_of_getElem? (i := 36) rfl)) rfl
theorem mw_306 : Cond.selects RX7 yX7_needStep yX7_needStep ∈ GW := gw_mem (inTp (q := (yX7_needStep, 6)) (List.mem_of_getElem? (i := 44) rfl)) rfl
theorem mw_307 : Cond.code yX7_needLayer cX7_needLayer 2 (none : Option FieldType) ∈ GW := gw_mem (inT5 _ (List.mem_of_getElem? (i := 77) rfl)) rfl
theorem mw_308 : Cond.methodLink RX7 253 yX7_needLayer ∈ GW := gw_mem (inT5 _ (List.mem_of_getElem? (i := 74) rfl)) rfl
theorem mw_309 : Cond.instanceMethod yX7_needLayer ∈ GW := gw_mem (inT5 _ (List.mem_of_getElem? (i := 76) rfl)) rfl
theorem mw_310 : Cond.selects RX7 yX7_needLayer yX7_needLayer ∈ GW := gw_mem (inTp (q := (yX7_needLayer, 6)) (List.mem_of_getElem? (i := 45) rfl)) rfl
theorem mw_311 : Cond.code yX7_needSweeps cX7_needSweeps 1 (none : Option FieldType) ∈ GW := gw_mem (inT5 _ (List.mem_of_getElem? (i := 121) rfl)) rfl
theorem mw_312 : Cond.methodLink RX7 280 yX7_needSweeps ∈ GW := gw_mem (inT5 _ (List.mem_of_getElem? (i := 119) rfl)) rfl
theorem mw_313 : Cond.static yX7_needSweeps ∈ GW := gw_mem (inT5 _ (List.mem_of_getElem? (i := 120) rfl)) rfl
theorem mw_314 : Cond.methodLink RX7 283 yX3_sweepOften ∈ GW := gw_mem (inT5 _ (List.mem_of_getElem? (i := 123) rfl)) rfl
theorem mw_315 : Cond.code yX3_tryOut cX3_tryOut 7 (some Jvm.ClassFile.FieldType.int) ∈ GW := gw_mem (inT5 _ (List.mem_of_getElem? (i := 151) rfl)) rfl
theorem mw_316 : Cond.methodLink RX7 286 yX3_tryOut ∈ GW := gw_mem (inT5 _ (List.mem_of_getElem? (i := 148) rfl)) rfl
theorem mw_317 : Cond.instanceMethod yX3_tryOut ∈ GW := gw_mem (inT5 _ (List.mem_of_getElem? (i := 149) rfl)) rfl
theorem mw_318 : Cond.selects RX3 yX3_tryOut yX3_tryOut ∈ GW := gw_mem (inT5 _ (List.mem_of_getElem? (i := 150) rfl)) rfl
theorem mw_319 : Cond.fieldLink RX0 28 "OrielChart$Code" "count" "I" ∈ GW := gw_mem (inT1 _ (List.mem_of_getElem? (i := 49) rfl)) rfl
theorem mw_320 : Cond.code yX0_shiftTargets cX0_shiftTargets 5 (none : Option FieldType) ∈ GW := gw_mem (inT4 _ (List.mem_of_getElem? (i := 90) rfl)) rfl
theorem mw_321 : Cond.methodLink RX0 24 yX0_shiftTargets ∈ GW := gw_mem (inT4 _ (List.mem_of_getElem? (i := 87) rfl)) rfl
theorem mw_322 : Cond.instanceMethod yX0_shiftTargets ∈ GW := gw_mem (inT4 _ (List.mem_of_getElem? (i := 89) rfl)) rfl
theorem mw_323 : Cond.selects RX0 yX0_shiftTargets yX0_shiftTargets ∈ GW := gw_mem (inTp (q := (yX0_shiftTargets, 5)) (List.mem_of_getElem? (i := 38) rfl)) rfl
theorem mw_324 : Cond.initialized RX0 ∈ GW := gw_mem (inT1 _ (List.mem_of_getElem? (i := 2) rfl)) rfl
theorem mw_325 : Cond.fieldLink RX0 9 "OrielChart$Code" "kind" "[I" ∈ GW := gw_mem (inT1 _ (List.mem_of_getElem? (i := 36) rfl)) rfl
theorem mw_326 : Cond.fieldLink RX0 15 "OrielChart$Code" "target" "[I" ∈ GW := gw_mem (inT1 _ (List.mem_of_getElem? (i := 39) rfl)) rfl
theorem mw_327 : Cond.fieldLink RX0 18 "OrielChart$Code" "sets" "[I" ∈ GW := gw_mem (inT1 _ (List.mem_of_getElem? (i := 42) rfl)) rfl
theorem mw_328 : Cond.fieldLink RX0 21 "OrielChart$Code" "uses" "[I" ∈ GW := gw_mem (inT1 _ (List.mem_of_getElem? (i := 45) rfl)) rfl
theorem mw_329 : Cond.code yX7_jumps cX7_jumps 1 (some Jvm.ClassFile.FieldType.boolean) ∈ GW := gw_mem (inT2 _ (List.mem_of_getElem? (i := 117) rfl)) rfl
theorem mw_330 : Cond.methodLink RX7 64 yX7_jumps ∈ GW := gw_mem (inT4 _ (List.mem_of_getElem? (i := 62) rfl)) rfl
theorem mw_331 : Cond.static yX7_jumps ∈ GW := gw_mem (inT2 _ (List.mem_of_getElem? (i := 116) rfl)) rfl
theorem mw_332 : Cond.code yX0_add cX0_add 5 (none : Option FieldType) ∈ GW := gw_mem (inT4 _ (List.mem_of_getElem? (i := 86) rfl)) rfl
theorem mw_333 : Cond.methodLink RX7 78 yX0_add ∈ GW := gw_mem (inT4 _ (List.mem_of_getElem? (i := 83) rfl)) rfl
theorem mw_334 : Cond.instanceMethod yX0_add ∈ GW := gw_mem (inT4 _ (List.mem_of_getElem? (i := 84) rfl)) rfl
theorem mw_335 : Cond.selects RX0 yX0_add yX0_add ∈ GW := gw_mem (inT4 _ (List.mem_of_getElem? (i := 85) rfl)) rfl
theorem mw_336 : Cond.code yX7_forget cX7_forget 1 (none : Option FieldType) ∈ GW := gw_mem (inT4 _ (List.mem_of_getElem? (i := 103) rfl)) rfl
theorem mw_337 : Cond.methodLink RX7 82 yX7_forget ∈ GW := gw_mem (inT4 _ (List.mem_of_getElem? (i := 100) rfl)) rfl
theorem mw_338 : Cond.instanceMethod yX7_forget ∈ GW := gw_mem (inT4 _ (List.mem_of_getElem? (i := 102) rfl)) rfl
theorem mw_339 : Cond.selects RX7 yX7_forget yX7_forget ∈ GW := gw_mem (inTp (q := (yX7_forget, 6)) (List.mem_of_getElem? (i := 40) rfl)) rfl
theorem mw_340 : Cond.code yX7_isTarget cX7_isTarget 1 (some Jvm.ClassFile.FieldType.boolean) ∈ GW := gw_mem (inT4 _ (List.mem_of_getElem? (i := 65) rfl)) rfl
theorem mw_341 : Cond.methodLink RX7 68 yX7_isTarget ∈ GW := gw_mem (inT4 _ (List.mem_of_getElem? (i := 63) rfl)) rfl
theorem mw_342 : Cond.static yX7_isTarget ∈ GW := gw_mem (inT4 _ (List.mem_of_getElem? (i := 64) rfl)) rfl
theorem pdv_X7_freshRanks : yX7_freshRanks.cls = RX7 ∧ yX7_freshRanks.cls ≠ "java/lang/invoke/MethodHandle" ∧ yX7_freshRanks.cls ≠ "java/lang/invoke/VarHandle" ∧ (parseMethodDescriptor yX7_freshRanks.desc).map (fun d => d.parameters.length) = some 0 := by decide +kernel
theorem pdv_X7_freshLives : yX7_freshLives.cls = RX7 ∧ yX7_freshLives.cls ≠ "java/lang/invoke/MethodHandle" ∧ yX7_freshLives.cls ≠ "java/lang/invoke/VarHandle" ∧ (parseMethodDescriptor yX7_freshLives.desc).map (fun d => d.parameters.length) = some 0 := by decide +kernel
theorem pdv_X1_countWindings : yX1_countWindings.cls = RX1 ∧ yX1_countWindings.cls ≠ "java/lang/invoke/MethodHandle" ∧ yX1_countWindings.cls ≠ "java/lang/invoke/VarHandle" ∧ (parseMethodDescriptor yX1_countWindings.desc).map (fun d => d.parameters.length) = some 0 := by decide +kernel
theorem pdv_X3_meanSpan : yX3_meanSpan.cls = RX3 ∧ yX3_meanSpan.cls ≠ "java/lang/invoke/MethodHandle" ∧ yX3_meanSpan.cls ≠ "java/lang/invoke/VarHandle" ∧ (parseMethodDescriptor yX3_meanSpan.desc).map (fun d => d.parameters.length) = some 0 := by decide +kernel
theorem pdv_X7_digestOfCode : yX7_digestOfCode.cls = RX7 ∧ yX7_digestOfCode.cls ≠ "java/lang/invoke/MethodHandle" ∧ yX7_digestOfCode.cls ≠ "java/lang/invoke/VarHandle" ∧ (parseMethodDescriptor yX7_digestOfCode.desc).map (fun d => d.parameters.length) = some 1 := by decide +kernel
theorem pdv_X7_digestOfBlocks : yX7_digestOfBlocks.cls = RX7 ∧ yX7_digestOfBlocks.cls ≠ "java/lang/invoke/MethodHandle" ∧ yX7_digestOfBlocks.cls ≠ "java/lang/invoke/VarHandle" ∧ (parseMethodDescriptor yX7_digestOfBlocks.desc).map (fun d => d.parameters.length) = some 1 := by decide +kernel
theorem pdv_X7_digestOfEdges : yX7_digestOfEdges.cls = RX7 ∧ yX7_digestOfEdges.cls ≠ "java/lang/invoke/MethodHandle" ∧ yX7_digestOfEdges.cls ≠ "java/lang/invoke/VarHandle" ∧ (parseMethodDescriptor yX7_digestOfEdges.desc).map (fun d => d.parameters.length) = some 1 := by decide +kernel
theorem pdv_X7_digestOfSteps : yX7_digestOfSteps.cls = RX7 ∧ yX7_digestOfSteps.cls ≠ "java/lang/invoke/MethodHandle" ∧ yX7_digestOfSteps.cls ≠ "java/lang/invoke/VarHandle" ∧ (parseMethodDescriptor yX7_digestOfSteps.desc).map (fun d => d.parameters.length) = some 1 := by decide +kernel
theorem pdv_X7_digestOfLayers : yX7_digestOfLayers.cls = RX7 ∧ yX7_digestOfLayers.cls ≠ "java/lang/invoke/MethodHandle" ∧ yX7_digestOfLayers.cls ≠ "java/lang/invoke/VarHandle" ∧ (parseMethodDescriptor yX7_digestOfLayers.desc).map (fun d => d.parameters.length) = some 1 := by decide +kernel
theorem pdv_X7_needInstruction : yX7_needInstruction.cls = RX7 ∧ yX7_needInstruction.cls ≠ "java/lang/invoke/MethodHandle" ∧ yX7_needInstruction.cls ≠ "java/lang/invoke/VarHandle" ∧ (parseMethodDescriptor yX7_needInstruction.desc).map (fun d => d.parameters.length) = some 1 := by decide +kernel
theorem pdv_X7_needBlock : yX7_needBlock.cls = RX7 ∧ yX7_needBlock.cls ≠ "java/lang/invoke/MethodHandle" ∧ yX7_needBlock.cls ≠ "java/lang/invoke/VarHandle" ∧ (parseMethodDescriptor yX7_needBlock.desc).map (fun d => d.parameters.length) = some 1 := by decide +kernel
theorem pdv_X7_needEdge : yX7_needEdge.cls = RX7 ∧ yX7_needEdge.cls ≠ "java/lang/invoke/MethodHandle" ∧ yX7_needEdge.cls ≠ "java/lang/invoke/VarHandle" ∧ (parseMethodDescriptor yX7_needEdge.desc).map (fun d => d.parameters.length) = some 1 := by decide +kernel
theorem pdv_X7_needStep : yX7_needStep.cls = RX7 ∧ yX7_needStep.cls ≠ "java/lang/invoke/MethodHandle" ∧ yX7_needStep.cls ≠ "java/lang/invoke/VarHandle" ∧ (parseMethodDescriptor yX7_needStep.desc).map (fun d => d.parameters.length) = some 1 := by decide +kernel
theorem pdv_X7_needLayer : yX7_needLayer.cls = RX7 ∧ yX7_needLayer.cls ≠ "java/lang/invoke/MethodHandle" ∧ yX7_needLayer.cls ≠ "java/lang/invoke/VarHandle" ∧ (parseMethodDescriptor yX7_needLayer.desc).map (fun d => d.parameters.length) = some 1 := by decide +kernel
theorem pd_X7_needSweeps : yX7_needSweeps.cls ≠ "java/lang/invoke/MethodHandle" ∧ yX7_needSweeps.cls ≠ "java/lang/invoke/VarHandle" ∧ (parseMethodDescriptor yX7_needSweeps.desc).map (fun d => d.parameters.length) = some 1 := by decide +kernel
theorem pdv_X3_tryOut : yX3_tryOut.cls = RX3 ∧ yX3_tryOut.cls ≠ "java/lang/invoke/MethodHandle" ∧ yX3_tryOut.cls ≠ "java/lang/invoke/VarHandle" ∧ (parseMethodDescriptor yX3_tryOut.desc).map (fun d => d.parameters.length) = some 1 := by decide +kernel
theorem pdv_X0_shiftTargets : yX0_shiftTargets.cls = RX0 ∧ yX0_shiftTargets.cls ≠ "java/lang/invoke/MethodHandle" ∧ yX0_shiftTargets.cls ≠ "java/lang/invoke/VarHandle" ∧ (parseMethodDescriptor yX0_shiftTargets.desc).map (fun d => d.parameters.length) = some 2 := by decide +kernel
theorem pd_X7_jumps : yX7_jumps.cls ≠ "java/lang/invoke/MethodHandle" ∧ yX7_jumps.cls ≠ "java/lang/invoke/VarHandle" ∧ (parseMethodDescriptor yX7_jumps.desc).map (fun d => d.parameters.length) = some 1 := by decide +kernel
theorem pdv_X0_add : yX0_add.cls = RX0 ∧ yX0_add.cls ≠ "java/lang/invoke/MethodHandle" ∧ yX0_add.cls ≠ "java/lang/invoke/VarHandle" ∧ (parseMethodDescriptor yX0_add.desc).map (fun d => d.parameters.length) = some 3 := by decide +kernel
theorem pdv_X7_forget : yX7_forget.cls = RX7 ∧ yX7_forget.cls ≠ "java/lang/invoke/MethodHandle" ∧ yX7_forget.cls ≠ "java/lang/invoke/VarHandle" ∧ (parseMethodDescriptor yX7_forget.desc).map (fun d => d.parameters.length) = some 0 := by decide +kernel
theorem pd_X7_isTarget : yX7_isTarget.cls ≠ "java/lang/invoke/MethodHandle" ∧ yX7_isTarget.cls ≠ "java/lang/invoke/VarHandle" ∧ (parseMethodDescriptor yX7_isTarget.desc).map (fun d => d.parameters.length) = some 1 := by decide +kernel
set_option maxHeartbeats 4000000 in
set_option maxRecDepth 100000 in
theorem p_instructions (l : Launch) (D : va_G) (cI cJ cZ : ClassId) (ad : Nat → Nat) (b : Nat → Int32) (F : Nat → Nat → Int32) (G : Nat → Nat → Int64) (R : va_W) (hb0 : ∀ k, b k = 0) : CT l D (TY cI cJ cZ) yX7_instructions (.code yX7_instructions cX7_instructions 1 (some Jvm.ClassFile.FieldType.int)) 6 0 0 (XW ad cI cJ 0 b F G ++ R) [.ref (ad 0)] (QI D (TY cI cJ cZ) (fun r u => r = 0 ∧ ∃ n' b' F' G', u = XW ad cI cJ n' b' F' G' ++ R)) := by
  refine ent (by decide) (Nat.le_of_ble_eq_true rfl) ?_
  intro p e s m below meth c ls A hx hb hr hg hown hml hlocks hnm hP hK hD hS hA hN hl
  have hl : lv_has ls 1 [(0, .ref (ad 0))] := hl
  refine lv_aload_n hx hb dX7_instructions_0 rfl (lv_at hl 0 rfl) ?_
  refine va_get (D := D) (ci := 7) (v := .ref (ad 1)) (C := RX7) (T := TX7) (N := 6) hx hb hg inGX7 hown hK hP 0 rfl rfl 0 (by decide) (hg _ mw_113) (fun _ h9 => h9) rfl dX7_instructions_1 ?_
  refine va_getN (D := D) (ci := 0) (v := .int 0) (C := RX0) (T := TX0) (N := 5) hx hb hg inGX0 hown hK hP 1 rfl rfl 4 (by decide) (hN.use nw_10) (fun _ h9 => h9) rfl dX7_instructions_4 ?_
  exact W.iret (v := 0) hx hb hr (fun t ht hW => ⟨⟨0, (XW ad cI cJ 0 b F G ++ R), rfl, ⟨rfl, _, _, _, _, rfl⟩, ⟨by rw [ht]; exact hP, va_K.moved hW.alike hK, hD⟩⟩, hS.F ht⟩) hS.2.2 dX7_instructions_7
set_option maxHeartbeats 4000000 in
set_option maxRecDepth 100000 in
theorem p_blocks (l : Launch) (D : va_G) (cI cJ cZ : ClassId) (ad : Nat → Nat) (b : Nat → Int32) (F : Nat → Nat → Int32) (G : Nat → Nat → Int64) (R : va_W) (hb0 : ∀ k, b k = 0) : CT l D (TY cI cJ cZ) yX7_blocks (.code yX7_blocks cX7_blocks 1 (some Jvm.ClassFile.FieldType.int)) 6 0 0 (XW ad cI cJ 0 b F G ++ R) [.ref (ad 0)] (QI D (TY cI cJ cZ) (fun r u => r = 0 ∧ ∃ n' b' F' G', u = XW ad cI cJ n' b' F' G' ++ R)) := by
  refine ent (by decide) (Nat.le_of_ble_eq_true rfl) ?_
  intro p e s m below meth c ls A hx hb hr hg hown hml hlocks hnm hP hK hD hS hA hN hl
  have hl : lv_has ls 1 [(0, .ref (ad 0))] := hl
  refine lv_aload_n hx hb dX7_blocks_0 rfl (lv_at hl 0 rfl) ?_
  refine kR (rV (q0 := 0) (ci := 7) hx hb hml hown hg hN hK hP hD (c_freshFlow l D cI cJ cZ ad b F G R) mw_134 mw_135 mw_136 mw_137 mw_110 pdv_X7_freshFlow ⟨Nat.le_of_ble_eq_true rfl, Nat.le_of_ble_eq_true rfl⟩ rfl rfl rfl hl.1 rfl (Nat.le_of_ble_eq_true rfl) dX7_blocks_1 ⟨Nat.le_of_ble_eq_true rfl, Nat.le_of_ble_eq_true rfl⟩) hD hS hA (fun r_1 u_1 H locs hp hP hD hS => ?_)
  obtain ⟨rfl, b_2, F_3, G_4, rfl, hb_2⟩ := hp
  refine va_getN (D := D) (ci := 1) (v := .int 0) (C := RX1) (T := TX1) (N := 11) hx hb hg inGX1 hown hK hP 2 rfl rfl 7 (by decide) (hN.use nw_28) (fun _ h9 => h9) rfl dX7_blocks_4 ?_
  exact W.iret (v := 0) hx hb hr (fun t ht hW => ⟨⟨0, (XW ad cI cJ 0 b_2 F_3 G_4 ++ R), rfl, ⟨rfl, _, _, _, _, rfl⟩, ⟨by rw [ht]; exact hP, va_K.moved hW.alike hK, hD⟩⟩, hS.F ht⟩) hS.2.2 dX7_blocks_7
set_option maxHeartbeats 4000000 in
set_option maxRecDepth 100000 in
theorem p_edges (l : Launch) (D : va_G) (cI cJ cZ : ClassId) (ad : Nat → Nat) (b : Nat → Int32) (F : Nat → Nat → Int32) (G : Nat → Nat → Int64) (R : va_W) (hb0 : ∀ k, b k = 0) : CT l D (TY cI cJ cZ) yX7_edges (.code yX7_edges cX7_edges 1 (some Jvm.ClassFile.FieldType.int)) 6 0 0 (XW ad cI cJ 0 b F G ++ R) [.ref (ad 0)] (QI D (TY cI cJ cZ) (fun r u => r = 0 ∧ ∃ n' b' F' G', u = XW ad cI cJ n' b' F' G' ++ R)) := by
  refine ent (by decide) (Nat.le_of_ble_eq_true rfl) ?_
  intro p e s m below meth c ls A hx hb hr hg hown hml hlocks hnm hP hK hD hS hA hN hl
  have hl : lv_has ls 1 [(0, .ref (ad 0))] := hl
  refine lv_aload_n hx hb dX7_edges_0 rfl (lv_at hl 0 rfl) ?_
  refine kR (rV (q0 := 0) (ci := 7) hx hb hml hown hg hN hK hP hD (c_freshFlow l D cI cJ cZ ad b F G R) mw_134 mw_135 mw_136 mw_137 mw_110 pdv_X7_freshFlow ⟨Nat.le_of_ble_eq_true rfl, Nat.le_of_ble_eq_true rfl⟩ rfl rfl rfl hl.1 rfl (Nat.le_of_ble_eq_true rfl) dX7_edges_1 ⟨Nat.le_of_ble_eq_true rfl, Nat.le_of_ble_eq_true rfl⟩) hD hS hA (fun r_1 u_1 H locs hp hP hD hS => ?_)
  obtain ⟨rfl, b_2, F_3, G_4, rfl, hb_2⟩ := hp
  refine va_getN (D := D) (ci := 1) (v := .int 0) (C := RX1) (T := TX1) (N := 11) hx hb hg inGX1 hown hK hP 2 rfl rfl 8 (by decide) (hN.use nw_31) (fun _ h9 => h9) rfl dX7_edges_4 ?_
  exact W.iret (v := 0) hx hb hr (fun t ht hW => ⟨⟨0, (XW ad cI cJ 0 b_2 F_3 G_4 ++ R), rfl, ⟨rfl, _, _, _, _, rfl⟩, ⟨by rw [ht]; exact hP, va_K.moved hW.alike hK, hD⟩⟩, hS.F ht⟩) hS.2.2 dX7_edges_7
set_option maxHeartbeats 4000000 in
set_option maxRecDepth 100000 in
theorem p_loops (l : Launch) (D : va_G) (cI cJ cZ : ClassId) (ad : Nat → Nat) (b : Nat → Int32) (F : Nat → Nat → Int32) (G : Nat → Nat → Int64) (R : va_W) (hb0 : ∀ k, b k = 0) : CT l D (TY cI cJ cZ) yX7_loops (.code yX7_loops cX7_loops 1 (some Jvm.ClassFile.FieldType.int)) 6 0 0 (XW ad cI cJ 0 b F G ++ R) [.ref (ad 0)] (QI D (TY cI cJ cZ) (fun r u => r = 0 ∧ ∃ n' b' F' G', u = XW ad cI cJ n' b' F' G' ++ R)) := by
  refine ent (by decide) (Nat.le_of_ble_eq_true rfl) ?_
  intro p e s m below meth c ls A hx hb hr hg hown hml hlocks hnm hP hK hD hS hA hN hl
  have hl : lv_has ls 1 [(0, .ref (ad 0))] := hl
  refine lv_aload_n hx hb dX7_loops_0 rfl (lv_at hl 0 rfl) ?_
  refine kR (rV (q0 := 0) (ci := 7) hx hb hml hown hg hN hK hP hD (c_freshRanks l D cI cJ cZ ad b F G R (by first | assumption | exact hb0 2 | simp_all)) mw_253 mw_254 mw_255 mw_256 mw_110 pdv_X7_freshRanks ⟨Nat.le_of_ble_eq_true rfl, Nat.le_of_ble_eq_true rfl⟩ rfl rfl rfl hl.1 rfl (Nat.le_of_ble_eq_true rfl) dX7_loops_1 ⟨Nat.le_of_ble_eq_true rfl, Nat.le_of_ble_eq_true rfl⟩) hD hS hA (fun r_1 u_1 H locs hp hP hD hS => ?_)
  obtain ⟨rfl, b_2, F_3, G_4, rfl, h1b_2, hb_2⟩ := hp
  refine va_getN (D := D) (ci := 4) (v := .int 0) (C := RX4) (T := TX4) (N := 7) hx hb hg inGX4 hown hK hP 3 rfl rfl 4 (by decide) (hN.use nw_39) (fun _ h9 => h9) rfl dX7_loops_4 ?_
  exact W.iret (v := 0) hx hb hr (fun t ht hW => ⟨⟨0, (XW ad cI cJ 0 b_2 F_3 G_4 ++ R), rfl, ⟨rfl, _, _, _, _, rfl⟩, ⟨by rw [ht]; exact hP, va_K.moved hW.alike hK, hD⟩⟩, hS.F ht⟩) hS.2.2 dX7_loops_7
set_option maxHeartbeats 4000000 in
set_option maxRecDepth 100000 in
theorem p_vain (l : Launch) (D : va_G) (cI cJ cZ : ClassId) (ad : Nat → Nat) (b : Nat → Int32) (F : Nat → Nat → Int32) (G : Nat → Nat → Int64) (R : va_W) (hb0 : ∀ k, b k = 0) : CT l D (TY cI cJ cZ) yX7_vain (.code yX7_vain cX7_vain 1 (some Jvm.ClassFile.FieldType.int)) 6 0 0 (XW ad cI cJ 0 b F G ++ R) [.ref (ad 0)] (QI D (TY cI cJ cZ) (fun r u => r = 0 ∧ ∃ n' b' F' G', u = XW ad cI cJ n' b' F' G' ++ R)) := by
  refine ent (by decide) (Nat.le_of_ble_eq_true rfl) ?_
  intro p e s m below meth c ls A hx hb hr hg hown hml hlocks hnm hP hK hD hS hA hN hl
  have hl : lv_has ls 1 [(0, .ref (ad 0))] := hl
  refine lv_aload_n hx hb dX7_vain_0 rfl (lv_at hl 0 rfl) ?_
  refine kR (rV (q0 := 0) (ci := 7) hx hb hml hown hg hN hK hP hD (c_freshLives l D cI cJ cZ ad b F G R) mw_257 mw_258 mw_259 mw_260 mw_110 pdv_X7_freshLives ⟨Nat.le_of_ble_eq_true rfl, Nat.le_of_ble_eq_true rfl⟩ rfl rfl rfl hl.1 rfl (Nat.le_of_ble_eq_true rfl) dX7_vain_1 ⟨Nat.le_of_ble_eq_true rfl, Nat.le_of_ble_eq_true rfl⟩) hD hS hA (fun r_1 u_1 H locs hp hP hD hS => ?_)
  obtain ⟨rfl, b_2, F_3, G_4, rfl, hb_2⟩ := hp
  refine va_getN (D := D) (ci := 2) (v := .int 0) (C := RX2) (T := TX2) (N := 3) hx hb hg inGX2 hown hK hP 4 rfl rfl 1 (by decide) (hN.use nw_44) (fun _ h9 => h9) rfl dX7_vain_4 ?_
  exact W.iret (v := 0) hx hb hr (fun t ht hW => ⟨⟨0, (XW ad cI cJ 0 b_2 F_3 G_4 ++ R), rfl, ⟨rfl, _, _, _, _, rfl⟩, ⟨by rw [ht]; exact hP, va_K.moved hW.alike hK, hD⟩⟩, hS.F ht⟩) hS.2.2 dX7_vain_7
set_option maxHeartbeats 4000000 in
set_option maxRecDepth 100000 in
theorem p_windings (l : Launch) (D : va_G) (cI cJ cZ : ClassId) (ad : Nat → Nat) (b : Nat → Int32) (F : Nat → Nat → Int32) (G : Nat → Nat → Int64) (R : va_W) (hb0 : ∀ k, b k = 0) : CT l D (TY cI cJ cZ) yX7_windings (.code yX7_windings cX7_windings 1 (some Jvm.ClassFile.FieldType.int)) 6 0 0 (XW ad cI cJ 0 b F G ++ R) [.ref (ad 0)] (QI D (TY cI cJ cZ) (fun r u => r = 0 ∧ ∃ n' b' F' G', u = XW ad cI cJ n' b' F' G' ++ R)) := by
  refine ent (by decide) (Nat.le_of_ble_eq_true rfl) ?_
  intro p e s m below meth c ls A hx hb hr hg hown hml hlocks hnm hP hK hD hS hA hN hl
  have hl : lv_has ls 1 [(0, .ref (ad 0))] := hl
  refine lv_aload_n hx hb dX7_windings_0 rfl (lv_at hl 0 rfl) ?_
  refine kR (rV (q0 := 0) (ci := 7) hx hb hml hown hg hN hK hP hD (c_freshFlow l D cI cJ cZ ad b F G R) mw_134 mw_135 mw_136 mw_137 mw_110 pdv_X7_freshFlow ⟨Nat.le_of_ble_eq_true rfl, Nat.le_of_ble_eq_true rfl⟩ rfl rfl rfl hl.1 rfl (Nat.le_of_ble_eq_true rfl) dX7_windings_1 ⟨Nat.le_of_ble_eq_true rfl, Nat.le_of_ble_eq_true rfl⟩) hD hS hA (fun r_1 u_1 H locs hp hP hD hS => ?_)
  obtain ⟨rfl, b_2, F_3, G_4, rfl, hb_2⟩ := hp
  refine kI (rV (q0 := 2) (ci := 1) hx hb hml hown hg hN hK hP hD (c_countWindings l D cI cJ cZ ad b_2 F_3 G_4 R) mw_261 mw_262 mw_263 mw_264 mw_101 pdv_X1_countWindings ⟨Nat.le_of_ble_eq_true rfl, Nat.le_of_ble_eq_true rfl⟩ rfl rfl rfl hl.1 rfl (Nat.le_of_ble_eq_true rfl) dX7_windings_4 ⟨Nat.le_of_ble_eq_true rfl, Nat.le_of_ble_eq_true rfl⟩) hD hS hA (fun r_5 u_5 H locs hp hP hD hS => ?_)
  obtain ⟨rfl, rfl⟩ := hp
  exact W.iret (v := 0) hx hb hr (fun t ht hW => ⟨⟨0, (XW ad cI cJ 0 b_2 F_3 G_4 ++ R), rfl, ⟨rfl, _, _, _, _, rfl⟩, ⟨by rw [ht]; exact hP, va_K.moved hW.alike hK, hD⟩⟩, hS.F ht⟩) hS.2.2 dX7_windings_7
set_option maxHeartbeats 4000000 in
set_option maxRecDepth 100000 in
theorem p_steps (l : Launch) (D : va_G) (cI cJ cZ : ClassId) (ad : Nat → Nat) (b : Nat → Int32) (F : Nat → Nat → Int32) (G : Nat → Nat → Int64) (R : va_W) (hb0 : ∀ k, b k = 0) : CT l D (TY cI cJ cZ) yX7_steps (.code yX7_steps cX7_steps 1 (some Jvm.ClassFile.FieldType.int)) 6 0 0 (XW ad cI cJ 0 b F G ++ R) [.ref (ad 0)] (QI D (TY cI cJ cZ) (fun r u => r = 0 ∧ ∃ n' b' F' G', u = XW ad cI cJ n' b' F' G' ++ R)) := by
  refine ent (by decide) (Nat.le_of_ble_eq_true rfl) ?_
  intro p e s m below meth c ls A hx hb hr hg hown hml hlocks hnm hP hK hD hS hA hN hl
  have hl : lv_has ls 1 [(0, .ref (ad 0))] := hl
  refine lv_aload_n hx hb dX7_steps_0 rfl (lv_at hl 0 rfl) ?_
  refine kR (rV (q0 := 0) (ci := 7) hx hb hml hown hg hN hK hP hD (c_freshReduction l D cI cJ cZ ad b F G R) mw_221 mw_222 mw_223 mw_224 mw_110 pdv_X7_freshReduction ⟨Nat.le_of_ble_eq_true rfl, Nat.le_of_ble_eq_true rfl⟩ rfl rfl rfl hl.1 rfl (Nat.le_of_ble_eq_true rfl) dX7_steps_1 ⟨Nat.le_of_ble_eq_true rfl, Nat.le_of_ble_eq_true rfl⟩) hD hS hA (fun r_1 u_1 H locs hp hP hD hS => ?_)
  obtain ⟨rfl, b_2, F_3, G_4, rfl, hb_2⟩ := hp
  refine va_getN (D := D) (ci := 5) (v := .int 0) (C := RX5) (T := TX5) (N := 8) hx hb hg inGX5 hown hK hP 5 rfl rfl 6 (by decide) (hN.use nw_51) (fun _ h9 => h9) rfl dX7_steps_4 ?_
  exact W.iret (v := 0) hx hb hr (fun t ht hW => ⟨⟨0, (XW ad cI cJ 0 b_2 F_3 G_4 ++ R), rfl, ⟨rfl, _, _, _, _, rfl⟩, ⟨by rw [ht]; exact hP, va_K.moved hW.alike hK, hD⟩⟩, hS.F ht⟩) hS.2.2 dX7_steps_7
set_option maxHeartbeats 4000000 in
set_option maxRecDepth 100000 in
theorem p_left (l : Launch) (D : va_G) (cI cJ cZ : ClassId) (ad : Nat → Nat) (b : Nat → Int32) (F : Nat → Nat → Int32) (G : Nat → Nat → Int64) (R : va_W) (hb0 : ∀ k, b k = 0) : CT l D (TY cI cJ cZ) yX7_left (.code yX7_left cX7_left 1 (some Jvm.ClassFile.FieldType.int)) 6 0 0 (XW ad cI cJ 0 b F G ++ R) [.ref (ad 0)] (QI D (TY cI cJ cZ) (fun r u => r = 0 ∧ ∃ n' b' F' G', u = XW ad cI cJ n' b' F' G' ++ R)) := by
  refine ent (by decide) (Nat.le_of_ble_eq_true rfl) ?_
  intro p e s m below meth c ls A hx hb hr hg hown hml hlocks hnm hP hK hD hS hA hN hl
  have hl : lv_has ls 1 [(0, .ref (ad 0))] := hl
  refine lv_aload_n hx hb dX7_left_0 rfl (lv_at hl 0 rfl) ?_
  refine kR (rV (q0 := 0) (ci := 7) hx hb hml hown hg hN hK hP hD (c_freshReduction l D cI cJ cZ ad b F G R) mw_221 mw_222 mw_223 mw_224 mw_110 pdv_X7_freshReduction ⟨Nat.le_of_ble_eq_true rfl, Nat.le_of_ble_eq_true rfl⟩ rfl rfl rfl hl.1 rfl (Nat.le_of_ble_eq_true rfl) dX7_left_1 ⟨Nat.le_of_ble_eq_true rfl, Nat.le_of_ble_eq_true rfl⟩) hD hS hA (fun r_1 u_1 H locs hp hP hD hS => ?_)
  obtain ⟨rfl, b_2, F_3, G_4, rfl, hb_2⟩ := hp
  refine va_getN (D := D) (ci := 5) (v := .long 0) (C := RX5) (T := TX5) (N := 8) hx hb hg inGX5 hown hK hP 5 rfl rfl 5 (by decide) (hN.use nw_50) (fun _ h9 => h9) rfl dX7_left_4 ?_
  refine kI (rS hx hb hml hown hg hN hK hP hD (c_bitCount0 l D cI cJ cZ (XW ad cI cJ 0 b_2 F_3 G_4 ++ R)) mw_246 mw_247 mw_248 mw_249 pd_J13_bitCount_95d88 ⟨Nat.le_of_ble_eq_true rfl, Nat.le_of_ble_eq_true rfl⟩ rfl hl.1 rfl (Nat.le_of_ble_eq_true rfl) dX7_left_7 ⟨Nat.le_of_ble_eq_true rfl, Nat.le_of_ble_eq_true rfl⟩) hD hS hA (fun r_5 u_5 H locs hp hP hD hS => ?_)
  obtain ⟨rfl, rfl⟩ := hp
  exact W.iret (v := 0) hx hb hr (fun t ht hW => ⟨⟨0, (XW ad cI cJ 0 b_2 F_3 G_4 ++ R), rfl, ⟨rfl, _, _, _, _, rfl⟩, ⟨by rw [ht]; exact hP, va_K.moved hW.alike hK, hD⟩⟩, hS.F ht⟩) hS.2.2 dX7_left_10
set_option maxHeartbeats 4000000 in
set_option maxRecDepth 100000 in
theorem p_layers (l : Launch) (D : va_G) (cI cJ cZ : ClassId) (ad : Nat → Nat) (b : Nat → Int32) (F : Nat → Nat → Int32) (G : Nat → Nat → Int64) (R : va_W) (hb0 : ∀ k, b k = 0) : CT l D (TY cI cJ cZ) yX7_layers (.code yX7_layers cX7_layers 1 (some Jvm.ClassFile.FieldType.int)) 6 0 0 (XW ad cI cJ 0 b F G ++ R) [.ref (ad 0)] (QI D (TY cI cJ cZ) (fun r u => r = 0 ∧ ∃ n' b' F' G', u = XW ad cI cJ n' b' F' G' ++ R)) := by
  refine ent (by decide) (Nat.le_of_ble_eq_true rfl) ?_
  intro p e s m below meth c ls A hx hb hr hg hown hml hlocks hnm hP hK hD hS hA hN hl
  have hl : lv_has ls 1 [(0, .ref (ad 0))] := hl
  refine lv_aload_n hx hb dX7_layers_0 rfl (lv_at hl 0 rfl) ?_
  refine kR (rV (q0 := 0) (ci := 7) hx hb hml hown hg hN hK hP hD (c_freshPicture l D cI cJ cZ ad b F G R) mw_225 mw_226 mw_227 mw_228 mw_110 pdv_X7_freshPicture ⟨Nat.le_of_ble_eq_true rfl, Nat.le_of_ble_eq_true rfl⟩ rfl rfl rfl hl.1 rfl (Nat.le_of_ble_eq_true rfl) dX7_layers_1 ⟨Nat.le_of_ble_eq_true rfl, Nat.le_of_ble_eq_true rfl⟩) hD hS hA (fun r_1 u_1 H locs hp hP hD hS => ?_)
  obtain ⟨rfl, b_2, F_3, G_4, rfl, h5b_2, h6b_2, hb_2⟩ := hp
  refine va_getN (D := D) (ci := 3) (v := .int 0) (C := RX3) (T := TX3) (N := 16) hx hb hg inGX3 hown hK hP 6 rfl rfl 13 (by decide) (hN.use nw_62) (fun _ h9 => h9) rfl dX7_layers_4 ?_
  exact W.iret (v := 0) hx hb hr (fun t ht hW => ⟨⟨0, (XW ad cI cJ 0 b_2 F_3 G_4 ++ R), rfl, ⟨rfl, _, _, _, _, rfl⟩, ⟨by rw [ht]; exact hP, va_K.moved hW.alike hK, hD⟩⟩, hS.F ht⟩) hS.2.2 dX7_layers_7
set_option maxHeartbeats 4000000 in
set_option maxRecDepth 100000 in
theorem p_crossings (l : Launch) (D : va_G) (cI cJ cZ : ClassId) (ad : Nat → Nat) (b : Nat → Int32) (F : Nat → Nat → Int32) (G : Nat → Nat → Int64) (R : va_W) (hb0 : ∀ k, b k = 0) : CT l D (TY cI cJ cZ) yX7_crossings (.code yX7_crossings cX7_crossings 1 (some Jvm.ClassFile.FieldType.int)) 6 0 0 (XW ad cI cJ 0 b F G ++ R) [.ref (ad 0)] (QI D (TY cI cJ cZ) (fun r u => r = 0 ∧ ∃ n' b' F' G', u = XW ad cI cJ n' b' F' G' ++ R)) := by
  refine ent (by decide) (Nat.le_of_ble_eq_true rfl) ?_
  intro p e s m below meth c ls A hx hb hr hg hown hml hlocks hnm hP hK hD hS hA hN hl
  have hl : lv_has ls 1 [(0, .ref (ad 0))] := hl
  refine lv_aload_n hx hb dX7_crossings_0 rfl (lv_at hl 0 rfl) ?_
  refine kR (rV (q0 := 0) (ci := 7) hx hb hml hown hg hN hK hP hD (c_freshPicture l D cI cJ cZ ad b F G R) mw_225 mw_226 mw_227 mw_228 mw_110 pdv_X7_freshPicture ⟨Nat.le_of_ble_eq_true rfl, Nat.le_of_ble_eq_true rfl⟩ rfl rfl rfl hl.1 rfl (Nat.le_of_ble_eq_true rfl) dX7_crossings_1 ⟨Nat.le_of_ble_eq_true rfl, Nat.le_of_ble_eq_true rfl⟩) hD hS hA (fun r_1 u_1 H locs hp hP hD hS => ?_)
  obtain ⟨rfl, b_2, F_3, G_4, rfl, h5b_2, h6b_2, hb_2⟩ := hp
  refine kI (rV (q0 := 6) (ci := 3) hx hb hml hown hg hN hK hP hD (c_countCrossings l D cI cJ cZ ad b_2 F_3 G_4 R) mw_239 mw_265 mw_241 mw_242 mw_179 pdv_X3_countCrossings ⟨Nat.le_of_ble_eq_true rfl, Nat.le_of_ble_eq_true rfl⟩ rfl rfl rfl hl.1 rfl (Nat.le_of_ble_eq_true rfl) dX7_crossings_4 ⟨Nat.le_of_ble_eq_true rfl, Nat.le_of_ble_eq_true rfl⟩) hD hS hA (fun r_5 u_5 H locs hp hP hD hS => ?_)
  obtain ⟨rfl, rfl⟩ := hp
  exact W.iret (v := 0) hx hb hr (fun t ht hW => ⟨⟨0, (XW ad cI cJ 0 b_2 F_3 G_4 ++ R), rfl, ⟨rfl, _, _, _, _, rfl⟩, ⟨by rw [ht]; exact hP, va_K.moved hW.alike hK, hD⟩⟩, hS.F ht⟩) hS.2.2 dX7_crossings_7
set_option maxHeartbeats 4000000 in
set_option maxRecDepth 100000 in
theorem p_isTame (l : Launch) (D : va_G) (cI cJ cZ : ClassId) (ad : Nat → Nat) (b : Nat → Int32) (F : Nat → Nat → Int32) (G : Nat → Nat → Int64) (R : va_W) (hb0 : ∀ k, b k = 0) : CT l D (TY cI cJ cZ) yX7_isTame (.code yX7_isTame cX7_isTame 1 (some Jvm.ClassFile.FieldType.boolean)) 6 0 0 (XW ad cI cJ 0 b F G ++ R) [.ref (ad 0)] (QI D (TY cI cJ cZ) (fun r u => r = 1 ∧ ∃ n' b' F' G', u = XW ad cI cJ n' b' F' G' ++ R)) := by
  refine ent (by decide) (Nat.le_of_ble_eq_true rfl) ?_
  intro p e s m below meth c ls A hx hb hr hg hown hml hlocks hnm hP hK hD hS hA hN hl
  have hl : lv_has ls 1 [(0, .ref (ad 0))] := hl
  refine lv_aload_n hx hb dX7_isTame_0 rfl (lv_at hl 0 rfl) ?_
  refine kR (rV (q0 := 0) (ci := 7) hx hb hml hown hg hN hK hP hD (c_freshRanks l D cI cJ cZ ad b F G R (by first | assumption | exact hb0 2 | simp_all)) mw_253 mw_254 mw_255 mw_256 mw_110 pdv_X7_freshRanks ⟨Nat.le_of_ble_eq_true rfl, Nat.le_of_ble_eq_true rfl⟩ rfl rfl rfl hl.1 rfl (Nat.le_of_ble_eq_true rfl) dX7_isTame_1 ⟨Nat.le_of_ble_eq_true rfl, Nat.le_of_ble_eq_true rfl⟩) hD hS hA (fun r_1 u_1 H locs hp hP hD hS => ?_)
  obtain ⟨rfl, b_2, F_3, G_4, rfl, h1b_2, hb_2⟩ := hp
  refine va_getN (D := D) (ci := 4) (v := .int (b_2 1)) (C := RX4) (T := TX4) (N := 7) hx hb hg inGX4 hown hK hP 3 rfl rfl 5 (by decide) (hN.use nw_40) (fun _ h9 => h9) rfl dX7_isTame_4 ?_
  rw [h1b_2]
  exact W.zret (v := 1) hx hb hr rfl (fun t ht hW => ⟨⟨1, (XW ad cI cJ 0 b_2 F_3 G_4 ++ R), rfl, ⟨rfl, _, _, _, _, rfl⟩, ⟨by rw [ht]; exact hP, va_K.moved hW.alike hK, hD⟩⟩, hS.F ht⟩) hS.2.2 dX7_isTame_7
set_option maxHeartbeats 4000000 in
set_option maxRecDepth 100000 in
theorem p_isNeat (l : Launch) (D : va_G) (cI cJ cZ : ClassId) (ad : Nat → Nat) (b : Nat → Int32) (F : Nat → Nat → Int32) (G : Nat → Nat → Int64) (R : va_W) (hb0 : ∀ k, b k = 0) : CT l D (TY cI cJ cZ) yX7_isNeat (.code yX7_isNeat cX7_isNeat 1 (some Jvm.ClassFile.FieldType.boolean)) 6 0 0 (XW ad cI cJ 0 b F G ++ R) [.ref (ad 0)] (QI D (TY cI cJ cZ) (fun r u => r = 0 ∧ ∃ n' b' F' G', u = XW ad cI cJ n' b' F' G' ++ R)) := by
  refine ent (by decide) (Nat.le_of_ble_eq_true rfl) ?_
  intro p e s m below meth c ls A hx hb hr hg hown hml hlocks hnm hP hK hD hS hA hN hl
  have hl : lv_has ls 1 [(0, .ref (ad 0))] := hl
  refine lv_aload_n hx hb dX7_isNeat_0 rfl (lv_at hl 0 rfl) ?_
  refine kR (rV (q0 := 0) (ci := 7) hx hb hml hown hg hN hK hP hD (c_freshReduction l D cI cJ cZ ad b F G R) mw_221 mw_222 mw_223 mw_224 mw_110 pdv_X7_freshReduction ⟨Nat.le_of_ble_eq_true rfl, Nat.le_of_ble_eq_true rfl⟩ rfl rfl rfl hl.1 rfl (Nat.le_of_ble_eq_true rfl) dX7_isNeat_1 ⟨Nat.le_of_ble_eq_true rfl, Nat.le_of_ble_eq_true rfl⟩) hD hS hA (fun r_1 u_1 H locs hp hP hD hS => ?_)
  obtain ⟨rfl, b_2, F_3, G_4, rfl, hb_2⟩ := hp
  refine va_getN (D := D) (ci := 5) (v := .long 0) (C := RX5) (T := TX5) (N := 8) hx hb hg inGX5 hown hK hP 5 rfl rfl 5 (by decide) (hN.use nw_50) (fun _ h9 => h9) rfl dX7_isNeat_4 ?_
  refine kI (rS hx hb hml hown hg hN hK hP hD (c_bitCount0 l D cI cJ cZ (XW ad cI cJ 0 b_2 F_3 G_4 ++ R)) mw_246 mw_247 mw_248 mw_249 pd_J13_bitCount_95d88 ⟨Nat.le_of_ble_eq_true rfl, Nat.le_of_ble_eq_true rfl⟩ rfl hl.1 rfl (Nat.le_of_ble_eq_true rfl) dX7_isNeat_7 ⟨Nat.le_of_ble_eq_true rfl, Nat.le_of_ble_eq_true rfl⟩) hD hS hA (fun r_5 u_5 H locs hp hP hD hS => ?_)
  obtain ⟨rfl, rfl⟩ := hp
  refine lv_iconst (v := 1) hx hb dX7_isNeat_10 (by decide) ?_
  refine lv_icmp_ne (tgt := 18) hx hb dX7_isNeat_11 (by decide) (fun c_11 => ?_) (fun c_11 => absurd c_11 (by decide))
  refine lv_iconst (v := 0) hx hb dX7_isNeat_18 (by decide) ?_
  exact W.zret (v := 0) hx hb hr rfl (fun t ht hW => ⟨⟨0, (XW ad cI cJ 0 b_2 F_3 G_4 ++ R), rfl, ⟨rfl, _, _, _, _, rfl⟩, ⟨by rw [ht]; exact hP, va_K.moved hW.alike hK, hD⟩⟩, hS.F ht⟩) hS.2.2 dX7_isNeat_19
set_option maxHeartbeats 4000000 in
set_option maxRecDepth 100000 in
theorem p_swept (l : Launch) (D : va_G) (cI cJ cZ : ClassId) (ad : Nat → Nat) (b : Nat → Int32) (F : Nat → Nat → Int32) (G : Nat → Nat → Int64) (R : va_W) (hb0 : ∀ k, b k = 0) : CT l D (TY cI cJ cZ) yX7_swept (.code yX7_swept cX7_swept 1 (some Jvm.ClassFile.FieldType.int)) 6 0 0 (XW ad cI cJ 0 b F G ++ R) [.ref (ad 0)] (QI D (TY cI cJ cZ) (fun r u => r = 0 ∧ ∃ n' b' F' G', u = XW ad cI cJ n' b' F' G' ++ R)) := by
  refine ent (by decide) (Nat.le_of_ble_eq_true rfl) ?_
  intro p e s m below meth c ls A hx hb hr hg hown hml hlocks hnm hP hK hD hS hA hN hl
  have hl : lv_has ls 1 [(0, .ref (ad 0))] := hl
  refine lv_aload_n hx hb dX7_swept_0 rfl (lv_at hl 0 rfl) ?_
  refine kR (rV (q0 := 0) (ci := 7) hx hb hml hown hg hN hK hP hD (c_freshPicture l D cI cJ cZ ad b F G R) mw_225 mw_226 mw_227 mw_228 mw_110 pdv_X7_freshPicture ⟨Nat.le_of_ble_eq_true rfl, Nat.le_of_ble_eq_true rfl⟩ rfl rfl rfl hl.1 rfl (Nat.le_of_ble_eq_true rfl) dX7_swept_1 ⟨Nat.le_of_ble_eq_true rfl, Nat.le_of_ble_eq_true rfl⟩) hD hS hA (fun r_1 u_1 H locs hp hP hD hS => ?_)
  obtain ⟨rfl, b_2, F_3, G_4, rfl, h5b_2, h6b_2, hb_2⟩ := hp
  refine va_getN (D := D) (ci := 3) (v := .int (b_2 5)) (C := RX3) (T := TX3) (N := 16) hx hb hg inGX3 hown hK hP 6 rfl rfl 14 (by decide) (hN.use nw_63) (fun _ h9 => h9) rfl dX7_swept_4 ?_
  rw [(h5b_2 (by simp [hb0]))]
  exact W.iret (v := 0) hx hb hr (fun t ht hW => ⟨⟨0, (XW ad cI cJ 0 b_2 F_3 G_4 ++ R), rfl, ⟨rfl, _, _, _, _, rfl⟩, ⟨by rw [ht]; exact hP, va_K.moved hW.alike hK, hD⟩⟩, hS.F ht⟩) hS.2.2 dX7_swept_7
set_option maxHeartbeats 4000000 in
set_option maxRecDepth 100000 in
theorem p_meanLength (l : Launch) (D : va_G) (cI cJ cZ : ClassId) (ad : Nat → Nat) (b : Nat → Int32) (F : Nat → Nat → Int32) (G : Nat → Nat → Int64) (R : va_W) (hb0 : ∀ k, b k = 0) : CT l D (TY cI cJ cZ) yX7_meanLength (.code yX7_meanLength cX7_meanLength 1 (some Jvm.ClassFile.FieldType.double)) 6 0 0 (XW ad cI cJ 0 b F G ++ R) [.ref (ad 0)] (QD D (TY cI cJ cZ) (fun r u => r = FP.dconst0 ∧ ∃ n' b' F' G', u = XW ad cI cJ n' b' F' G' ++ R)) := by
  refine ent (by decide) (Nat.le_of_ble_eq_true rfl) ?_
  intro p e s m below meth c ls A hx hb hr hg hown hml hlocks hnm hP hK hD hS hA hN hl
  have hl : lv_has ls 1 [(0, .ref (ad 0))] := hl
  refine lv_aload_n hx hb dX7_meanLength_0 rfl (lv_at hl 0 rfl) ?_
  refine kR (rV (q0 := 0) (ci := 7) hx hb hml hown hg hN hK hP hD (c_freshPicture l D cI cJ cZ ad b F G R) mw_225 mw_226 mw_227 mw_228 mw_110 pdv_X7_freshPicture ⟨Nat.le_of_ble_eq_true rfl, Nat.le_of_ble_eq_true rfl⟩ rfl rfl rfl hl.1 rfl (Nat.le_of_ble_eq_true rfl) dX7_meanLength_1 ⟨Nat.le_of_ble_eq_true rfl, Nat.le_of_ble_eq_true rfl⟩) hD hS hA (fun r_1 u_1 H locs hp hP hD hS => ?_)
  obtain ⟨rfl, b_2, F_3, G_4, rfl, h5b_2, h6b_2, hb_2⟩ := hp
  refine kD (rV (q0 := 6) (ci := 3) hx hb hml hown hg hN hK hP hD (c_meanSpan l D cI cJ cZ ad b_2 F_3 G_4 R) mw_266 mw_267 mw_268 mw_269 mw_179 pdv_X3_meanSpan ⟨Nat.le_of_ble_eq_true rfl, Nat.le_of_ble_eq_true rfl⟩ rfl rfl rfl hl.1 rfl (Nat.le_of_ble_eq_true rfl) dX7_meanLength_4 ⟨Nat.le_of_ble_eq_true rfl, Nat.le_of_ble_eq_true rfl⟩) hD hS hA (fun r_5 u_5 H locs hp hP hD hS => ?_)
  obtain ⟨rfl, rfl⟩ := hp
  exact W.dret (v := FP.dconst0) hx hb hr (fun t ht hW => ⟨⟨FP.dconst0, (XW ad cI cJ 0 b_2 F_3 G_4 ++ R), rfl, ⟨rfl, _, _, _, _, rfl⟩, ⟨by rw [ht]; exact hP, va_K.moved hW.alike hK, hD⟩⟩, hS.F ht⟩) hS.2.2 dX7_meanLength_7
set_option maxHeartbeats 4000000 in
set_option maxRecDepth 100000 in
theorem p_digest (l : Launch) (D : va_G) (cI cJ cZ : ClassId) (ad : Nat → Nat) (b : Nat → Int32) (F : Nat → Nat → Int32) (G : Nat → Nat → Int64) (R : va_W) (hb0 : ∀ k, b k = 0) : CT l D (TY cI cJ cZ) yX7_digest (.code yX7_digest cX7_digest 3 (some Jvm.ClassFile.FieldType.long)) 6 0 0 (XW ad cI cJ 0 b F G ++ R) [.ref (ad 0)] (QL D (TY cI cJ cZ) (fun r u => r = (-6562806086967277532) ∧ ∃ n' b' F' G', u = XW ad cI cJ n' b' F' G' ++ R)) := by
  refine ent (by decide) (Nat.le_of_ble_eq_true rfl) ?_
  intro p e s m below meth c ls A hx hb hr hg hown hml hlocks hnm hP hK hD hS hA hN hl
  have hl : lv_has ls 3 [(0, .ref (ad 0))] := hl
  refine lv_aload_n hx hb dX7_digest_0 rfl (lv_at hl 0 rfl) ?_
  refine kR (rV (q0 := 0) (ci := 7) hx hb hml hown hg hN hK hP hD (c_freshRanks l D cI cJ cZ ad b F G R (by first | assumption | exact hb0 2 | simp_all)) mw_253 mw_254 mw_255 mw_256 mw_110 pdv_X7_freshRanks ⟨Nat.le_of_ble_eq_true rfl, Nat.le_of_ble_eq_true rfl⟩ rfl rfl rfl hl.1 rfl (Nat.le_of_ble_eq_true rfl) dX7_digest_1 ⟨Nat.le_of_ble_eq_true rfl, Nat.le_of_ble_eq_true rfl⟩) hD hS hA (fun r_1 u_1 H locs hp hP hD hS => ?_)
  obtain ⟨rfl, b_2, F_3, G_4, rfl, h1b_2, hb_2⟩ := hp
  refine lv_pop hx hb dX7_digest_4 rfl ?_
  refine lv_aload_n hx hb dX7_digest_5 rfl (lv_at hl 0 rfl) ?_
  refine kR (rV (q0 := 0) (ci := 7) hx hb hml hown hg hN hK hP hD (c_freshLives l D cI cJ cZ ad b_2 F_3 G_4 R) mw_257 mw_258 mw_259 mw_260 mw_110 pdv_X7_freshLives ⟨Nat.le_of_ble_eq_true rfl, Nat.le_of_ble_eq_true rfl⟩ rfl rfl rfl hl.1 rfl (Nat.le_of_ble_eq_true rfl) dX7_digest_6 ⟨Nat.le_of_ble_eq_true rfl, Nat.le_of_ble_eq_true rfl⟩) hD hS hA (fun r_5 u_5 H locs hp hP hD hS => ?_)
  obtain ⟨rfl, b_6, F_7, G_8, rfl, hb_6⟩ := hp
  refine lv_pop hx hb dX7_digest_9 rfl ?_
  refine lv_aload_n hx hb dX7_digest_10 rfl (lv_at hl 0 rfl) ?_
  refine kR (rV (q0 := 0) (ci := 7) hx hb hml hown hg hN hK hP hD (c_freshReduction l D cI cJ cZ ad b_6 F_7 G_8 R) mw_221 mw_222 mw_223 mw_224 mw_110 pdv_X7_freshReduction ⟨Nat.le_of_ble_eq_true rfl, Nat.le_of_ble_eq_true rfl⟩ rfl rfl rfl hl.1 rfl (Nat.le_of_ble_eq_true rfl) dX7_digest_11 ⟨Nat.le_of_ble_eq_true rfl, Nat.le_of_ble_eq_true rfl⟩) hD hS hA (fun r_9 u_9 H locs hp hP hD hS => ?_)
  obtain ⟨rfl, b_10, F_11, G_12, rfl, hb_10⟩ := hp
  refine lv_pop hx hb dX7_digest_14 rfl ?_
  refine lv_aload_n hx hb dX7_digest_15 rfl (lv_at hl 0 rfl) ?_
  refine kR (rV (q0 := 0) (ci := 7) hx hb hml hown hg hN hK hP hD (c_freshPicture l D cI cJ cZ ad b_10 F_11 G_12 R) mw_225 mw_226 mw_227 mw_228 mw_110 pdv_X7_freshPicture ⟨Nat.le_of_ble_eq_true rfl, Nat.le_of_ble_eq_true rfl⟩ rfl rfl rfl hl.1 rfl (Nat.le_of_ble_eq_true rfl) dX7_digest_16 ⟨Nat.le_of_ble_eq_true rfl, Nat.le_of_ble_eq_true rfl⟩) hD hS hA (fun r_13 u_13 H locs hp hP hD hS => ?_)
  obtain ⟨rfl, b_14, F_15, G_16, rfl, h5b_14, h6b_14, hb_14⟩ := hp
  refine lv_pop hx hb dX7_digest_19 rfl ?_
  refine lv_aload_n hx hb dX7_digest_20 rfl (lv_at hl 0 rfl) ?_
  refine lv_ldc2 (v := 2557) hx hb hown (hg _ mw_270) dX7_digest_21 ?_
  refine kL (rV (q0 := 0) (ci := 7) hx hb hml hown hg hN hK hP hD (c_dCode l D cI cJ cZ ad b_14 F_15 G_16 R (2557)) mw_271 mw_272 mw_273 mw_274 mw_110 pdv_X7_digestOfCode ⟨Nat.le_of_ble_eq_true rfl, Nat.le_of_ble_eq_true rfl⟩ rfl rfl rfl hl.1 rfl (Nat.le_of_ble_eq_true rfl) dX7_digest_24 ⟨Nat.le_of_ble_eq_true rfl, Nat.le_of_ble_eq_true rfl⟩) hD hS hA (fun r_17 u_17 H locs hp hP hD hS => ?_)
  obtain ⟨hm, rfl⟩ := hp
  obtain rfl : r_17 = 79267 := hm.trans (by decide)
  refine lv_lstore_n (lv' := [(1, .long 79267), (0, .ref (ad 0))]) hx hb dX7_digest_27 rfl hl (by decide) rfl (fun ls hl => ?_)
  refine lv_aload_n hx hb dX7_digest_28 rfl (lv_at hl 1 rfl) ?_
  refine lv_lload_n hx hb dX7_digest_29 rfl (lv_at hl 0 rfl) ?_
  refine kL (rV (q0 := 0) (ci := 7) hx hb hml hown hg hN hK hP hD (c_dBlocks l D cI cJ cZ ad b_14 F_15 G_16 R (79267)) mw_275 mw_276 mw_277 mw_278 mw_110 pdv_X7_digestOfBlocks ⟨Nat.le_of_ble_eq_true rfl, Nat.le_of_ble_eq_true rfl⟩ rfl rfl rfl hl.1 rfl (Nat.le_of_ble_eq_true rfl) dX7_digest_30 ⟨Nat.le_of_ble_eq_true rfl, Nat.le_of_ble_eq_true rfl⟩) hD hS hA (fun r_18 u_18 H locs hp hP hD hS => ?_)
  obtain ⟨hm, rfl⟩ := hp
  obtain rfl : r_18 = 2457277 := hm.trans (by decide)
  refine lv_lstore_n (lv' := [(1, .long 2457277), (0, .ref (ad 0))]) hx hb dX7_digest_33 rfl hl (by decide) rfl (fun ls hl => ?_)
  refine lv_aload_n hx hb dX7_digest_34 rfl (lv_at hl 1 rfl) ?_
  refine lv_lload_n hx hb dX7_digest_35 rfl (lv_at hl 0 rfl) ?_
  refine kL (rV (q0 := 0) (ci := 7) hx hb hml hown hg hN hK hP hD (c_dEdges l D cI cJ cZ ad b_14 F_15 G_16 R (2457277)) mw_279 mw_280 mw_281 mw_282 mw_110 pdv_X7_digestOfEdges ⟨Nat.le_of_ble_eq_true rfl, Nat.le_of_ble_eq_true rfl⟩ rfl rfl rfl hl.1 rfl (Nat.le_of_ble_eq_true rfl) dX7_digest_36 ⟨Nat.le_of_ble_eq_true rfl, Nat.le_of_ble_eq_true rfl⟩) hD hS hA (fun r_19 u_19 H locs hp hP hD hS => ?_)
  obtain ⟨hm, rfl⟩ := hp
  obtain rfl : r_19 = 76175587 := hm.trans (by decide)
  refine lv_lstore_n (lv' := [(1, .long 76175587), (0, .ref (ad 0))]) hx hb dX7_digest_39 rfl hl (by decide) rfl (fun ls hl => ?_)
  refine lv_lload_n hx hb dX7_digest_40 rfl (lv_at hl 0 rfl) ?_
  refine lv_aload_n hx hb dX7_digest_41 rfl (lv_at hl 1 rfl) ?_
  refine va_get (D := D) (ci := 7) (v := .ref (ad 3)) (C := RX7) (T := TX7) (N := 6) hx hb hg inGX7 hown hK hP 0 rfl rfl 2 (by decide) (hg _ mw_133) (fun _ h9 => h9) rfl dX7_digest_42 ?_
  refine va_getN (D := D) (ci := 4) (v := .int 0) (C := RX4) (T := TX4) (N := 7) hx hb hg inGX4 hown hK hP 3 rfl rfl 4 (by decide) (hN.use nw_39) (fun _ h9 => h9) rfl dX7_digest_45 ?_
  refine kL (rS hx hb hml hown hg hN hK hP hD (c_mix l D cI cJ cZ (XW ad cI cJ 0 b_14 F_15 G_16 ++ R) 76175587 0) mw_243 mw_244 mw_245 mw_110 pd_X7_mix ⟨Nat.le_of_ble_eq_true rfl, Nat.le_of_ble_eq_true rfl⟩ rfl hl.1 rfl (Nat.le_of_ble_eq_true rfl) dX7_digest_48 ⟨Nat.le_of_ble_eq_true rfl, Nat.le_of_ble_eq_true rfl⟩) hD hS hA (fun r_20 u_20 H locs hp hP hD hS => ?_)
  obtain ⟨hm, rfl⟩ := hp
  obtain rfl : r_20 = 2361443197 := hm.trans (by decide)
  refine lv_lstore_n (lv' := [(1, .long 2361443197), (0, .ref (ad 0))]) hx hb dX7_digest_51 rfl hl (by decide) rfl (fun ls hl => ?_)
  refine lv_lload_n hx hb dX7_digest_52 rfl (lv_at hl 0 rfl) ?_
  refine lv_aload_n hx hb dX7_digest_53 rfl (lv_at hl 1 rfl) ?_
  refine va_get (D := D) (ci := 7) (v := .ref (ad 3)) (C := RX7) (T := TX7) (N := 6) hx hb hg inGX7 hown hK hP 0 rfl rfl 2 (by decide) (hg _ mw_133) (fun _ h9 => h9) rfl dX7_digest_54 ?_
  refine va_getN (D := D) (ci := 4) (v := .int (b_14 1)) (C := RX4) (T := TX4) (N := 7) hx hb hg inGX4 hown hK hP 3 rfl rfl 5 (by decide) (hN.use nw_40) (fun _ h9 => h9) rfl dX7_digest_57 ?_
  rw [((hb_14 1 (by decide) (by decide) (by decide)).trans ((hb_10 1 (by decide) (by decide)).trans ((hb_6 1 (by decide) (by decide)).trans h1b_2)))]
  refine kL (rS hx hb hml hown hg hN hK hP hD (c_mixZ1 l D cI cJ cZ (XW ad cI cJ 0 b_14 F_15 G_16 ++ R) 2361443197) mw_250 mw_251 mw_252 mw_110 pd_X7_mix_ ⟨Nat.le_of_ble_eq_true rfl, Nat.le_of_ble_eq_true rfl⟩ rfl hl.1 rfl (Nat.le_of_ble_eq_true rfl) dX7_digest_60 ⟨Nat.le_of_ble_eq_true rfl, Nat.le_of_ble_eq_true rfl⟩) hD hS hA (fun r_21 u_21 H locs hp hP hD hS => ?_)
  obtain ⟨hm, rfl⟩ := hp
  obtain rfl : r_21 = 73204739108 := hm.trans (by decide)
  refine lv_lstore_n (lv' := [(1, .long 73204739108), (0, .ref (ad 0))]) hx hb dX7_digest_63 rfl hl (by decide) rfl (fun ls hl => ?_)
  refine lv_lload_n hx hb dX7_digest_64 rfl (lv_at hl 0 rfl) ?_
  refine lv_aload_n hx hb dX7_digest_65 rfl (lv_at hl 1 rfl) ?_
  refine va_get (D := D) (ci := 7) (v := .ref (ad 4)) (C := RX7) (T := TX7) (N := 6) hx hb hg inGX7 hown hK hP 0 rfl rfl 3 (by decide) (hg _ mw_204) (fun _ h9 => h9) rfl dX7_digest_66 ?_
  refine va_getN (D := D) (ci := 2) (v := .int 0) (C := RX2) (T := TX2) (N := 3) hx hb hg inGX2 hown hK hP 4 rfl rfl 1 (by decide) (hN.use nw_44) (fun _ h9 => h9) rfl dX7_digest_69 ?_
  refine kL (rS hx hb hml hown hg hN hK hP hD (c_mix l D cI cJ cZ (XW ad cI cJ 0 b_14 F_15 G_16 ++ R) 73204739108 0) mw_243 mw_244 mw_245 mw_110 pd_X7_mix ⟨Nat.le_of_ble_eq_true rfl, Nat.le_of_ble_eq_true rfl⟩ rfl hl.1 rfl (Nat.le_of_ble_eq_true rfl) dX7_digest_72 ⟨Nat.le_of_ble_eq_true rfl, Nat.le_of_ble_eq_true rfl⟩) hD hS hA (fun r_22 u_22 H locs hp hP hD hS => ?_)
  obtain ⟨hm, rfl⟩ := hp
  obtain rfl : r_22 = 2269346912348 := hm.trans (by decide)
  refine lv_lstore_n (lv' := [(1, .long 2269346912348), (0, .ref (ad 0))]) hx hb dX7_digest_75 rfl hl (by decide) rfl (fun ls hl => ?_)
  refine lv_lload_n hx hb dX7_digest_76 rfl (lv_at hl 0 rfl) ?_
  refine lv_aload_n hx hb dX7_digest_77 rfl (lv_at hl 1 rfl) ?_
  refine va_get (D := D) (ci := 7) (v := .ref (ad 2)) (C := RX7) (T := TX7) (N := 6) hx hb hg inGX7 hown hK hP 0 rfl rfl 1 (by decide) (hg _ mw_112) (fun _ h9 => h9) rfl dX7_digest_78 ?_
  refine kI (rV (q0 := 2) (ci := 1) hx hb hml hown hg hN hK hP hD (c_countWindings l D cI cJ cZ ad b_14 F_15 G_16 R) mw_261 mw_262 mw_263 mw_264 mw_101 pdv_X1_countWindings ⟨Nat.le_of_ble_eq_true rfl, Nat.le_of_ble_eq_true rfl⟩ rfl rfl rfl hl.1 rfl (Nat.le_of_ble_eq_true rfl) dX7_digest_81 ⟨Nat.le_of_ble_eq_true rfl, Nat.le_of_ble_eq_true rfl⟩) hD hS hA (fun r_23 u_23 H locs hp hP hD hS => ?_)
  obtain ⟨rfl, rfl⟩ := hp
  refine kL (rS hx hb hml hown hg hN hK hP hD (c_mix l D cI cJ cZ (XW ad cI cJ 0 b_14 F_15 G_16 ++ R) 2269346912348 0) mw_243 mw_244 mw_245 mw_110 pd_X7_mix ⟨Nat.le_of_ble_eq_true rfl, Nat.le_of_ble_eq_true rfl⟩ rfl hl.1 rfl (Nat.le_of_ble_eq_true rfl) dX7_digest_84 ⟨Nat.le_of_ble_eq_true rfl, Nat.le_of_ble_eq_true rfl⟩) hD hS hA (fun r_24 u_24 H locs hp hP hD hS => ?_)
  obtain ⟨hm, rfl⟩ := hp
  obtain rfl : r_24 = 70349754282788 := hm.trans (by decide)
  refine lv_lstore_n (lv' := [(1, .long 70349754282788), (0, .ref (ad 0))]) hx hb dX7_digest_87 rfl hl (by decide) rfl (fun ls hl => ?_)
  refine lv_aload_n hx hb dX7_digest_88 rfl (lv_at hl 1 rfl) ?_
  refine lv_lload_n hx hb dX7_digest_89 rfl (lv_at hl 0 rfl) ?_
  refine kL (rV (q0 := 0) (ci := 7) hx hb hml hown hg hN hK hP hD (c_dSteps l D cI cJ cZ ad b_14 F_15 G_16 R (70349754282788)) mw_283 mw_284 mw_285 mw_286 mw_110 pdv_X7_digestOfSteps ⟨Nat.le_of_ble_eq_true rfl, Nat.le_of_ble_eq_true rfl⟩ rfl rfl rfl hl.1 rfl (Nat.le_of_ble_eq_true rfl) dX7_digest_90 ⟨Nat.le_of_ble_eq_true rfl, Nat.le_of_ble_eq_true rfl⟩) hD hS hA (fun r_25 u_25 H locs hp hP hD hS => ?_)
  obtain ⟨hm, rfl⟩ := hp
  obtain rfl : r_25 = 2095789529838537308 := hm.trans (by decide)
  refine lv_lstore_n (lv' := [(1, .long 2095789529838537308), (0, .ref (ad 0))]) hx hb dX7_digest_93 rfl hl (by decide) rfl (fun ls hl => ?_)
  refine lv_aload_n hx hb dX7_digest_94 rfl (lv_at hl 1 rfl) ?_
  refine lv_lload_n hx hb dX7_digest_95 rfl (lv_at hl 0 rfl) ?_
  refine kL (rV (q0 := 0) (ci := 7) hx hb hml hown hg hN hK hP hD (c_dLayers l D cI cJ cZ ad b_14 F_15 G_16 R (2095789529838537308)) mw_287 mw_288 mw_289 mw_290 mw_110 pdv_X7_digestOfLayers ⟨Nat.le_of_ble_eq_true rfl, Nat.le_of_ble_eq_true rfl⟩ rfl rfl rfl hl.1 rfl (Nat.le_of_ble_eq_true rfl) dX7_digest_96 ⟨Nat.le_of_ble_eq_true rfl, Nat.le_of_ble_eq_true rfl⟩) hD hS hA (fun r_26 u_26 H locs hp hP hD hS => ?_)
  obtain ⟨hm, rfl⟩ := hp
  obtain rfl : r_26 = (-8817500869843549916) := hm.trans (by decide)
  refine lv_lstore_n (lv' := [(1, .long (-8817500869843549916)), (0, .ref (ad 0))]) hx hb dX7_digest_99 rfl hl (by decide) rfl (fun ls hl => ?_)
  refine lv_lload_n hx hb dX7_digest_100 rfl (lv_at hl 0 rfl) ?_
  refine lv_aload_n hx hb dX7_digest_101 rfl (lv_at hl 1 rfl) ?_
  refine va_get (D := D) (ci := 7) (v := .ref (ad 6)) (C := RX7) (T := TX7) (N := 6) hx hb hg inGX7 hown hK hP 0 rfl rfl 5 (by decide) (hg _ mw_214) (fun _ h9 => h9) rfl dX7_digest_102 ?_
  refine kI (rV (q0 := 6) (ci := 3) hx hb hml hown hg hN hK hP hD (c_countCrossings l D cI cJ cZ ad b_14 F_15 G_16 R) mw_239 mw_265 mw_241 mw_242 mw_179 pdv_X3_countCrossings ⟨Nat.le_of_ble_eq_true rfl, Nat.le_of_ble_eq_true rfl⟩ rfl rfl rfl hl.1 rfl (Nat.le_of_ble_eq_true rfl) dX7_digest_105 ⟨Nat.le_of_ble_eq_true rfl, Nat.le_of_ble_eq_true rfl⟩) hD hS hA (fun r_27 u_27 H locs hp hP hD hS => ?_)
  obtain ⟨rfl, rfl⟩ := hp
  refine kL (rS hx hb hml hown hg hN hK hP hD (c_mix l D cI cJ cZ (XW ad cI cJ 0 b_14 F_15 G_16 ++ R) (-8817500869843549916) 0) mw_243 mw_244 mw_245 mw_110 pd_X7_mix ⟨Nat.le_of_ble_eq_true rfl, Nat.le_of_ble_eq_true rfl⟩ rfl hl.1 rfl (Nat.le_of_ble_eq_true rfl) dX7_digest_108 ⟨Nat.le_of_ble_eq_true rfl, Nat.le_of_ble_eq_true rfl⟩) hD hS hA (fun r_28 u_28 H locs hp hP hD hS => ?_)
  obtain ⟨hm, rfl⟩ := hp
  obtain rfl : r_28 = 3358634140493226844 := hm.trans (by decide)
  refine lv_lstore_n (lv' := [(1, .long 3358634140493226844), (0, .ref (ad 0))]) hx hb dX7_digest_111 rfl hl (by decide) rfl (fun ls hl => ?_)
  refine lv_lload_n hx hb dX7_digest_112 rfl (lv_at hl 0 rfl) ?_
  refine lv_aload_n hx hb dX7_digest_113 rfl (lv_at hl 1 rfl) ?_
  refine va_get (D := D) (ci := 7) (v := .ref (ad 6)) (C := RX7) (T := TX7) (N := 6) hx hb hg inGX7 hown hK hP 0 rfl rfl 5 (by decide) (hg _ mw_214) (fun _ h9 => h9) rfl dX7_digest_114 ?_
  refine va_getN (D := D) (ci := 3) (v := .int (b_14 5)) (C := RX3) (T := TX3) (N := 16) hx hb hg inGX3 hown hK hP 6 rfl rfl 14 (by decide) (hN.use nw_63) (fun _ h9 => h9) rfl dX7_digest_117 ?_
  rw [(h5b_14 (by simp [hb_2, hb_6, hb_10, hb0]))]
  refine kL (rS hx hb hml hown hg hN hK hP hD (c_mix l D cI cJ cZ (XW ad cI cJ 0 b_14 F_15 G_16 ++ R) 3358634140493226844 0) mw_243 mw_244 mw_245 mw_110 pd_X7_mix ⟨Nat.le_of_ble_eq_true rfl, Nat.le_of_ble_eq_true rfl⟩ rfl hl.1 rfl (Nat.le_of_ble_eq_true rfl) dX7_digest_120 ⟨Nat.le_of_ble_eq_true rfl, Nat.le_of_ble_eq_true rfl⟩) hD hS hA (fun r_29 u_29 H locs hp hP hD hS => ?_)
  obtain ⟨hm, rfl⟩ := hp
  obtain rfl : r_29 = (-6562806086967277532) := hm.trans (by decide)
  exact W.lret (v := (-6562806086967277532)) hx hb hr (fun t ht hW => ⟨⟨(-6562806086967277532), (XW ad cI cJ 0 b_14 F_15 G_16 ++ R), rfl, ⟨rfl, _, _, _, _, rfl⟩, ⟨by rw [ht]; exact hP, va_K.moved hW.alike hK, hD⟩⟩, hS.F ht⟩) hS.2.2 dX7_digest_123
set_option maxHeartbeats 4000000 in
set_option maxRecDepth 100000 in
theorem p_remove (l : Launch) (hfl : l.stackTraces = false) (D : va_G) (cI cJ cZ : ClassId) (ad : Nat → Nat) (b : Nat → Int32) (F : Nat → Nat → Int32) (G : Nat → Nat → Int64) (R : va_W) (k : Int32) : CX l D (TY cI cJ cZ) yX7_remove (.code yX7_remove cX7_remove 2 (some Jvm.ClassFile.FieldType.int)) 7 1 6 (XW ad cI cJ 0 b F G ++ R) [.ref (ad 0), .int k] (QI D (TY cI cJ cZ) (fun r u => False)) EIOB (True) := by
  refine entX (by decide) (Nat.le_of_ble_eq_true rfl) ?_
  intro p e s m below meth c ls A hx hb hr hg hown hml hlocks hnm hP hK hD hS hA hN hl hE hST hSR hAw
  have hl : lv_has ls 2 [(0, .ref (ad 0)), (1, .int k)] := hl
  refine lv_aload_n hx hb dX7_remove_0 rfl (lv_at hl 0 rfl) ?_
  refine lv_iload_n hx hb dX7_remove_1 rfl (lv_at hl 1 rfl) ?_
  refine kXV (rXV (q0 := 0) (ci := 7) hx hb hml hown hg hN hK hP hD hST hSR hS hA (c_needInstruction l hfl D cI cJ cZ ad b F G R k) mw_291 mw_292 mw_293 mw_294 mw_110 pdv_X7_needInstruction ⟨Nat.le_of_ble_eq_true rfl, Nat.le_of_ble_eq_true rfl⟩ rfl rfl rfl hl.1 rfl (Nat.le_of_ble_eq_true rfl) dX7_remove_2 ⟨Nat.le_of_ble_eq_true rfl, Nat.le_of_ble_eq_true rfl⟩) hD hS hA (fun ce q9 H locs hpx hz9 hk9 hS h1 h2 h3 => xout trivial hE hlocks hS h1 h2 h3 (Nat.le_of_ble_eq_true rfl) (Nat.le_of_ble_eq_true rfl)) (fun u_1 H locs hp hP hD hS => ?_)
  exact hp.elim
set_option maxHeartbeats 4000000 in
set_option maxRecDepth 100000 in
theorem p_kindOf (l : Launch) (hfl : l.stackTraces = false) (D : va_G) (cI cJ cZ : ClassId) (ad : Nat → Nat) (b : Nat → Int32) (F : Nat → Nat → Int32) (G : Nat → Nat → Int64) (R : va_W) (k : Int32) : CX l D (TY cI cJ cZ) yX7_kindOf (.code yX7_kindOf cX7_kindOf 2 (some Jvm.ClassFile.FieldType.int)) 7 1 6 (XW ad cI cJ 0 b F G ++ R) [.ref (ad 0), .int k] (QI D (TY cI cJ cZ) (fun r u => False)) EIOB (True) := by
  refine entX (by decide) (Nat.le_of_ble_eq_true rfl) ?_
  intro p e s m below meth c ls A hx hb hr hg hown hml hlocks hnm hP hK hD hS hA hN hl hE hST hSR hAw
  have hl : lv_has ls 2 [(0, .ref (ad 0)), (1, .int k)] := hl
  refine lv_aload_n hx hb dX7_kindOf_0 rfl (lv_at hl 0 rfl) ?_
  refine lv_iload_n hx hb dX7_kindOf_1 rfl (lv_at hl 1 rfl) ?_
  refine kXV (rXV (q0 := 0) (ci := 7) hx hb hml hown hg hN hK hP hD hST hSR hS hA (c_needInstruction l hfl D cI cJ cZ ad b F G R k) mw_291 mw_292 mw_293 mw_294 mw_110 pdv_X7_needInstruction ⟨Nat.le_of_ble_eq_true rfl, Nat.le_of_ble_eq_true rfl⟩ rfl rfl rfl hl.1 rfl (Nat.le_of_ble_eq_true rfl) dX7_kindOf_2 ⟨Nat.le_of_ble_eq_true rfl, Nat.le_of_ble_eq_true rfl⟩) hD hS hA (fun ce q9 H locs hpx hz9 hk9 hS h1 h2 h3 => xout trivial hE hlocks hS h1 h2 h3 (Nat.le_of_ble_eq_true rfl) (Nat.le_of_ble_eq_true rfl)) (fun u_1 H locs hp hP hD hS => ?_)
  exact hp.elim
set_option maxHeartbeats 4000000 in
set_option maxRecDepth 100000 in
theorem p_targetOf (l : Launch) (hfl : l.stackTraces = false) (D : va_G) (cI cJ cZ : ClassId) (ad : Nat → Nat) (b : Nat → Int32) (F : Nat → Nat → Int32) (G : Nat → Nat → Int64) (R : va_W) (k : Int32) : CX l D (TY cI cJ cZ) yX7_targetOf (.code yX7_targetOf cX7_targetOf 2 (some Jvm.ClassFile.FieldType.int)) 7 1 6 (XW ad cI cJ 0 b F G ++ R) [.ref (ad 0), .int k] (QI D (TY cI cJ cZ) (fun r u => False)) EIOB (True) := by
  refine entX (by decide) (Nat.le_of_ble_eq_true rfl) ?_
  intro p e s m below meth c ls A hx hb hr hg hown hml hlocks hnm hP hK hD hS hA hN hl hE hST hSR hAw
  have hl : lv_has ls 2 [(0, .ref (ad 0)), (1, .int k)] := hl
  refine lv_aload_n hx hb dX7_targetOf_0 rfl (lv_at hl 0 rfl) ?_
  refine lv_iload_n hx hb dX7_targetOf_1 rfl (lv_at hl 1 rfl) ?_
  refine kXV (rXV (q0 := 0) (ci := 7) hx hb hml hown hg hN hK hP hD hST hSR hS hA (c_needInstruction l hfl D cI cJ cZ ad b F G R k) mw_291 mw_292 mw_293 mw_294 mw_110 pdv_X7_needInstruction ⟨Nat.le_of_ble_eq_true rfl, Nat.le_of_ble_eq_true rfl⟩ rfl rfl rfl hl.1 rfl (Nat.le_of_ble_eq_true rfl) dX7_targetOf_2 ⟨Nat.le_of_ble_eq_true rfl, Nat.le_of_ble_eq_true rfl⟩) hD hS hA (fun ce q9 H locs hpx hz9 hk9 hS h1 h2 h3 => xout trivial hE hlocks hS h1 h2 h3 (Nat.le_of_ble_eq_true rfl) (Nat.le_of_ble_eq_true rfl)) (fun u_1 H locs hp hP hD hS => ?_)
  exact hp.elim
set_option maxHeartbeats 4000000 in
set_option maxRecDepth 100000 in
theorem p_blockOf (l : Launch) (hfl : l.stackTraces = false) (D : va_G) (cI cJ cZ : ClassId) (ad : Nat → Nat) (b : Nat → Int32) (F : Nat → Nat → Int32) (G : Nat → Nat → Int64) (R : va_W) (k : Int32) : CX l D (TY cI cJ cZ) yX7_blockOf (.code yX7_blockOf cX7_blockOf 2 (some Jvm.ClassFile.FieldType.int)) 7 1 6 (XW ad cI cJ 0 b F G ++ R) [.ref (ad 0), .int k] (QI D (TY cI cJ cZ) (fun r u => False)) EIOB (True) := by
  refine entX (by decide) (Nat.le_of_ble_eq_true rfl) ?_
  intro p e s m below meth c ls A hx hb hr hg hown hml hlocks hnm hP hK hD hS hA hN hl hE hST hSR hAw
  have hl : lv_has ls 2 [(0, .ref (ad 0)), (1, .int k)] := hl
  refine lv_aload_n hx hb dX7_blockOf_0 rfl (lv_at hl 0 rfl) ?_
  refine lv_iload_n hx hb dX7_blockOf_1 rfl (lv_at hl 1 rfl) ?_
  refine kXV (rXV (q0 := 0) (ci := 7) hx hb hml hown hg hN hK hP hD hST hSR hS hA (c_needInstruction l hfl D cI cJ cZ ad b F G R k) mw_291 mw_292 mw_293 mw_294 mw_110 pdv_X7_needInstruction ⟨Nat.le_of_ble_eq_true rfl, Nat.le_of_ble_eq_true rfl⟩ rfl rfl rfl hl.1 rfl (Nat.le_of_ble_eq_true rfl) dX7_blockOf_2 ⟨Nat.le_of_ble_eq_true rfl, Nat.le_of_ble_eq_true rfl⟩) hD hS hA (fun ce q9 H locs hpx hz9 hk9 hS h1 h2 h3 => xout trivial hE hlocks hS h1 h2 h3 (Nat.le_of_ble_eq_true rfl) (Nat.le_of_ble_eq_true rfl)) (fun u_1 H locs hp hP hD hS => ?_)
  exact hp.elim
set_option maxHeartbeats 4000000 in
set_option maxRecDepth 100000 in
theorem p_firstOf (l : Launch) (hfl : l.stackTraces = false) (D : va_G) (cI cJ cZ : ClassId) (ad : Nat → Nat) (b : Nat → Int32) (F : Nat → Nat → Int32) (G : Nat → Nat → Int64) (R : va_W) (k : Int32) : CX l D (TY cI cJ cZ) yX7_firstOf (.code yX7_firstOf cX7_firstOf 2 (some Jvm.ClassFile.FieldType.int)) 7 1 6 (XW ad cI cJ 0 b F G ++ R) [.ref (ad 0), .int k] (QI D (TY cI cJ cZ) (fun r u => False)) EIOB (True) := by
  refine entX (by decide) (Nat.le_of_ble_eq_true rfl) ?_
  intro p e s m below meth c ls A hx hb hr hg hown hml hlocks hnm hP hK hD hS hA hN hl hE hST hSR hAw
  have hl : lv_has ls 2 [(0, .ref (ad 0)), (1, .int k)] := hl
  refine lv_aload_n hx hb dX7_firstOf_0 rfl (lv_at hl 0 rfl) ?_
  refine lv_iload_n hx hb dX7_firstOf_1 rfl (lv_at hl 1 rfl) ?_
  refine kXV (rXV (q0 := 0) (ci := 7) hx hb hml hown hg hN hK hP hD hST hSR hS hA (c_needBlock l hfl D cI cJ cZ ad b F G R k) mw_295 mw_296 mw_297 mw_298 mw_110 pdv_X7_needBlock ⟨Nat.le_of_ble_eq_true rfl, Nat.le_of_ble_eq_true rfl⟩ rfl rfl rfl hl.1 rfl (Nat.le_of_ble_eq_true rfl) dX7_firstOf_2 ⟨Nat.le_of_ble_eq_true rfl, Nat.le_of_ble_eq_true rfl⟩) hD hS hA (fun ce q9 H locs hpx hz9 hk9 hS h1 h2 h3 => xout trivial hE hlocks hS h1 h2 h3 (Nat.le_of_ble_eq_true rfl) (Nat.le_of_ble_eq_true rfl)) (fun u_1 H locs hp hP hD hS => ?_)
  exact hp.elim
set_option maxHeartbeats 4000000 in
set_option maxRecDepth 100000 in
theorem p_parentOf (l : Launch) (hfl : l.stackTraces = false) (D : va_G) (cI cJ cZ : ClassId) (ad : Nat → Nat) (b : Nat → Int32) (F : Nat → Nat → Int32) (G : Nat → Nat → Int64) (R : va_W) (k : Int32) : CX l D (TY cI cJ cZ) yX7_parentOf (.code yX7_parentOf cX7_parentOf 2 (some Jvm.ClassFile.FieldType.int)) 7 1 6 (XW ad cI cJ 0 b F G ++ R) [.ref (ad 0), .int k] (QI D (TY cI cJ cZ) (fun r u => False)) EIOB (True) := by
  refine entX (by decide) (Nat.le_of_ble_eq_true rfl) ?_
  intro p e s m below meth c ls A hx hb hr hg hown hml hlocks hnm hP hK hD hS hA hN hl hE hST hSR hAw
  have hl : lv_has ls 2 [(0, .ref (ad 0)), (1, .int k)] := hl
  refine lv_aload_n hx hb dX7_parentOf_0 rfl (lv_at hl 0 rfl) ?_
  refine lv_iload_n hx hb dX7_parentOf_1 rfl (lv_at hl 1 rfl) ?_
  refine kXV (rXV (q0 := 0) (ci := 7) hx hb hml hown hg hN hK hP hD hST hSR hS hA (c_needBlock l hfl D cI cJ cZ ad b F G R k) mw_295 mw_296 mw_297 mw_298 mw_110 pdv_X7_needBlock ⟨Nat.le_of_ble_eq_true rfl, Nat.le_of_ble_eq_true rfl⟩ rfl rfl rfl hl.1 rfl (Nat.le_of_ble_eq_true rfl) dX7_parentOf_2 ⟨Nat.le_of_ble_eq_true rfl, Nat.le_of_ble_eq_true rfl⟩) hD hS hA (fun ce q9 H locs hpx hz9 hk9 hS h1 h2 h3 => xout trivial hE hlocks hS h1 h2 h3 (Nat.le_of_ble_eq_true rfl) (Nat.le_of_ble_eq_true rfl)) (fun u_1 H locs hp hP hD hS => ?_)
  exact hp.elim
set_option maxHeartbeats 4000000 in
set_option maxRecDepth 100000 in
theorem p_loopSize (l : Launch) (hfl : l.stackTraces = false) (D : va_G) (cI cJ cZ : ClassId) (ad : Nat → Nat) (b : Nat → Int32) (F : Nat → Nat → Int32) (G : Nat → Nat → Int64) (R : va_W) (k : Int32) : CX l D (TY cI cJ cZ) yX7_loopSize (.code yX7_loopSize cX7_loopSize 2 (some Jvm.ClassFile.FieldType.int)) 7 1 6 (XW ad cI cJ 0 b F G ++ R) [.ref (ad 0), .int k] (QI D (TY cI cJ cZ) (fun r u => False)) EIOB (True) := by
  refine entX (by decide) (Nat.le_of_ble_eq_true rfl) ?_
  intro p e s m below meth c ls A hx hb hr hg hown hml hlocks hnm hP hK hD hS hA hN hl hE hST hSR hAw
  have hl : lv_has ls 2 [(0, .ref (ad 0)), (1, .int k)] := hl
  refine lv_aload_n hx hb dX7_loopSize_0 rfl (lv_at hl 0 rfl) ?_
  refine lv_iload_n hx hb dX7_loopSize_1 rfl (lv_at hl 1 rfl) ?_
  refine kXV (rXV (q0 := 0) (ci := 7) hx hb hml hown hg hN hK hP hD hST hSR hS hA (c_needBlock l hfl D cI cJ cZ ad b F G R k) mw_295 mw_296 mw_297 mw_298 mw_110 pdv_X7_needBlock ⟨Nat.le_of_ble_eq_true rfl, Nat.le_of_ble_eq_true rfl⟩ rfl rfl rfl hl.1 rfl (Nat.le_of_ble_eq_true rfl) dX7_loopSize_2 ⟨Nat.le_of_ble_eq_true rfl, Nat.le_of_ble_eq_true rfl⟩) hD hS hA (fun ce q9 H locs hpx hz9 hk9 hS h1 h2 h3 => xout trivial hE hlocks hS h1 h2 h3 (Nat.le_of_ble_eq_true rfl) (Nat.le_of_ble_eq_true rfl)) (fun u_1 H locs hp hP hD hS => ?_)
  exact hp.elim
set_option maxHeartbeats 4000000 in
set_option maxRecDepth 100000 in
theorem p_depthOf (l : Launch) (hfl : l.stackTraces = false) (D : va_G) (cI cJ cZ : ClassId) (ad : Nat → Nat) (b : Nat → Int32) (F : Nat → Nat → Int32) (G : Nat → Nat → Int64) (R : va_W) (k : Int32) : CX l D (TY cI cJ cZ) yX7_depthOf (.code yX7_depthOf cX7_depthOf 2 (some Jvm.ClassFile.FieldType.int)) 7 1 6 (XW ad cI cJ 0 b F G ++ R) [.ref (ad 0), .int k] (QI D (TY cI cJ cZ) (fun r u => False)) EIOB (True) := by
  refine entX (by decide) (Nat.le_of_ble_eq_true rfl) ?_
  intro p e s m below meth c ls A hx hb hr hg hown hml hlocks hnm hP hK hD hS hA hN hl hE hST hSR hAw
  have hl : lv_has ls 2 [(0, .ref (ad 0)), (1, .int k)] := hl
  refine lv_aload_n hx hb dX7_depthOf_0 rfl (lv_at hl 0 rfl) ?_
  refine lv_iload_n hx hb dX7_depthOf_1 rfl (lv_at hl 1 rfl) ?_
  refine kXV (rXV (q0 := 0) (ci := 7) hx hb hml hown hg hN hK hP hD hST hSR hS hA (c_needBlock l hfl D cI cJ cZ ad b F G R k) mw_295 mw_296 mw_297 mw_298 mw_110 pdv_X7_needBlock ⟨Nat.le_of_ble_eq_true rfl, Nat.le_of_ble_eq_true rfl⟩ rfl rfl rfl hl.1 rfl (Nat.le_of_ble_eq_true rfl) dX7_depthOf_2 ⟨Nat.le_of_ble_eq_true rfl, Nat.le_of_ble_eq_true rfl⟩) hD hS hA (fun ce q9 H locs hpx hz9 hk9 hS h1 h2 h3 => xout trivial hE hlocks hS h1 h2 h3 (Nat.le_of_ble_eq_true rfl) (Nat.le_of_ble_eq_true rfl)) (fun u_1 H locs hp hP hD hS => ?_)
  exact hp.elim
set_option maxHeartbeats 4000000 in
set_option maxRecDepth 100000 in
theorem p_liveIn (l : Launch) (hfl : l.stackTraces = false) (D : va_G) (cI cJ cZ : ClassId) (ad : Nat → Nat) (b : Nat → Int32) (F : Nat → Nat → Int32) (G : Nat → Nat → Int64) (R : va_W) (k : Int32) : CX l D (TY cI cJ cZ) yX7_liveIn (.code yX7_liveIn cX7_liveIn 2 (some Jvm.ClassFile.FieldType.int)) 7 1 6 (XW ad cI cJ 0 b F G ++ R) [.ref (ad 0), .int k] (QI D (TY cI cJ cZ) (fun r u => False)) EIOB (True) := by
  refine entX (by decide) (Nat.le_of_ble_eq_true rfl) ?_
  intro p e s m below meth c ls A hx hb hr hg hown hml hlocks hnm hP hK hD hS hA hN hl hE hST hSR hAw
  have hl : lv_has ls 2 [(0, .ref (ad 0)), (1, .int k)] := hl
  refine lv_aload_n hx hb dX7_liveIn_0 rfl (lv_at hl 0 rfl) ?_
  refine lv_iload_n hx hb dX7_liveIn_1 rfl (lv_at hl 1 rfl) ?_
  refine kXV (rXV (q0 := 0) (ci := 7) hx hb hml hown hg hN hK hP hD hST hSR hS hA (c_needBlock l hfl D cI cJ cZ ad b F G R k) mw_295 mw_296 mw_297 mw_298 mw_110 pdv_X7_needBlock ⟨Nat.le_of_ble_eq_true rfl, Nat.le_of_ble_eq_true rfl⟩ rfl rfl rfl hl.1 rfl (Nat.le_of_ble_eq_true rfl) dX7_liveIn_2 ⟨Nat.le_of_ble_eq_true rfl, Nat.le_of_ble_eq_true rfl⟩) hD hS hA (fun ce q9 H locs hpx hz9 hk9 hS h1 h2 h3 => xout trivial hE hlocks hS h1 h2 h3 (Nat.le_of_ble_eq_true rfl) (Nat.le_of_ble_eq_true rfl)) (fun u_1 H locs hp hP hD hS => ?_)
  exact hp.elim
set_option maxHeartbeats 4000000 in
set_option maxRecDepth 100000 in
theorem p_endsIn (l : Launch) (hfl : l.stackTraces = false) (D : va_G) (cI cJ cZ : ClassId) (ad : Nat → Nat) (b : Nat → Int32) (F : Nat → Nat → Int32) (G : Nat → Nat → Int64) (R : va_W) (k : Int32) : CX l D (TY cI cJ cZ) yX7_endsIn (.code yX7_endsIn cX7_endsIn 2 (some Jvm.ClassFile.FieldType.int)) 7 1 6 (XW ad cI cJ 0 b F G ++ R) [.ref (ad 0), .int k] (QI D (TY cI cJ cZ) (fun r u => False)) EIOB (True) := by
  refine entX (by decide) (Nat.le_of_ble_eq_true rfl) ?_
  intro p e s m below meth c ls A hx hb hr hg hown hml hlocks hnm hP hK hD hS hA hN hl hE hST hSR hAw
  have hl : lv_has ls 2 [(0, .ref (ad 0)), (1, .int k)] := hl
  refine lv_aload_n hx hb dX7_endsIn_0 rfl (lv_at hl 0 rfl) ?_
  refine lv_iload_n hx hb dX7_endsIn_1 rfl (lv_at hl 1 rfl) ?_
  refine kXV (rXV (q0 := 0) (ci := 7) hx hb hml hown hg hN hK hP hD hST hSR hS hA (c_needBlock l hfl D cI cJ cZ ad b F G R k) mw_295 mw_296 mw_297 mw_298 mw_110 pdv_X7_needBlock ⟨Nat.le_of_ble_eq_true rfl, Nat.le_of_ble_eq_true rfl⟩ rfl rfl rfl hl.1 rfl (Nat.le_of_ble_eq_true rfl) dX7_endsIn_2 ⟨Nat.le_of_ble_eq_true rfl, Nat.le_of_ble_eq_true rfl⟩) hD hS hA (fun ce q9 H locs hpx hz9 hk9 hS h1 h2 h3 => xout trivial hE hlocks hS h1 h2 h3 (Nat.le_of_ble_eq_true rfl) (Nat.le_of_ble_eq_true rfl)) (fun u_1 H locs hp hP hD hS => ?_)
  exact hp.elim
set_option maxHeartbeats 4000000 in
set_option maxRecDepth 100000 in
theorem p_layerOf (l : Launch) (hfl : l.stackTraces = false) (D : va_G) (cI cJ cZ : ClassId) (ad : Nat → Nat) (b : Nat → Int32) (F : Nat → Nat → Int32) (G : Nat → Nat → Int64) (R : va_W) (k : Int32) : CX l D (TY cI cJ cZ) yX7_layerOf (.code yX7_layerOf cX7_layerOf 2 (some Jvm.ClassFile.FieldType.int)) 7 1 6 (XW ad cI cJ 0 b F G ++ R) [.ref (ad 0), .int k] (QI D (TY cI cJ cZ) (fun r u => False)) EIOB (True) := by
  refine entX (by decide) (Nat.le_of_ble_eq_true rfl) ?_
  intro p e s m below meth c ls A hx hb hr hg hown hml hlocks hnm hP hK hD hS hA hN hl hE hST hSR hAw
  have hl : lv_has ls 2 [(0, .ref (ad 0)), (1, .int k)] := hl
  refine lv_aload_n hx hb dX7_layerOf_0 rfl (lv_at hl 0 rfl) ?_
  refine lv_iload_n hx hb dX7_layerOf_1 rfl (lv_at hl 1 rfl) ?_
  refine kXV (rXV (q0 := 0) (ci := 7) hx hb hml hown hg hN hK hP hD hST hSR hS hA (c_needBlock l hfl D cI cJ cZ ad b F G R k) mw_295 mw_296 mw_297 mw_298 mw_110 pdv_X7_needBlock ⟨Nat.le_of_ble_eq_true rfl, Nat.le_of_ble_eq_true rfl⟩ rfl rfl rfl hl.1 rfl (Nat.le_of_ble_eq_true rfl) dX7_layerOf_2 ⟨Nat.le_of_ble_eq_true rfl, Nat.le_of_ble_eq_true rfl⟩) hD hS hA (fun ce q9 H locs hpx hz9 hk9 hS h1 h2 h3 => xout trivial hE hlocks hS h1 h2 h3 (Nat.le_of_ble_eq_true rfl) (Nat.le_of_ble_eq_true rfl)) (fun u_1 H locs hp hP hD hS => ?_)
  exact hp.elim
set_option maxHeartbeats 4000000 in
set_option maxRecDepth 100000 in
theorem p_placeOf (l : Launch) (hfl : l.stackTraces = false) (D : va_G) (cI cJ cZ : ClassId) (ad : Nat → Nat) (b : Nat → Int32) (F : Nat → Nat → Int32) (G : Nat → Nat → Int64) (R : va_W) (k : Int32) : CX l D (TY cI cJ cZ) yX7_placeOf (.code yX7_placeOf cX7_placeOf 2 (some Jvm.ClassFile.FieldType.int)) 7 1 6 (XW ad cI cJ 0 b F G ++ R) [.ref (ad 0), .int k] (QI D (TY cI cJ cZ) (fun r u => False)) EIOB (True) := by
  refine entX (by decide) (Nat.le_of_ble_eq_true rfl) ?_
  intro p e s m below meth c ls A hx hb hr hg hown hml hlocks hnm hP hK hD hS hA hN hl hE hST hSR hAw
  have hl : lv_has ls 2 [(0, .ref (ad 0)), (1, .int k)] := hl
  refine lv_aload_n hx hb dX7_placeOf_0 rfl (lv_at hl 0 rfl) ?_
  refine lv_iload_n hx hb dX7_placeOf_1 rfl (lv_at hl 1 rfl) ?_
  refine kXV (rXV (q0 := 0) (ci := 7) hx hb hml hown hg hN hK hP hD hST hSR hS hA (c_needBlock l hfl D cI cJ cZ ad b F G R k) mw_295 mw_296 mw_297 mw_298 mw_110 pdv_X7_needBlock ⟨Nat.le_of_ble_eq_true rfl, Nat.le_of_ble_eq_true rfl⟩ rfl rfl rfl hl.1 rfl (Nat.le_of_ble_eq_true rfl) dX7_placeOf_2 ⟨Nat.le_of_ble_eq_true rfl, Nat.le_of_ble_eq_true rfl⟩) hD hS hA (fun ce q9 H locs hpx hz9 hk9 hS h1 h2 h3 => xout trivial hE hlocks hS h1 h2 h3 (Nat.le_of_ble_eq_true rfl) (Nat.le_of_ble_eq_true rfl)) (fun u_1 H locs hp hP hD hS => ?_)
  exact hp.elim
set_option maxHeartbeats 4000000 in
set_option maxRecDepth 100000 in
theorem p_edgeFrom (l : Launch) (hfl : l.stackTraces = false) (D : va_G) (cI cJ cZ : ClassId) (ad : Nat → Nat) (b : Nat → Int32) (F : Nat → Nat → Int32) (G : Nat → Nat → Int64) (R : va_W) (k : Int32) : CX l D (TY cI cJ cZ) yX7_edgeFrom (.code yX7_edgeFrom cX7_edgeFrom 2 (some Jvm.ClassFile.FieldType.int)) 7 1 6 (XW ad cI cJ 0 b F G ++ R) [.ref (ad 0), .int k] (QI D (TY cI cJ cZ) (fun r u => False)) EIOB (True) := by
  refine entX (by decide) (Nat.le_of_ble_eq_true rfl) ?_
  intro p e s m below meth c ls A hx hb hr hg hown hml hlocks hnm hP hK hD hS hA hN hl hE hST hSR hAw
  have hl : lv_has ls 2 [(0, .ref (ad 0)), (1, .int k)] := hl
  refine lv_aload_n hx hb dX7_edgeFrom_0 rfl (lv_at hl 0 rfl) ?_
  refine lv_iload_n hx hb dX7_edgeFrom_1 rfl (lv_at hl 1 rfl) ?_
  refine kXV (rXV (q0 := 0) (ci := 7) hx hb hml hown hg hN hK hP hD hST hSR hS hA (c_needEdge l hfl D cI cJ cZ ad b F G R k) mw_299 mw_300 mw_301 mw_302 mw_110 pdv_X7_needEdge ⟨Nat.le_of_ble_eq_true rfl, Nat.le_of_ble_eq_true rfl⟩ rfl rfl rfl hl.1 rfl (Nat.le_of_ble_eq_true rfl) dX7_edgeFrom_2 ⟨Nat.le_of_ble_eq_true rfl, Nat.le_of_ble_eq_true rfl⟩) hD hS hA (fun ce q9 H locs hpx hz9 hk9 hS h1 h2 h3 => xout trivial hE hlocks hS h1 h2 h3 (Nat.le_of_ble_eq_true rfl) (Nat.le_of_ble_eq_true rfl)) (fun u_1 H locs hp hP hD hS => ?_)
  exact hp.elim
set_option maxHeartbeats 4000000 in
set_option maxRecDepth 100000 in
theorem p_edgeTo (l : Launch) (hfl : l.stackTraces = false) (D : va_G) (cI cJ cZ : ClassId) (ad : Nat → Nat) (b : Nat → Int32) (F : Nat → Nat → Int32) (G : Nat → Nat → Int64) (R : va_W) (k : Int32) : CX l D (TY cI cJ cZ) yX7_edgeTo (.code yX7_edgeTo cX7_edgeTo 2 (some Jvm.ClassFile.FieldType.int)) 7 1 6 (XW ad cI cJ 0 b F G ++ R) [.ref (ad 0), .int k] (QI D (TY cI cJ cZ) (fun r u => False)) EIOB (True) := by
  refine entX (by decide) (Nat.le_of_ble_eq_true rfl) ?_
  intro p e s m below meth c ls A hx hb hr hg hown hml hlocks hnm hP hK hD hS hA hN hl hE hST hSR hAw
  have hl : lv_has ls 2 [(0, .ref (ad 0)), (1, .int k)] := hl
  refine lv_aload_n hx hb dX7_edgeTo_0 rfl (lv_at hl 0 rfl) ?_
  refine lv_iload_n hx hb dX7_edgeTo_1 rfl (lv_at hl 1 rfl) ?_
  refine kXV (rXV (q0 := 0) (ci := 7) hx hb hml hown hg hN hK hP hD hST hSR hS hA (c_needEdge l hfl D cI cJ cZ ad b F G R k) mw_299 mw_300 mw_301 mw_302 mw_110 pdv_X7_needEdge ⟨Nat.le_of_ble_eq_true rfl, Nat.le_of_ble_eq_true rfl⟩ rfl rfl rfl hl.1 rfl (Nat.le_of_ble_eq_true rfl) dX7_edgeTo_2 ⟨Nat.le_of_ble_eq_true rfl, Nat.le_of_ble_eq_true rfl⟩) hD hS hA (fun ce q9 H locs hpx hz9 hk9 hS h1 h2 h3 => xout trivial hE hlocks hS h1 h2 h3 (Nat.le_of_ble_eq_true rfl) (Nat.le_of_ble_eq_true rfl)) (fun u_1 H locs hp hP hD hS => ?_)
  exact hp.elim
set_option maxHeartbeats 4000000 in
set_option maxRecDepth 100000 in
theorem p_bends (l : Launch) (hfl : l.stackTraces = false) (D : va_G) (cI cJ cZ : ClassId) (ad : Nat → Nat) (b : Nat → Int32) (F : Nat → Nat → Int32) (G : Nat → Nat → Int64) (R : va_W) (k : Int32) : CX l D (TY cI cJ cZ) yX7_bends (.code yX7_bends cX7_bends 2 (some Jvm.ClassFile.FieldType.int)) 7 1 6 (XW ad cI cJ 0 b F G ++ R) [.ref (ad 0), .int k] (QI D (TY cI cJ cZ) (fun r u => False)) EIOB (True) := by
  refine entX (by decide) (Nat.le_of_ble_eq_true rfl) ?_
  intro p e s m below meth c ls A hx hb hr hg hown hml hlocks hnm hP hK hD hS hA hN hl hE hST hSR hAw
  have hl : lv_has ls 2 [(0, .ref (ad 0)), (1, .int k)] := hl
  refine lv_aload_n hx hb dX7_bends_0 rfl (lv_at hl 0 rfl) ?_
  refine lv_iload_n hx hb dX7_bends_1 rfl (lv_at hl 1 rfl) ?_
  refine kXV (rXV (q0 := 0) (ci := 7) hx hb hml hown hg hN hK hP hD hST hSR hS hA (c_needEdge l hfl D cI cJ cZ ad b F G R k) mw_299 mw_300 mw_301 mw_302 mw_110 pdv_X7_needEdge ⟨Nat.le_of_ble_eq_true rfl, Nat.le_of_ble_eq_true rfl⟩ rfl rfl rfl hl.1 rfl (Nat.le_of_ble_eq_true rfl) dX7_bends_2 ⟨Nat.le_of_ble_eq_true rfl, Nat.le_of_ble_eq_true rfl⟩) hD hS hA (fun ce q9 H locs hpx hz9 hk9 hS h1 h2 h3 => xout trivial hE hlocks hS h1 h2 h3 (Nat.le_of_ble_eq_true rfl) (Nat.le_of_ble_eq_true rfl)) (fun u_1 H locs hp hP hD hS => ?_)
  exact hp.elim
set_option maxHeartbeats 4000000 in
set_option maxRecDepth 100000 in
theorem p_ruleOf (l : Launch) (hfl : l.stackTraces = false) (D : va_G) (cI cJ cZ : ClassId) (ad : Nat → Nat) (b : Nat → Int32) (F : Nat → Nat → Int32) (G : Nat → Nat → Int64) (R : va_W) (k : Int32) : CX l D (TY cI cJ cZ) yX7_ruleOf (.code yX7_ruleOf cX7_ruleOf 2 (some Jvm.ClassFile.FieldType.int)) 7 1 6 (XW ad cI cJ 0 b F G ++ R) [.ref (ad 0), .int k] (QI D (TY cI cJ cZ) (fun r u => False)) EIOB (True) := by
  refine entX (by decide) (Nat.le_of_ble_eq_true rfl) ?_
  intro p e s m below meth c ls A hx hb hr hg hown hml hlocks hnm hP hK hD hS hA hN hl hE hST hSR hAw
  have hl : lv_has ls 2 [(0, .ref (ad 0)), (1, .int k)] := hl
  refine lv_aload_n hx hb dX7_ruleOf_0 rfl (lv_at hl 0 rfl) ?_
  refine lv_iload_n hx hb dX7_ruleOf_1 rfl (lv_at hl 1 rfl) ?_
  refine kXV (rXV (q0 := 0) (ci := 7) hx hb hml hown hg hN hK hP hD hST hSR hS hA (c_needStep l hfl D cI cJ cZ ad b F G R k) mw_303 mw_304 mw_305 mw_306 mw_110 pdv_X7_needStep ⟨Nat.le_of_ble_eq_true rfl, Nat.le_of_ble_eq_true rfl⟩ rfl rfl rfl hl.1 rfl (Nat.le_of_ble_eq_true rfl) dX7_ruleOf_2 ⟨Nat.le_of_ble_eq_true rfl, Nat.le_of_ble_eq_true rfl⟩) hD hS hA (fun ce q9 H locs hpx hz9 hk9 hS h1 h2 h3 => xout trivial hE hlocks hS h1 h2 h3 (Nat.le_of_ble_eq_true rfl) (Nat.le_of_ble_eq_true rfl)) (fun u_1 H locs hp hP hD hS => ?_)
  exact hp.elim
set_option maxHeartbeats 4000000 in
set_option maxRecDepth 100000 in
theorem p_nodeOf (l : Launch) (hfl : l.stackTraces = false) (D : va_G) (cI cJ cZ : ClassId) (ad : Nat → Nat) (b : Nat → Int32) (F : Nat → Nat → Int32) (G : Nat → Nat → Int64) (R : va_W) (k : Int32) : CX l D (TY cI cJ cZ) yX7_nodeOf (.code yX7_nodeOf cX7_nodeOf 2 (some Jvm.ClassFile.FieldType.int)) 7 1 6 (XW ad cI cJ 0 b F G ++ R) [.ref (ad 0), .int k] (QI D (TY cI cJ cZ) (fun r u => False)) EIOB (True) := by
  refine entX (by decide) (Nat.le_of_ble_eq_true rfl) ?_
  intro p e s m below meth c ls A hx hb hr hg hown hml hlocks hnm hP hK hD hS hA hN hl hE hST hSR hAw
  have hl : lv_has ls 2 [(0, .ref (ad 0)), (1, .int k)] := hl
  refine lv_aload_n hx hb dX7_nodeOf_0 rfl (lv_at hl 0 rfl) ?_
  refine lv_iload_n hx hb dX7_nodeOf_1 rfl (lv_at hl 1 rfl) ?_
  refine kXV (rXV (q0 := 0) (ci := 7) hx hb hml hown hg hN hK hP hD hST hSR hS hA (c_needStep l hfl D cI cJ cZ ad b F G R k) mw_303 mw_304 mw_305 mw_306 mw_110 pdv_X7_needStep ⟨Nat.le_of_ble_eq_true rfl, Nat.le_of_ble_eq_true rfl⟩ rfl rfl rfl hl.1 rfl (Nat.le_of_ble_eq_true rfl) dX7_nodeOf_2 ⟨Nat.le_of_ble_eq_true rfl, Nat.le_of_ble_eq_true rfl⟩) hD hS hA (fun ce q9 H locs hpx hz9 hk9 hS h1 h2 h3 => xout trivial hE hlocks hS h1 h2 h3 (Nat.le_of_ble_eq_true rfl) (Nat.le_of_ble_eq_true rfl)) (fun u_1 H locs hp hP hD hS => ?_)
  exact hp.elim
set_option maxHeartbeats 4000000 in
set_option maxRecDepth 100000 in
theorem p_points (l : Launch) (hfl : l.stackTraces = false) (D : va_G) (cI cJ cZ : ClassId) (ad : Nat → Nat) (b : Nat → Int32) (F : Nat → Nat → Int32) (G : Nat → Nat → Int64) (R : va_W) (k : Int32) : CX l D (TY cI cJ cZ) yX7_points (.code yX7_points cX7_points 2 (some Jvm.ClassFile.FieldType.int)) 7 1 6 (XW ad cI cJ 0 b F G ++ R) [.ref (ad 0), .int k] (QI D (TY cI cJ cZ) (fun r u => False)) EIOB (True) := by
  refine entX (by decide) (Nat.le_of_ble_eq_true rfl) ?_
  intro p e s m below meth c ls A hx hb hr hg hown hml hlocks hnm hP hK hD hS hA hN hl hE hST hSR hAw
  have hl : lv_has ls 2 [(0, .ref (ad 0)), (1, .int k)] := hl
  refine lv_aload_n hx hb dX7_points_0 rfl (lv_at hl 0 rfl) ?_
  refine lv_iload_n hx hb dX7_points_1 rfl (lv_at hl 1 rfl) ?_
  refine kXV (rXV (q0 := 0) (ci := 7) hx hb hml hown hg hN hK hP hD hST hSR hS hA (c_needLayer l hfl D cI cJ cZ ad b F G R k) mw_307 mw_308 mw_309 mw_310 mw_110 pdv_X7_needLayer ⟨Nat.le_of_ble_eq_true rfl, Nat.le_of_ble_eq_true rfl⟩ rfl rfl rfl hl.1 rfl (Nat.le_of_ble_eq_true rfl) dX7_points_2 ⟨Nat.le_of_ble_eq_true rfl, Nat.le_of_ble_eq_true rfl⟩) hD hS hA (fun ce q9 H locs hpx hz9 hk9 hS h1 h2 h3 => xout trivial hE hlocks hS h1 h2 h3 (Nat.le_of_ble_eq_true rfl) (Nat.le_of_ble_eq_true rfl)) (fun u_1 H locs hp hP hD hS => ?_)
  exact hp.elim
set_option maxHeartbeats 4000000 in
set_option maxRecDepth 100000 in
theorem p_isReached (l : Launch) (hfl : l.stackTraces = false) (D : va_G) (cI cJ cZ : ClassId) (ad : Nat → Nat) (b : Nat → Int32) (F : Nat → Nat → Int32) (G : Nat → Nat → Int64) (R : va_W) (k : Int32) : CX l D (TY cI cJ cZ) yX7_isReached (.code yX7_isReached cX7_isReached 2 (some Jvm.ClassFile.FieldType.boolean)) 7 1 6 (XW ad cI cJ 0 b F G ++ R) [.ref (ad 0), .int k] (QI D (TY cI cJ cZ) (fun r u => False)) EIOB (True) := by
  refine entX (by decide) (Nat.le_of_ble_eq_true rfl) ?_
  intro p e s m below meth c ls A hx hb hr hg hown hml hlocks hnm hP hK hD hS hA hN hl hE hST hSR hAw
  have hl : lv_has ls 2 [(0, .ref (ad 0)), (1, .int k)] := hl
  refine lv_aload_n hx hb dX7_isReached_0 rfl (lv_at hl 0 rfl) ?_
  refine lv_iload_n hx hb dX7_isReached_1 rfl (lv_at hl 1 rfl) ?_
  refine kXV (rXV (q0 := 0) (ci := 7) hx hb hml hown hg hN hK hP hD hST hSR hS hA (c_needBlock l hfl D cI cJ cZ ad b F G R k) mw_295 mw_296 mw_297 mw_298 mw_110 pdv_X7_needBlock ⟨Nat.le_of_ble_eq_true rfl, Nat.le_of_ble_eq_true rfl⟩ rfl rfl rfl hl.1 rfl (Nat.le_of_ble_eq_true rfl) dX7_isReached_2 ⟨Nat.le_of_ble_eq_true rfl, Nat.le_of_ble_eq_true rfl⟩) hD hS hA (fun ce q9 H locs hpx hz9 hk9 hS h1 h2 h3 => xout trivial hE hlocks hS h1 h2 h3 (Nat.le_of_ble_eq_true rfl) (Nat.le_of_ble_eq_true rfl)) (fun u_1 H locs hp hP hD hS => ?_)
  exact hp.elim
set_option maxHeartbeats 4000000 in
set_option maxRecDepth 100000 in
theorem p_isBack (l : Launch) (hfl : l.stackTraces = false) (D : va_G) (cI cJ cZ : ClassId) (ad : Nat → Nat) (b : Nat → Int32) (F : Nat → Nat → Int32) (G : Nat → Nat → Int64) (R : va_W) (k : Int32) : CX l D (TY cI cJ cZ) yX7_isBack (.code yX7_isBack cX7_isBack 2 (some Jvm.ClassFile.FieldType.boolean)) 7 1 6 (XW ad cI cJ 0 b F G ++ R) [.ref (ad 0), .int k] (QI D (TY cI cJ cZ) (fun r u => False)) EIOB (True) := by
  refine entX (by decide) (Nat.le_of_ble_eq_true rfl) ?_
  intro p e s m below meth c ls A hx hb hr hg hown hml hlocks hnm hP hK hD hS hA hN hl hE hST hSR hAw
  have hl : lv_has ls 2 [(0, .ref (ad 0)), (1, .int k)] := hl
  refine lv_aload_n hx hb dX7_isBack_0 rfl (lv_at hl 0 rfl) ?_
  refine lv_iload_n hx hb dX7_isBack_1 rfl (lv_at hl 1 rfl) ?_
  refine kXV (rXV (q0 := 0) (ci := 7) hx hb hml hown hg hN hK hP hD hST hSR hS hA (c_needEdge l hfl D cI cJ cZ ad b F G R k) mw_299 mw_300 mw_301 mw_302 mw_110 pdv_X7_needEdge ⟨Nat.le_of_ble_eq_true rfl, Nat.le_of_ble_eq_true rfl⟩ rfl rfl rfl hl.1 rfl (Nat.le_of_ble_eq_true rfl) dX7_isBack_2 ⟨Nat.le_of_ble_eq_true rfl, Nat.le_of_ble_eq_true rfl⟩) hD hS hA (fun ce q9 H locs hpx hz9 hk9 hS h1 h2 h3 => xout trivial hE hlocks hS h1 h2 h3 (Nat.le_of_ble_eq_true rfl) (Nat.le_of_ble_eq_true rfl)) (fun u_1 H locs hp hP hD hS => ?_)
  exact hp.elim
set_option maxHeartbeats 4000000 in
set_option maxRecDepth 100000 in
theorem p_isTurned (l : Launch) (hfl : l.stackTraces = false) (D : va_G) (cI cJ cZ : ClassId) (ad : Nat → Nat) (b : Nat → Int32) (F : Nat → Nat → Int32) (G : Nat → Nat → Int64) (R : va_W) (k : Int32) : CX l D (TY cI cJ cZ) yX7_isTurned (.code yX7_isTurned cX7_isTurned 2 (some Jvm.ClassFile.FieldType.boolean)) 7 1 6 (XW ad cI cJ 0 b F G ++ R) [.ref (ad 0), .int k] (QI D (TY cI cJ cZ) (fun r u => False)) EIOB (True) := by
  refine entX (by decide) (Nat.le_of_ble_eq_true rfl) ?_
  intro p e s m below meth c ls A hx hb hr hg hown hml hlocks hnm hP hK hD hS hA hN hl hE hST hSR hAw
  have hl : lv_has ls 2 [(0, .ref (ad 0)), (1, .int k)] := hl
  refine lv_aload_n hx hb dX7_isTurned_0 rfl (lv_at hl 0 rfl) ?_
  refine lv_iload_n hx hb dX7_isTurned_1 rfl (lv_at hl 1 rfl) ?_
  refine kXV (rXV (q0 := 0) (ci := 7) hx hb hml hown hg hN hK hP hD hST hSR hS hA (c_needEdge l hfl D cI cJ cZ ad b F G R k) mw_299 mw_300 mw_301 mw_302 mw_110 pdv_X7_needEdge ⟨Nat.le_of_ble_eq_true rfl, Nat.le_of_ble_eq_true rfl⟩ rfl rfl rfl hl.1 rfl (Nat.le_of_ble_eq_true rfl) dX7_isTurned_2 ⟨Nat.le_of_ble_eq_true rfl, Nat.le_of_ble_eq_true rfl⟩) hD hS hA (fun ce q9 H locs hpx hz9 hk9 hS h1 h2 h3 => xout trivial hE hlocks hS h1 h2 h3 (Nat.le_of_ble_eq_true rfl) (Nat.le_of_ble_eq_true rfl)) (fun u_1 H locs hp hP hD hS => ?_)
  exact hp.elim
set_option maxHeartbeats 4000000 in
set_option maxRecDepth 100000 in
theorem p_setTarget (l : Launch) (hfl : l.stackTraces = false) (D : va_G) (cI cJ cZ : ClassId) (ad : Nat → Nat) (b : Nat → Int32) (F : Nat → Nat → Int32) (G : Nat → Nat → Int64) (R : va_W) (k : Int32) (k2 : Int32) : CX l D (TY cI cJ cZ) yX7_setTarget (.code yX7_setTarget cX7_setTarget 4 (some Jvm.ClassFile.FieldType.int)) 7 1 6 (XW ad cI cJ 0 b F G ++ R) [.ref (ad 0), .int k, .int k2] (QI D (TY cI cJ cZ) (fun r u => False)) EIOB (True) := by
  refine entX (by decide) (Nat.le_of_ble_eq_true rfl) ?_
  intro p e s m below meth c ls A hx hb hr hg hown hml hlocks hnm hP hK hD hS hA hN hl hE hST hSR hAw
  have hl : lv_has ls 4 [(0, .ref (ad 0)), (1, .int k), (2, .int k2)] := hl
  refine lv_aload_n hx hb dX7_setTarget_0 rfl (lv_at hl 0 rfl) ?_
  refine lv_iload_n hx hb dX7_setTarget_1 rfl (lv_at hl 1 rfl) ?_
  refine kXV (rXV (q0 := 0) (ci := 7) hx hb hml hown hg hN hK hP hD hST hSR hS hA (c_needInstruction l hfl D cI cJ cZ ad b F G R k) mw_291 mw_292 mw_293 mw_294 mw_110 pdv_X7_needInstruction ⟨Nat.le_of_ble_eq_true rfl, Nat.le_of_ble_eq_true rfl⟩ rfl rfl rfl hl.1 rfl (Nat.le_of_ble_eq_true rfl) dX7_setTarget_2 ⟨Nat.le_of_ble_eq_true rfl, Nat.le_of_ble_eq_true rfl⟩) hD hS hA (fun ce q9 H locs hpx hz9 hk9 hS h1 h2 h3 => xout trivial hE hlocks hS h1 h2 h3 (Nat.le_of_ble_eq_true rfl) (Nat.le_of_ble_eq_true rfl)) (fun u_1 H locs hp hP hD hS => ?_)
  exact hp.elim
set_option maxHeartbeats 4000000 in
set_option maxRecDepth 100000 in
theorem p_bendAt (l : Launch) (hfl : l.stackTraces = false) (D : va_G) (cI cJ cZ : ClassId) (ad : Nat → Nat) (b : Nat → Int32) (F : Nat → Nat → Int32) (G : Nat → Nat → Int64) (R : va_W) (k : Int32) (k2 : Int32) : CX l D (TY cI cJ cZ) yX7_bendAt (.code yX7_bendAt cX7_bendAt 3 (some Jvm.ClassFile.FieldType.int)) 7 1 6 (XW ad cI cJ 0 b F G ++ R) [.ref (ad 0), .int k, .int k2] (QI D (TY cI cJ cZ) (fun r u => False)) EIOB (True) := by
  refine entX (by decide) (Nat.le_of_ble_eq_true rfl) ?_
  intro p e s m below meth c ls A hx hb hr hg hown hml hlocks hnm hP hK hD hS hA hN hl hE hST hSR hAw
  have hl : lv_has ls 3 [(0, .ref (ad 0)), (1, .int k), (2, .int k2)] := hl
  refine lv_aload_n hx hb dX7_bendAt_0 rfl (lv_at hl 0 rfl) ?_
  refine lv_iload_n hx hb dX7_bendAt_1 rfl (lv_at hl 1 rfl) ?_
  refine kXV (rXV (q0 := 0) (ci := 7) hx hb hml hown hg hN hK hP hD hST hSR hS hA (c_needEdge l hfl D cI cJ cZ ad b F G R k) mw_299 mw_300 mw_301 mw_302 mw_110 pdv_X7_needEdge ⟨Nat.le_of_ble_eq_true rfl, Nat.le_of_ble_eq_true rfl⟩ rfl rfl rfl hl.1 rfl (Nat.le_of_ble_eq_true rfl) dX7_bendAt_2 ⟨Nat.le_of_ble_eq_true rfl, Nat.le_of_ble_eq_true rfl⟩) hD hS hA (fun ce q9 H locs hpx hz9 hk9 hS h1 h2 h3 => xout trivial hE hlocks hS h1 h2 h3 (Nat.le_of_ble_eq_true rfl) (Nat.le_of_ble_eq_true rfl)) (fun u_1 H locs hp hP hD hS => ?_)
  exact hp.elim
set_option maxHeartbeats 4000000 in
set_option maxRecDepth 100000 in
theorem p_pointAt (l : Launch) (hfl : l.stackTraces = false) (D : va_G) (cI cJ cZ : ClassId) (ad : Nat → Nat) (b : Nat → Int32) (F : Nat → Nat → Int32) (G : Nat → Nat → Int64) (R : va_W) (k : Int32) (k2 : Int32) : CX l D (TY cI cJ cZ) yX7_pointAt (.code yX7_pointAt cX7_pointAt 3 (some Jvm.ClassFile.FieldType.int)) 7 1 6 (XW ad cI cJ 0 b F G ++ R) [.ref (ad 0), .int k, .int k2] (QI D (TY cI cJ cZ) (fun r u => False)) EIOB (True) := by
  refine entX (by decide) (Nat.le_of_ble_eq_true rfl) ?_
  intro p e s m below meth c ls A hx hb hr hg hown hml hlocks hnm hP hK hD hS hA hN hl hE hST hSR hAw
  have hl : lv_has ls 3 [(0, .ref (ad 0)), (1, .int k), (2, .int k2)] := hl
  refine lv_aload_n hx hb dX7_pointAt_0 rfl (lv_at hl 0 rfl) ?_
  refine lv_iload_n hx hb dX7_pointAt_1 rfl (lv_at hl 1 rfl) ?_
  refine kXV (rXV (q0 := 0) (ci := 7) hx hb hml hown hg hN hK hP hD hST hSR hS hA (c_needLayer l hfl D cI cJ cZ ad b F G R k) mw_307 mw_308 mw_309 mw_310 mw_110 pdv_X7_needLayer ⟨Nat.le_of_ble_eq_true rfl, Nat.le_of_ble_eq_true rfl⟩ rfl rfl rfl hl.1 rfl (Nat.le_of_ble_eq_true rfl) dX7_pointAt_2 ⟨Nat.le_of_ble_eq_true rfl, Nat.le_of_ble_eq_true rfl⟩) hD hS hA (fun ce q9 H locs hpx hz9 hk9 hS h1 h2 h3 => xout trivial hE hlocks hS h1 h2 h3 (Nat.le_of_ble_eq_true rfl) (Nat.le_of_ble_eq_true rfl)) (fun u_1 H locs hp hP hD hS => ?_)
  exact hp.elim
set_option maxHeartbeats 4000000 in
set_option maxRecDepth 100000 in
theorem p_dominates (l : Launch) (hfl : l.stackTraces = false) (D : va_G) (cI cJ cZ : ClassId) (ad : Nat → Nat) (b : Nat → Int32) (F : Nat → Nat → Int32) (G : Nat → Nat → Int64) (R : va_W) (k : Int32) (k2 : Int32) : CX l D (TY cI cJ cZ) yX7_dominates (.code yX7_dominates cX7_dominates 3 (some Jvm.ClassFile.FieldType.boolean)) 7 1 6 (XW ad cI cJ 0 b F G ++ R) [.ref (ad 0), .int k, .int k2] (QI D (TY cI cJ cZ) (fun r u => False)) EIOB (True) := by
  refine entX (by decide) (Nat.le_of_ble_eq_true rfl) ?_
  intro p e s m below meth c ls A hx hb hr hg hown hml hlocks hnm hP hK hD hS hA hN hl hE hST hSR hAw
  have hl : lv_has ls 3 [(0, .ref (ad 0)), (1, .int k), (2, .int k2)] := hl
  refine lv_aload_n hx hb dX7_dominates_0 rfl (lv_at hl 0 rfl) ?_
  refine lv_iload_n hx hb dX7_dominates_1 rfl (lv_at hl 1 rfl) ?_
  refine kXV (rXV (q0 := 0) (ci := 7) hx hb hml hown hg hN hK hP hD hST hSR hS hA (c_needBlock l hfl D cI cJ cZ ad b F G R k) mw_295 mw_296 mw_297 mw_298 mw_110 pdv_X7_needBlock ⟨Nat.le_of_ble_eq_true rfl, Nat.le_of_ble_eq_true rfl⟩ rfl rfl rfl hl.1 rfl (Nat.le_of_ble_eq_true rfl) dX7_dominates_2 ⟨Nat.le_of_ble_eq_true rfl, Nat.le_of_ble_eq_true rfl⟩) hD hS hA (fun ce q9 H locs hpx hz9 hk9 hS h1 h2 h3 => xout trivial hE hlocks hS h1 h2 h3 (Nat.le_of_ble_eq_true rfl) (Nat.le_of_ble_eq_true rfl)) (fun u_1 H locs hp hP hD hS => ?_)
  exact hp.elim
set_option maxHeartbeats 4000000 in
set_option maxRecDepth 100000 in
theorem p_comesBehind (l : Launch) (hfl : l.stackTraces = false) (D : va_G) (cI cJ cZ : ClassId) (ad : Nat → Nat) (b : Nat → Int32) (F : Nat → Nat → Int32) (G : Nat → Nat → Int64) (R : va_W) (k : Int32) (k2 : Int32) : CX l D (TY cI cJ cZ) yX7_comesBehind (.code yX7_comesBehind cX7_comesBehind 3 (some Jvm.ClassFile.FieldType.boolean)) 7 1 6 (XW ad cI cJ 0 b F G ++ R) [.ref (ad 0), .int k, .int k2] (QI D (TY cI cJ cZ) (fun r u => False)) EIOB (True) := by
  refine entX (by decide) (Nat.le_of_ble_eq_true rfl) ?_
  intro p e s m below meth c ls A hx hb hr hg hown hml hlocks hnm hP hK hD hS hA hN hl hE hST hSR hAw
  have hl : lv_has ls 3 [(0, .ref (ad 0)), (1, .int k), (2, .int k2)] := hl
  refine lv_aload_n hx hb dX7_comesBehind_0 rfl (lv_at hl 0 rfl) ?_
  refine lv_iload_n hx hb dX7_comesBehind_1 rfl (lv_at hl 1 rfl) ?_
  refine kXV (rXV (q0 := 0) (ci := 7) hx hb hml hown hg hN hK hP hD hST hSR hS hA (c_needBlock l hfl D cI cJ cZ ad b F G R k) mw_295 mw_296 mw_297 mw_298 mw_110 pdv_X7_needBlock ⟨Nat.le_of_ble_eq_true rfl, Nat.le_of_ble_eq_true rfl⟩ rfl rfl rfl hl.1 rfl (Nat.le_of_ble_eq_true rfl) dX7_comesBehind_2 ⟨Nat.le_of_ble_eq_true rfl, Nat.le_of_ble_eq_true rfl⟩) hD hS hA (fun ce q9 H locs hpx hz9 hk9 hS h1 h2 h3 => xout trivial hE hlocks hS h1 h2 h3 (Nat.le_of_ble_eq_true rfl) (Nat.le_of_ble_eq_true rfl)) (fun u_1 H locs hp hP hD hS => ?_)
  exact hp.elim
set_option maxHeartbeats 4000000 in
set_option maxRecDepth 100000 in
theorem p_setUse (l : Launch) (hfl : l.stackTraces = false) (D : va_G) (cI cJ cZ : ClassId) (ad : Nat → Nat) (b : Nat → Int32) (F : Nat → Nat → Int32) (G : Nat → Nat → Int64) (R : va_W) (k : Int32) (k2 : Int32) (k3 : Int32) : CX l D (TY cI cJ cZ) yX7_setUse (.code yX7_setUse cX7_setUse 5 (some Jvm.ClassFile.FieldType.int)) 7 1 6 (XW ad cI cJ 0 b F G ++ R) [.ref (ad 0), .int k, .int k2, .int k3] (QI D (TY cI cJ cZ) (fun r u => False)) EIOB (True) := by
  refine entX (by decide) (Nat.le_of_ble_eq_true rfl) ?_
  intro p e s m below meth c ls A hx hb hr hg hown hml hlocks hnm hP hK hD hS hA hN hl hE hST hSR hAw
  have hl : lv_has ls 5 [(0, .ref (ad 0)), (1, .int k), (2, .int k2), (3, .int k3)] := hl
  refine lv_aload_n hx hb dX7_setUse_0 rfl (lv_at hl 0 rfl) ?_
  refine lv_iload_n hx hb dX7_setUse_1 rfl (lv_at hl 1 rfl) ?_
  refine kXV (rXV (q0 := 0) (ci := 7) hx hb hml hown hg hN hK hP hD hST hSR hS hA (c_needInstruction l hfl D cI cJ cZ ad b F G R k) mw_291 mw_292 mw_293 mw_294 mw_110 pdv_X7_needInstruction ⟨Nat.le_of_ble_eq_true rfl, Nat.le_of_ble_eq_true rfl⟩ rfl rfl rfl hl.1 rfl (Nat.le_of_ble_eq_true rfl) dX7_setUse_2 ⟨Nat.le_of_ble_eq_true rfl, Nat.le_of_ble_eq_true rfl⟩) hD hS hA (fun ce q9 H locs hpx hz9 hk9 hS h1 h2 h3 => xout trivial hE hlocks hS h1 h2 h3 (Nat.le_of_ble_eq_true rfl) (Nat.le_of_ble_eq_true rfl)) (fun u_1 H locs hp hP hD hS => ?_)
  exact hp.elim
set_option maxHeartbeats 4000000 in
set_option maxRecDepth 100000 in
theorem p_sweep (l : Launch) (hfl : l.stackTraces = false) (D : va_G) (cI cJ cZ : ClassId) (ad : Nat → Nat) (b : Nat → Int32) (F : Nat → Nat → Int32) (G : Nat → Nat → Int64) (R : va_W) (hb0 : ∀ k, b k = 0) (k : Int32) : CX l D (TY cI cJ cZ) yX7_sweep (.code yX7_sweep cX7_sweep 2 (some Jvm.ClassFile.FieldType.int)) 7 1 6 (XW ad cI cJ 0 b F G ++ R) [.ref (ad 0), .int k] (QI D (TY cI cJ cZ) (fun r u => r = 0 ∧ (¬ k < 1 ∧ k ≤ 20) ∧ ∃ n' b' F' G', u = XW ad cI cJ n' b' F' G' ++ R)) EIAE (k < 1 ∨ ¬ k ≤ 20) := by
  refine entX (by decide) (Nat.le_of_ble_eq_true rfl) ?_
  intro p e s m below meth c ls A hx hb hr hg hown hml hlocks hnm hP hK hD hS hA hN hl hE hST hSR hAw
  have hl : lv_has ls 2 [(0, .ref (ad 0)), (1, .int k)] := hl
  refine lv_iload_n hx hb dX7_sweep_0 rfl (lv_at hl 1 rfl) ?_
  refine kXV (rXS hx hb hml hown hg hN hK hP hD hST hSR hS hA (c_needSweeps l hfl D cI cJ cZ ad b F G R k) mw_311 mw_312 mw_313 mw_110 pd_X7_needSweeps ⟨Nat.le_of_ble_eq_true rfl, Nat.le_of_ble_eq_true rfl⟩ rfl hl.1 rfl (Nat.le_of_ble_eq_true rfl) dX7_sweep_1 ⟨Nat.le_of_ble_eq_true rfl, Nat.le_of_ble_eq_true rfl⟩) hD hS hA (fun ce q9 H locs hpx hz9 hk9 hS h1 h2 h3 => xout hpx hE hlocks hS h1 h2 h3 (Nat.le_of_ble_eq_true rfl) (Nat.le_of_ble_eq_true rfl)) (fun u_1 H locs hp hP hD hS => ?_)
  obtain ⟨hk1, hk2, rfl⟩ := hp
  obtain ⟨N, hN31, hk⟩ : ∃ j : Nat, j < 2 ^ 31 ∧ k = nI j := nI_of (nn_of hk1)
  refine lv_aload_n hx hb dX7_sweep_4 rfl (lv_at hl 0 rfl) ?_
  refine kR (rV (q0 := 0) (ci := 7) hx hb hml hown hg hN hK hP hD (c_freshPicture l D cI cJ cZ ad b F G R) mw_225 mw_226 mw_227 mw_228 mw_110 pdv_X7_freshPicture ⟨Nat.le_of_ble_eq_true rfl, Nat.le_of_ble_eq_true rfl⟩ rfl rfl rfl hl.1 rfl (Nat.le_of_ble_eq_true rfl) dX7_sweep_5 ⟨Nat.le_of_ble_eq_true rfl, Nat.le_of_ble_eq_true rfl⟩) hD hS hA (fun r_2 u_2 H locs hp hP hD hS => ?_)
  obtain ⟨rfl, b_3, F_4, G_5, rfl, h5b_3, h6b_3, hb_3⟩ := hp
  refine lv_iload_n hx hb dX7_sweep_8 rfl (lv_at hl 1 rfl) ?_
  refine kV (rV (q0 := 6) (ci := 3) hx hb hml hown hg hN hK hP hD (c_sweepOften l D cI cJ cZ ad b_3 F_4 G_5 R k N hk hN31) mw_235 mw_314 mw_237 mw_238 mw_179 pdv_X3_sweepOften ⟨Nat.le_of_ble_eq_true rfl, Nat.le_of_ble_eq_true rfl⟩ rfl rfl rfl hl.1 rfl (Nat.le_of_ble_eq_true rfl) dX7_sweep_9 ⟨Nat.le_of_ble_eq_true rfl, Nat.le_of_ble_eq_true rfl⟩) hD hS hA (fun u_6 H locs hp hP hD hS => ?_)
  obtain ⟨b_7, rfl⟩ := hp
  refine lv_aload_n hx hb dX7_sweep_12 rfl (lv_at hl 0 rfl) ?_
  refine kR (rV (q0 := 0) (ci := 7) hx hb hml hown hg hN hK hP hD (c_freshPicture l D cI cJ cZ ad b_7 F_4 G_5 R) mw_225 mw_226 mw_227 mw_228 mw_110 pdv_X7_freshPicture ⟨Nat.le_of_ble_eq_true rfl, Nat.le_of_ble_eq_true rfl⟩ rfl rfl rfl hl.1 rfl (Nat.le_of_ble_eq_true rfl) dX7_sweep_13 ⟨Nat.le_of_ble_eq_true rfl, Nat.le_of_ble_eq_true rfl⟩) hD hS hA (fun r_10 u_10 H locs hp hP hD hS => ?_)
  obtain ⟨rfl, b_11, F_12, G_13, rfl, h5b_11, h6b_11, hb_11⟩ := hp
  refine kI (rV (q0 := 6) (ci := 3) hx hb hml hown hg hN hK hP hD (c_countCrossings l D cI cJ cZ ad b_11 F_12 G_13 R) mw_239 mw_265 mw_241 mw_242 mw_179 pdv_X3_countCrossings ⟨Nat.le_of_ble_eq_true rfl, Nat.le_of_ble_eq_true rfl⟩ rfl rfl rfl hl.1 rfl (Nat.le_of_ble_eq_true rfl) dX7_sweep_16 ⟨Nat.le_of_ble_eq_true rfl, Nat.le_of_ble_eq_true rfl⟩) hD hS hA (fun r_14 u_14 H locs hp hP hD hS => ?_)
  obtain ⟨rfl, rfl⟩ := hp
  refine vx_ret ?_
  exact W.iret (v := 0) hx hb hr (fun t ht hW => ⟨⟨0, (XW ad cI cJ 0 b_11 F_12 G_13 ++ R), rfl, ⟨rfl, ⟨hk1, hk2⟩, _, _, _, _, rfl⟩, ⟨by rw [ht]; exact hP, va_K.moved hW.alike hK, hD⟩⟩, hS.F ht⟩) hS.2.2 dX7_sweep_19
set_option maxHeartbeats 4000000 in
set_option maxRecDepth 100000 in
theorem p_wouldCross (l : Launch) (hfl : l.stackTraces = false) (D : va_G) (cI cJ cZ : ClassId) (ad : Nat → Nat) (b : Nat → Int32) (F : Nat → Nat → Int32) (G : Nat → Nat → Int64) (R : va_W) (hb0 : ∀ k, b k = 0) (k : Int32) : CX l D (TY cI cJ cZ) yX7_wouldCross (.code yX7_wouldCross cX7_wouldCross 2 (some Jvm.ClassFile.FieldType.int)) 7 1 6 (XW ad cI cJ 0 b F G ++ R) [.ref (ad 0), .int k] (QI D (TY cI cJ cZ) (fun r u => r = 0 ∧ (¬ k < 1 ∧ k ≤ 20) ∧ ∃ n' b' F' G', u = XW ad cI cJ n' b' F' G' ++ R)) EIAE (k < 1 ∨ ¬ k ≤ 20) := by
  refine entX (by decide) (Nat.le_of_ble_eq_true rfl) ?_
  intro p e s m below meth c ls A hx hb hr hg hown hml hlocks hnm hP hK hD hS hA hN hl hE hST hSR hAw
  have hl : lv_has ls 2 [(0, .ref (ad 0)), (1, .int k)] := hl
  refine lv_iload_n hx hb dX7_wouldCross_0 rfl (lv_at hl 1 rfl) ?_
  refine kXV (rXS hx hb hml hown hg hN hK hP hD hST hSR hS hA (c_needSweeps l hfl D cI cJ cZ ad b F G R k) mw_311 mw_312 mw_313 mw_110 pd_X7_needSweeps ⟨Nat.le_of_ble_eq_true rfl, Nat.le_of_ble_eq_true rfl⟩ rfl hl.1 rfl (Nat.le_of_ble_eq_true rfl) dX7_wouldCross_1 ⟨Nat.le_of_ble_eq_true rfl, Nat.le_of_ble_eq_true rfl⟩) hD hS hA (fun ce q9 H locs hpx hz9 hk9 hS h1 h2 h3 => xout hpx hE hlocks hS h1 h2 h3 (Nat.le_of_ble_eq_true rfl) (Nat.le_of_ble_eq_true rfl)) (fun u_1 H locs hp hP hD hS => ?_)
  obtain ⟨hk1, hk2, rfl⟩ := hp
  obtain ⟨N, hN31, hk⟩ : ∃ j : Nat, j < 2 ^ 31 ∧ k = nI j := nI_of (nn_of hk1)
  refine lv_aload_n hx hb dX7_wouldCross_4 rfl (lv_at hl 0 rfl) ?_
  refine kR (rV (q0 := 0) (ci := 7) hx hb hml hown hg hN hK hP hD (c_freshPicture l D cI cJ cZ ad b F G R) mw_225 mw_226 mw_227 mw_228 mw_110 pdv_X7_freshPicture ⟨Nat.le_of_ble_eq_true rfl, Nat.le_of_ble_eq_true rfl⟩ rfl rfl rfl hl.1 rfl (Nat.le_of_ble_eq_true rfl) dX7_wouldCross_5 ⟨Nat.le_of_ble_eq_true rfl, Nat.le_of_ble_eq_true rfl⟩) hD hS hA (fun r_2 u_2 H locs hp hP hD hS => ?_)
  obtain ⟨rfl, b_3, F_4, G_5, rfl, h5b_3, h6b_3, hb_3⟩ := hp
  refine lv_iload_n hx hb dX7_wouldCross_8 rfl (lv_at hl 1 rfl) ?_
  refine kI (rV (q0 := 6) (ci := 3) hx hb hml hown hg hN hK hP hD (c_tryOut l D cI cJ cZ ad b_3 F_4 G_5 R k N hk hN31) mw_315 mw_316 mw_317 mw_318 mw_179 pdv_X3_tryOut ⟨Nat.le_of_ble_eq_true rfl, Nat.le_of_ble_eq_true rfl⟩ rfl rfl rfl hl.1 rfl (Nat.le_of_ble_eq_true rfl) dX7_wouldCross_9 ⟨Nat.le_of_ble_eq_true rfl, Nat.le_of_ble_eq_true rfl⟩) hD hS hA (fun r_6 u_6 H locs hp hP hD hS => ?_)
  obtain ⟨rfl, b_7, rfl⟩ := hp
  refine vx_ret ?_
  exact W.iret (v := 0) hx hb hr (fun t ht hW => ⟨⟨0, (XW ad cI cJ 0 b_7 F_4 G_5 ++ R), rfl, ⟨rfl, ⟨hk1, hk2⟩, _, _, _, _, rfl⟩, ⟨by rw [ht]; exact hP, va_K.moved hW.alike hK, hD⟩⟩, hS.F ht⟩) hS.2.2 dX7_wouldCross_12
set_option maxHeartbeats 4000000 in
set_option maxRecDepth 100000 in
theorem c_shift0 (l : Launch) (D : va_G) (cI cJ cZ : ClassId) (ad : Nat → Nat) (b : Nat → Int32) (F : Nat → Nat → Int32) (G : Nat → Nat → Int64) (R : va_W) (k k2 : Int32) : CT l D (TY cI cJ cZ) yX0_shiftTargets (.code yX0_shiftTargets cX0_shiftTargets 5 (none : Option FieldType)) 0 0 0 (XW ad cI cJ 0 b F G ++ R) [.ref (ad 1), .int k, .int k2] (QV D (TY cI cJ cZ) (fun u => u = XW ad cI cJ 0 b F G ++ R)) := by
  refine ent (by decide) (Nat.le_of_ble_eq_true rfl) ?_
  intro p e s m below meth c ls A hx hb hr hg hown hml hlocks hnm hP hK hD hS hA hN hl
  have hl : lv_has ls 5 [(0, .ref (ad 1)), (1, .int k), (2, .int k2)] := hl
  refine lv_iconst (v := 0) hx hb dX0_shiftTargets_0 (by decide) ?_
  refine lv_istore_n (lv' := [(3, .int 0), (0, .ref (ad 1)), (1, .int k), (2, .int k2)]) hx hb dX0_shiftTargets_1 rfl hl (by decide) rfl (fun ls hl => ?_)
  refine lv_iload_n hx hb dX0_shiftTargets_2 rfl (lv_at hl 0 rfl) ?_
  refine lv_aload_n hx hb dX0_shiftTargets_3 rfl (lv_at hl 1 rfl) ?_
  refine va_get (D := D) (ci := 0) (v := .int 0) (C := RX0) (T := TX0) (N := 5) hx hb hg inGX0 hown hK hP 1 rfl rfl 4 (by decide) (hg _ mw_319) (fun _ h9 => h9) rfl dX0_shiftTargets_4 ?_
  refine lv_icmp_ge (tgt := 49) hx hb dX0_shiftTargets_7 (by decide) (fun c_7 => ?_) (fun c_7 => absurd (by decide) c_7)
  exact W.vret hx hb hr (fun t ht hW => ⟨⟨(XW ad cI cJ 0 b F G ++ R), rfl, rfl, ⟨by rw [ht]; exact hP, va_K.moved hW.alike hK, hD⟩⟩, hS.F ht⟩) hS.2.2 dX0_shiftTargets_49
set_option maxHeartbeats 4000000 in
set_option maxRecDepth 100000 in
theorem c_add (l : Launch) (D : va_G) (cI cJ cZ : ClassId) (ad : Nat → Nat) (b : Nat → Int32) (F : Nat → Nat → Int32) (G : Nat → Nat → Int64) (R : va_W) (place kind target : Int32) (hp0 : 0 ≤ place) : CT l D (TY cI cJ cZ) yX0_add (.code yX0_add cX0_add 5 (none : Option FieldType)) 1 0 0 (XW ad cI cJ 0 b F G ++ R) [.ref (ad 1), .int place, .int kind, .int target] (QV D (TY cI cJ cZ) (fun u => ∃ F', u = XW ad cI cJ 1 b F' G ++ R)) := by
  refine ent (by decide) (Nat.le_of_ble_eq_true rfl) ?_
  intro p e s m below meth c ls A hx hb hr hg hown hml hlocks hnm hP hK hD hS hA hN hl
  have hl : lv_has ls 5 [(0, .ref (ad 1)), (1, .int place), (2, .int kind), (3, .int target)] := hl
  refine lv_aload_n hx hb dX0_add_0 rfl (lv_at hl 0 rfl) ?_
  refine lv_iload_n hx hb dX0_add_1 rfl (lv_at hl 1 rfl) ?_
  refine lv_iconst (v := 1) hx hb dX0_add_2 (by decide) ?_
  refine kV (rV (q0 := 1) (ci := 0) hx hb hml hown hg hN hK hP hD (c_shift0 l D cI cJ cZ ad b F G R place 1) mw_320 mw_321 mw_322 mw_323 mw_324 pdv_X0_shiftTargets ⟨Nat.le_of_ble_eq_true rfl, Nat.le_of_ble_eq_true rfl⟩ rfl rfl rfl hl.1 rfl (Nat.le_of_ble_eq_true rfl) dX0_add_3 ⟨Nat.le_of_ble_eq_true rfl, Nat.le_of_ble_eq_true rfl⟩) hD hS hA (fun u_1 H locs hp hP hD hS => ?_)
  obtain rfl := hp
  refine lv_aload_n hx hb dX0_add_6 rfl (lv_at hl 0 rfl) ?_
  refine va_get (D := D) (ci := 0) (v := .int 0) (C := RX0) (T := TX0) (N := 5) hx hb hg inGX0 hown hK hP 1 rfl rfl 4 (by decide) (hg _ mw_319) (fun _ h9 => h9) rfl dX0_add_7 ?_
  refine lv_istore (lv' := [(4, .int 0), (0, .ref (ad 1)), (1, .int place), (2, .int kind), (3, .int target)]) hx hb dX0_add_10 hl (by decide) rfl (fun ls hl => ?_)
  refine lv_iload hx hb dX0_add_12 (lv_at hl 0 rfl) ?_
  refine lv_iload_n hx hb dX0_add_14 rfl (lv_at hl 2 rfl) ?_
  refine lv_icmp_le (tgt := 34) hx hb dX0_add_15 (by decide) (fun c_15 => ?_) (fun c_15 => absurd hp0 c_15)
  refine lv_aload_n hx hb dX0_add_34 rfl (lv_at hl 1 rfl) ?_
  refine va_get (D := D) (ci := 0) (v := .ref (ad 8)) (C := RX0) (T := TX0) (N := 5) hx hb hg inGX0 hown hK hP 1 rfl rfl 0 (by decide) (hg _ mw_325) (fun _ h9 => h9) rfl dX0_add_35 ?_
  refine lv_iload_n hx hb dX0_add_38 rfl (lv_at hl 2 rfl) ?_
  refine lv_iload_n hx hb dX0_add_39 rfl (lv_at hl 3 rfl) ?_
  refine kV (rSN hx hb hml hown hg hN hK hP hD (c_put l D cI cJ cZ (XW ad cI cJ 0 b F G ++ R) 8 (ad 8) 40 (F 8) place kind rfl (by decide)) mw_108 nw_98 mw_109 mw_110 pd_X7_put ⟨Nat.le_of_ble_eq_true rfl, Nat.le_of_ble_eq_true rfl⟩ rfl hl.1 rfl (Nat.le_of_ble_eq_true rfl) dX0_add_40 ⟨Nat.le_of_ble_eq_true rfl, Nat.le_of_ble_eq_true rfl⟩) hD hS hA (fun u_2 H locs hp hP hD hS => ?_)
  obtain ⟨f_3, rfl, hp1, hp2⟩ := hp
  have hP : va_P D vwCl (XW ad cI cJ 0 b (va_up F 8 f_3) G ++ R) H := hP
  have hD : va_D A (XW ad cI cJ 0 b (va_up F 8 f_3) G ++ R) := hD
  refine lv_aload_n hx hb dX0_add_43 rfl (lv_at hl 1 rfl) ?_
  refine va_get (D := D) (ci := 0) (v := .ref (ad 9)) (C := RX0) (T := TX0) (N := 5) hx hb hg inGX0 hown hK hP 1 rfl rfl 1 (by decide) (hg _ mw_326) (fun _ h9 => h9) rfl dX0_add_44 ?_
  refine lv_iload_n hx hb dX0_add_47 rfl (lv_at hl 2 rfl) ?_
  refine lv_iload_n hx hb dX0_add_48 rfl (lv_at hl 4 rfl) ?_
  refine kV (rSN hx hb hml hown hg hN hK hP hD (c_put l D cI cJ cZ (XW ad cI cJ 0 b (va_up F 8 f_3) G ++ R) 9 (ad 9) 40 ((va_up F 8 f_3) 9) place target rfl (by decide)) mw_108 nw_98 mw_109 mw_110 pd_X7_put ⟨Nat.le_of_ble_eq_true rfl, Nat.le_of_ble_eq_true rfl⟩ rfl hl.1 rfl (Nat.le_of_ble_eq_true rfl) dX0_add_49 ⟨Nat.le_of_ble_eq_true rfl, Nat.le_of_ble_eq_true rfl⟩) hD hS hA (fun u_4 H locs hp hP hD hS => ?_)
  obtain ⟨f_5, rfl, hp1, hp2⟩ := hp
  have hP : va_P D vwCl (XW ad cI cJ 0 b (va_up (va_up F 8 f_3) 9 f_5) G ++ R) H := hP
  have hD : va_D A (XW ad cI cJ 0 b (va_up (va_up F 8 f_3) 9 f_5) G ++ R) := hD
  refine lv_aload_n hx hb dX0_add_52 rfl (lv_at hl 1 rfl) ?_
  refine va_get (D := D) (ci := 0) (v := .ref (ad 10)) (C := RX0) (T := TX0) (N := 5) hx hb hg inGX0 hown hK hP 1 rfl rfl 2 (by decide) (hg _ mw_327) (fun _ h9 => h9) rfl dX0_add_53 ?_
  refine lv_iload_n hx hb dX0_add_56 rfl (lv_at hl 2 rfl) ?_
  refine lv_iconst (v := (-1)) hx hb dX0_add_57 (by decide) ?_
  refine kV (rSN hx hb hml hown hg hN hK hP hD (c_put l D cI cJ cZ (XW ad cI cJ 0 b (va_up (va_up F 8 f_3) 9 f_5) G ++ R) 10 (ad 10) 40 ((va_up (va_up F 8 f_3) 9 f_5) 10) place (-1) rfl (by decide)) mw_108 nw_98 mw_109 mw_110 pd_X7_put ⟨Nat.le_of_ble_eq_true rfl, Nat.le_of_ble_eq_true rfl⟩ rfl hl.1 rfl (Nat.le_of_ble_eq_true rfl) dX0_add_58 ⟨Nat.le_of_ble_eq_true rfl, Nat.le_of_ble_eq_true rfl⟩) hD hS hA (fun u_6 H locs hp hP hD hS => ?_)
  obtain ⟨f_7, rfl, hp1, hp2⟩ := hp
  have hP : va_P D vwCl (XW ad cI cJ 0 b (va_up (va_up (va_up F 8 f_3) 9 f_5) 10 f_7) G ++ R) H := hP
  have hD : va_D A (XW ad cI cJ 0 b (va_up (va_up (va_up F 8 f_3) 9 f_5) 10 f_7) G ++ R) := hD
  refine lv_aload_n hx hb dX0_add_61 rfl (lv_at hl 1 rfl) ?_
  refine va_get (D := D) (ci := 0) (v := .ref (ad 11)) (C := RX0) (T := TX0) (N := 5) hx hb hg inGX0 hown hK hP 1 rfl rfl 3 (by decide) (hg _ mw_328) (fun _ h9 => h9) rfl dX0_add_62 ?_
  refine lv_iload_n hx hb dX0_add_65 rfl (lv_at hl 2 rfl) ?_
  refine lv_iconst (v := 0) hx hb dX0_add_66 (by decide) ?_
  refine kV (rSN hx hb hml hown hg hN hK hP hD (c_put l D cI cJ cZ (XW ad cI cJ 0 b (va_up (va_up (va_up F 8 f_3) 9 f_5) 10 f_7) G ++ R) 11 (ad 11) 40 ((va_up (va_up (va_up F 8 f_3) 9 f_5) 10 f_7) 11) place 0 rfl (by decide)) mw_108 nw_98 mw_109 mw_110 pd_X7_put ⟨Nat.le_of_ble_eq_true rfl, Nat.le_of_ble_eq_true rfl⟩ rfl hl.1 rfl (Nat.le_of_ble_eq_true rfl) dX0_add_67 ⟨Nat.le_of_ble_eq_true rfl, Nat.le_of_ble_eq_true rfl⟩) hD hS hA (fun u_8 H locs hp hP hD hS => ?_)
  obtain ⟨f_9, rfl, hp1, hp2⟩ := hp
  have hP : va_P D vwCl (XW ad cI cJ 0 b (va_up (va_up (va_up (va_up F 8 f_3) 9 f_5) 10 f_7) 11 f_9) G ++ R) H := hP
  have hD : va_D A (XW ad cI cJ 0 b (va_up (va_up (va_up (va_up F 8 f_3) 9 f_5) 10 f_7) 11 f_9) G ++ R) := hD
  refine lv_aload_n hx hb dX0_add_70 rfl (lv_at hl 1 rfl) ?_
  refine lv_dup hx hb dX0_add_71 rfl ?_
  refine va_get (D := D) (ci := 0) (v := .int 0) (C := RX0) (T := TX0) (N := 5) hx hb hg inGX0 hown hK hP 1 rfl rfl 4 (by decide) (hg _ mw_319) (fun _ h9 => h9) rfl dX0_add_72 ?_
  refine lv_iconst (v := 1) hx hb dX0_add_75 (by decide) ?_
  refine lv_iadd hx hb dX0_add_76 ?_
  refine lv_topi (fun v_10 ev_10 => ?_)
  obtain rfl : v_10 = (1 : Int32) := ev_10.trans (by decide)
  refine va_put (D := D) (ci := 0) (v := .int 1) (C := RX0) (T := TX0) (N := 5) hx hb hg inGX0 tyX0 tyX0_ok nmX0 hown hK hP hD hS 1 rfl rfl 4 (by decide) (hg _ mw_319) (fun _ h9 => h9) rfl (tyX0_ok 4 (by decide)) rfl rfl (Nat.le_of_ble_eq_true rfl) dX0_add_77 (fun H locs hP hD hS => ?_)
  have hP : va_P D vwCl (XW ad cI cJ 1 b (va_up (va_up (va_up (va_up F 8 f_3) 9 f_5) 10 f_7) 11 f_9) G ++ R) H := hP
  have hD : va_D A (XW ad cI cJ 1 b (va_up (va_up (va_up (va_up F 8 f_3) 9 f_5) 10 f_7) 11 f_9) G ++ R) := hD
  exact W.vret hx hb hr (fun t ht hW => ⟨⟨(XW ad cI cJ 1 b (va_up (va_up (va_up (va_up F 8 f_3) 9 f_5) 10 f_7) 11 f_9) G ++ R), rfl, ⟨_, rfl⟩, ⟨by rw [ht]; exact hP, va_K.moved hW.alike hK, hD⟩⟩, hS.F ht⟩) hS.2.2 dX0_add_80
set_option maxHeartbeats 4000000 in
set_option maxRecDepth 100000 in
theorem c_forget (l : Launch) (D : va_G) (cI cJ cZ : ClassId) (ad : Nat → Nat) (b : Nat → Int32) (F : Nat → Nat → Int32) (G : Nat → Nat → Int64) (R : va_W) (n : Int32) : CT l D (TY cI cJ cZ) yX7_forget (.code yX7_forget cX7_forget 1 (none : Option FieldType)) 0 0 0 (XW ad cI cJ n b F G ++ R) [.ref (ad 0)] (QV D (TY cI cJ cZ) (fun u => ∃ b', u = XW ad cI cJ n b' F G ++ R)) := by
  refine ent (by decide) (Nat.le_of_ble_eq_true rfl) ?_
  intro p e s m below meth c ls A hx hb hr hg hown hml hlocks hnm hP hK hD hS hA hN hl
  have hl : lv_has ls 1 [(0, .ref (ad 0))] := hl
  refine lv_aload_n hx hb dX7_forget_0 rfl (lv_at hl 0 rfl) ?_
  refine va_get (D := D) (ci := 7) (v := .ref (ad 2)) (C := RX7) (T := TX7) (N := 6) hx hb hg inGX7 hown hK hP 0 rfl rfl 1 (by decide) (hg _ mw_112) (fun _ h9 => h9) rfl dX7_forget_1 ?_
  refine lv_iconst (v := 0) hx hb dX7_forget_4 (by decide) ?_
  refine va_putN (D := D) (ci := 1) (v := .int 0) (C := RX1) (T := TX1) (N := 11) hx hb hg inGX1 tyX1 tyX1_ok nmX1 hown hK hP hD hS 2 rfl rfl 10 (by decide) (hN.use nw_36) (fun _ h9 => h9) rfl (tyX1_ok 10 (by decide)) rfl rfl (Nat.le_of_ble_eq_true rfl) dX7_forget_5 (fun H locs hP hD hS => ?_)
  have hP : va_P D vwCl (XW ad cI cJ n (va_up b 0 0) F G ++ R) H := hP
  have hD : va_D A (XW ad cI cJ n (va_up b 0 0) F G ++ R) := hD
  refine lv_aload_n hx hb dX7_forget_8 rfl (lv_at hl 0 rfl) ?_
  refine va_get (D := D) (ci := 7) (v := .ref (ad 3)) (C := RX7) (T := TX7) (N := 6) hx hb hg inGX7 hown hK hP 0 rfl rfl 2 (by decide) (hg _ mw_133) (fun _ h9 => h9) rfl dX7_forget_9 ?_
  refine lv_iconst (v := 0) hx hb dX7_forget_12 (by decide) ?_
  refine va_putN (D := D) (ci := 4) (v := .int 0) (C := RX4) (T := TX4) (N := 7) hx hb hg inGX4 tyX4 tyX4_ok nmX4 hown hK hP hD hS 3 rfl rfl 6 (by decide) (hN.use nw_41) (fun _ h9 => h9) rfl (tyX4_ok 6 (by decide)) rfl rfl (Nat.le_of_ble_eq_true rfl) dX7_forget_13 (fun H locs hP hD hS => ?_)
  have hP : va_P D vwCl (XW ad cI cJ n (va_up (va_up b 0 0) 2 0) F G ++ R) H := hP
  have hD : va_D A (XW ad cI cJ n (va_up (va_up b 0 0) 2 0) F G ++ R) := hD
  refine lv_aload_n hx hb dX7_forget_16 rfl (lv_at hl 0 rfl) ?_
  refine va_get (D := D) (ci := 7) (v := .ref (ad 4)) (C := RX7) (T := TX7) (N := 6) hx hb hg inGX7 hown hK hP 0 rfl rfl 3 (by decide) (hg _ mw_204) (fun _ h9 => h9) rfl dX7_forget_17 ?_
  refine lv_iconst (v := 0) hx hb dX7_forget_20 (by decide) ?_
  refine va_putN (D := D) (ci := 2) (v := .int 0) (C := RX2) (T := TX2) (N := 3) hx hb hg inGX2 tyX2 tyX2_ok nmX2 hown hK hP hD hS 4 rfl rfl 2 (by decide) (hN.use nw_45) (fun _ h9 => h9) rfl (tyX2_ok 2 (by decide)) rfl rfl (Nat.le_of_ble_eq_true rfl) dX7_forget_21 (fun H locs hP hD hS => ?_)
  have hP : va_P D vwCl (XW ad cI cJ n (va_up (va_up (va_up b 0 0) 2 0) 3 0) F G ++ R) H := hP
  have hD : va_D A (XW ad cI cJ n (va_up (va_up (va_up b 0 0) 2 0) 3 0) F G ++ R) := hD
  refine lv_aload_n hx hb dX7_forget_24 rfl (lv_at hl 0 rfl) ?_
  refine va_get (D := D) (ci := 7) (v := .ref (ad 5)) (C := RX7) (T := TX7) (N := 6) hx hb hg inGX7 hown hK hP 0 rfl rfl 4 (by decide) (hg _ mw_209) (fun _ h9 => h9) rfl dX7_forget_25 ?_
  refine lv_iconst (v := 0) hx hb dX7_forget_28 (by decide) ?_
  refine va_putN (D := D) (ci := 5) (v := .int 0) (C := RX5) (T := TX5) (N := 8) hx hb hg inGX5 tyX5 tyX5_ok nmX5 hown hK hP hD hS 5 rfl rfl 7 (by decide) (hN.use nw_52) (fun _ h9 => h9) rfl (tyX5_ok 7 (by decide)) rfl rfl (Nat.le_of_ble_eq_true rfl) dX7_forget_29 (fun H locs hP hD hS => ?_)
  have hP : va_P D vwCl (XW ad cI cJ n (va_up (va_up (va_up (va_up b 0 0) 2 0) 3 0) 4 0) F G ++ R) H := hP
  have hD : va_D A (XW ad cI cJ n (va_up (va_up (va_up (va_up b 0 0) 2 0) 3 0) 4 0) F G ++ R) := hD
  refine lv_aload_n hx hb dX7_forget_32 rfl (lv_at hl 0 rfl) ?_
  refine va_get (D := D) (ci := 7) (v := .ref (ad 6)) (C := RX7) (T := TX7) (N := 6) hx hb hg inGX7 hown hK hP 0 rfl rfl 5 (by decide) (hg _ mw_214) (fun _ h9 => h9) rfl dX7_forget_33 ?_
  refine lv_iconst (v := 0) hx hb dX7_forget_36 (by decide) ?_
  refine va_putN (D := D) (ci := 3) (v := .int 0) (C := RX3) (T := TX3) (N := 16) hx hb hg inGX3 tyX3 tyX3_ok nmX3 hown hK hP hD hS 6 rfl rfl 15 (by decide) (hN.use nw_64) (fun _ h9 => h9) rfl (tyX3_ok 15 (by decide)) rfl rfl (Nat.le_of_ble_eq_true rfl) dX7_forget_37 (fun H locs hP hD hS => ?_)
  have hP : va_P D vwCl (XW ad cI cJ n (va_up (va_up (va_up (va_up (va_up b 0 0) 2 0) 3 0) 4 0) 6 0) F G ++ R) H := hP
  have hD : va_D A (XW ad cI cJ n (va_up (va_up (va_up (va_up (va_up b 0 0) 2 0) 3 0) 4 0) 6 0) F G ++ R) := hD
  exact W.vret hx hb hr (fun t ht hW => ⟨⟨(XW ad cI cJ n (va_up (va_up (va_up (va_up (va_up b 0 0) 2 0) 3 0) 4 0) 6 0) F G ++ R), rfl, ⟨_, rfl⟩, ⟨by rw [ht]; exact hP, va_K.moved hW.alike hK, hD⟩⟩, hS.F ht⟩) hS.2.2 dX7_forget_40
set_option maxHeartbeats 4000000 in
set_option maxRecDepth 100000 in
theorem p_insert (l : Launch) (hfl : l.stackTraces = false) (D : va_G) (cI cJ cZ : ClassId) (ad : Nat → Nat) (b : Nat → Int32) (F : Nat → Nat → Int32) (G : Nat → Nat → Int64) (R : va_W) (place kind target : Int32) : CX l D (TY cI cJ cZ) yX7_insert (.code yX7_insert cX7_insert 4 (some Jvm.ClassFile.FieldType.int)) 7 1 6 (XW ad cI cJ 0 b F G ++ R) [.ref (ad 0), .int place, .int kind, .int target] (QI D (TY cI cJ cZ) (fun r u => r = 1 ∧ OKI place kind target ∧ ∃ n' b' F' G', u = XW ad cI cJ n' b' F' G' ++ R)) EIAE (¬ OKI place kind target) := by
  refine entX (by decide) (Nat.le_of_ble_eq_true rfl) ?_
  intro p e s m below meth c ls A hx hb hr hg hown hml hlocks hnm hP hK hD hS hA hN hl hE hST hSR hAw
  have hl : lv_has ls 4 [(0, .ref (ad 0)), (1, .int place), (2, .int kind), (3, .int target)] := hl
  refine lv_iload_n hx hb dX7_insert_0 rfl (lv_at hl 1 rfl) ?_
  refine lv_if_lt (tgt := 15) hx hb dX7_insert_1 (by decide) (fun c_1 => ?_) (fun c_1 => ?_)
  · obtain ⟨sa9, hsa9⟩ := hSR (57, "no such place") (List.mem_of_getElem? (i := 0) rfl)
    exact vx_throwS (names := ENM) (cls := EIAE) hx hb hfl hown fitE.1 fitE.2.2 (hg _ mw_229) (hg _ mw_230) hsa9 (hat_of at1a at1b hg hN) gd1 hST.1 hST.2 hS (by rw [hml]; exact hl.1) dX7_insert_15 dX7_insert_18 dX7_insert_19 dX7_insert_21 dX7_insert_24 (fun x hx9 => (hE x hx9).elim) (Nat.le_of_ble_eq_true rfl) (Nat.le_of_ble_eq_true rfl) (Nat.le_of_ble_eq_true rfl) (Nat.le_of_ble_eq_true rfl) hlocks (xE rfl (by first | exact fun h => h.1 c_1 | exact fun h => c_12 h.2.1) hS) hS.2.2 (Nat.le_of_ble_eq_true rfl) (Nat.le_of_ble_eq_true rfl)
  · refine lv_iload_n hx hb dX7_insert_4 rfl (lv_at hl 1 rfl) ?_
    refine lv_aload_n hx hb dX7_insert_5 rfl (lv_at hl 0 rfl) ?_
    refine va_get (D := D) (ci := 7) (v := .ref (ad 1)) (C := RX7) (T := TX7) (N := 6) hx hb hg inGX7 hown hK hP 0 rfl rfl 0 (by decide) (hg _ mw_113) (fun _ h9 => h9) rfl dX7_insert_6 ?_
    refine va_getN (D := D) (ci := 0) (v := .int 0) (C := RX0) (T := TX0) (N := 5) hx hb hg inGX0 hown hK hP 1 rfl rfl 4 (by decide) (hN.use nw_10) (fun _ h9 => h9) rfl dX7_insert_9 ?_
    refine lv_icmp_le (tgt := 25) hx hb dX7_insert_12 (by decide) (fun c_12 => ?_) (fun c_12 => ?_)
    · refine lv_iload_n hx hb dX7_insert_25 rfl (lv_at hl 2 rfl) ?_
      refine lv_if_lt (tgt := 34) hx hb dX7_insert_26 (by decide) (fun c_26 => ?_) (fun c_26 => ?_)
      · obtain ⟨sa9, hsa9⟩ := hSR (62, "no such kind") (List.mem_of_getElem? (i := 1) rfl)
        exact vx_throwS (names := ENM) (cls := EIAE) hx hb hfl hown fitE.1 fitE.2.2 (hg _ mw_229) (hg _ mw_230) hsa9 (hat_of at1a at1b hg hN) gd1 hST.1 hST.2 hS (by rw [hml]; exact hl.1) dX7_insert_34 dX7_insert_37 dX7_insert_38 dX7_insert_40 dX7_insert_43 (fun x hx9 => (hE x hx9).elim) (Nat.le_of_ble_eq_true rfl) (Nat.le_of_ble_eq_true rfl) (Nat.le_of_ble_eq_true rfl) (Nat.le_of_ble_eq_true rfl) hlocks (xE rfl (by first | exact fun h => h.2.2.1 c_26 | exact fun h => c_31 h.2.2.2.1) hS) hS.2.2 (Nat.le_of_ble_eq_true rfl) (Nat.le_of_ble_eq_true rfl)
      · refine lv_iload_n hx hb dX7_insert_29 rfl (lv_at hl 2 rfl) ?_
        refine lv_iconst (v := 3) hx hb dX7_insert_30 (by decide) ?_
        refine lv_icmp_le (tgt := 44) hx hb dX7_insert_31 (by decide) (fun c_31 => ?_) (fun c_31 => ?_)
        · refine lv_iload_n hx hb dX7_insert_44 rfl (lv_at hl 2 rfl) ?_
          refine kI (rS hx hb hml hown hg hN hK hP hD (c_jumps l D cI cJ cZ (XW ad cI cJ 0 b F G ++ R) kind) mw_329 mw_330 mw_331 mw_110 pd_X7_jumps ⟨Nat.le_of_ble_eq_true rfl, Nat.le_of_ble_eq_true rfl⟩ rfl hl.1 rfl (Nat.le_of_ble_eq_true rfl) dX7_insert_45 ⟨Nat.le_of_ble_eq_true rfl, Nat.le_of_ble_eq_true rfl⟩) hD hS hA (fun r_1 u_1 H locs hp hP hD hS => ?_)
          obtain ⟨hjr_1, rfl⟩ := hp
          refine lv_if_eq (tgt := 68) hx hb dX7_insert_48 (by decide) (fun c_48 => ?_) (fun c_48 => ?_)
          · refine lv_aload_n hx hb dX7_insert_68 rfl (lv_at hl 0 rfl) ?_
            refine va_get (D := D) (ci := 7) (v := .ref (ad 1)) (C := RX7) (T := TX7) (N := 6) hx hb hg inGX7 hown hK hP 0 rfl rfl 0 (by decide) (hg _ mw_113) (fun _ h9 => h9) rfl dX7_insert_69 ?_
            refine va_getN (D := D) (ci := 0) (v := .int 0) (C := RX0) (T := TX0) (N := 5) hx hb hg inGX0 hown hK hP 1 rfl rfl 4 (by decide) (hN.use nw_10) (fun _ h9 => h9) rfl dX7_insert_72 ?_
            refine lv_bipush (v := 40) hx hb dX7_insert_75 (by decide) ?_
            refine lv_icmp_lt (tgt := 90) hx hb dX7_insert_77 (by decide) (fun c_77 => ?_) (fun c_77 => absurd (by decide) c_77)
            refine lv_aload_n hx hb dX7_insert_90 rfl (lv_at hl 0 rfl) ?_
            refine va_get (D := D) (ci := 7) (v := .ref (ad 1)) (C := RX7) (T := TX7) (N := 6) hx hb hg inGX7 hown hK hP 0 rfl rfl 0 (by decide) (hg _ mw_113) (fun _ h9 => h9) rfl dX7_insert_91 ?_
            refine lv_iload_n hx hb dX7_insert_94 rfl (lv_at hl 1 rfl) ?_
            refine lv_iload_n hx hb dX7_insert_95 rfl (lv_at hl 2 rfl) ?_
            refine lv_iload_n hx hb dX7_insert_96 rfl (lv_at hl 2 rfl) ?_
            refine kI (rS hx hb hml hown hg hN hK hP hD (c_jumps l D cI cJ cZ (XW ad cI cJ 0 b F G ++ R) kind) mw_329 mw_330 mw_331 mw_110 pd_X7_jumps ⟨Nat.le_of_ble_eq_true rfl, Nat.le_of_ble_eq_true rfl⟩ rfl hl.1 rfl (Nat.le_of_ble_eq_true rfl) dX7_insert_97 ⟨Nat.le_of_ble_eq_true rfl, Nat.le_of_ble_eq_true rfl⟩) hD hS hA (fun r_2 u_2 H locs hp hP hD hS => ?_)
            obtain ⟨hjr_2, rfl⟩ := hp
            refine lv_if_eq (tgt := 107) hx hb dX7_insert_100 (by decide) (fun c_100 => ?_) (fun c_100 => ?_)
            · refine lv_iconst (v := 0) hx hb dX7_insert_107 (by decide) ?_
              refine kV (rV (q0 := 1) (ci := 0) hx hb hml hown hg hN hK hP hD (c_add l D cI cJ cZ ad b F G R place kind 0 (le_of_nlt0 c_1)) mw_332 mw_333 mw_334 mw_335 mw_324 pdv_X0_add ⟨Nat.le_of_ble_eq_true rfl, Nat.le_of_ble_eq_true rfl⟩ rfl rfl rfl hl.1 rfl (Nat.le_of_ble_eq_true rfl) dX7_insert_108 ⟨Nat.le_of_ble_eq_true rfl, Nat.le_of_ble_eq_true rfl⟩) hD hS hA (fun u_3 H locs hp hP hD hS => ?_)
              obtain ⟨F_5, rfl⟩ := hp
              refine lv_aload_n hx hb dX7_insert_111 rfl (lv_at hl 0 rfl) ?_
              refine kV (rV (q0 := 0) (ci := 7) hx hb hml hown hg hN hK hP hD (c_forget l D cI cJ cZ ad b F_5 G R 1) mw_336 mw_337 mw_338 mw_339 mw_110 pdv_X7_forget ⟨Nat.le_of_ble_eq_true rfl, Nat.le_of_ble_eq_true rfl⟩ rfl rfl rfl hl.1 rfl (Nat.le_of_ble_eq_true rfl) dX7_insert_112 ⟨Nat.le_of_ble_eq_true rfl, Nat.le_of_ble_eq_true rfl⟩) hD hS hA (fun u_7 H locs hp hP hD hS => ?_)
              obtain ⟨b_8, rfl⟩ := hp
              refine lv_aload_n hx hb dX7_insert_115 rfl (lv_at hl 0 rfl) ?_
              refine va_get (D := D) (ci := 7) (v := .ref (ad 1)) (C := RX7) (T := TX7) (N := 6) hx hb hg inGX7 hown hK hP 0 rfl rfl 0 (by decide) (hg _ mw_113) (fun _ h9 => h9) rfl dX7_insert_116 ?_
              refine va_getN (D := D) (ci := 0) (v := .int 1) (C := RX0) (T := TX0) (N := 5) hx hb hg inGX0 hown hK hP 1 rfl rfl 4 (by decide) (hN.use nw_10) (fun _ h9 => h9) rfl dX7_insert_119 ?_
              refine W.widen (k := 1) (n := 6) (Nat.le_of_ble_eq_true rfl) (Nat.le_of_ble_eq_true rfl) ?_
              refine vx_ret ?_
              exact W.iret (v := 1) hx hb hr (fun t ht hW => ⟨⟨1, (XW ad cI cJ 1 b_8 F_5 G ++ R), rfl, ⟨rfl, ⟨c_1, c_12, c_26, c_31, by first | exact oki_no hjr_1 c_48 | exact oki_yes c_1 c_55⟩, _, _, _, _, rfl⟩, ⟨by rw [ht]; exact hP, va_K.moved hW.alike hK, hD⟩⟩, hS.F ht⟩) hS.2.2 dX7_insert_122
            · refine lv_iload_n hx hb dX7_insert_103 rfl (lv_at hl 3 rfl) ?_
              refine lv_goto (tgt := 108) hx hb dX7_insert_104 (by decide) ?_
              refine kV (rV (q0 := 1) (ci := 0) hx hb hml hown hg hN hK hP hD (c_add l D cI cJ cZ ad b F G R place kind target (le_of_nlt0 c_1)) mw_332 mw_333 mw_334 mw_335 mw_324 pdv_X0_add ⟨Nat.le_of_ble_eq_true rfl, Nat.le_of_ble_eq_true rfl⟩ rfl rfl rfl hl.1 rfl (Nat.le_of_ble_eq_true rfl) dX7_insert_108 ⟨Nat.le_of_ble_eq_true rfl, Nat.le_of_ble_eq_true rfl⟩) hD hS hA (fun u_11 H locs hp hP hD hS => ?_)
              obtain ⟨F_13, rfl⟩ := hp
              refine lv_aload_n hx hb dX7_insert_111 rfl (lv_at hl 0 rfl) ?_
              refine kV (rV (q0 := 0) (ci := 7) hx hb hml hown hg hN hK hP hD (c_forget l D cI cJ cZ ad b F_13 G R 1) mw_336 mw_337 mw_338 mw_339 mw_110 pdv_X7_forget ⟨Nat.le_of_ble_eq_true rfl, Nat.le_of_ble_eq_true rfl⟩ rfl rfl rfl hl.1 rfl (Nat.le_of_ble_eq_true rfl) dX7_insert_112 ⟨Nat.le_of_ble_eq_true rfl, Nat.le_of_ble_eq_true rfl⟩) hD hS hA (fun u_15 H locs hp hP hD hS => ?_)
              obtain ⟨b_16, rfl⟩ := hp
              refine lv_aload_n hx hb dX7_insert_115 rfl (lv_at hl 0 rfl) ?_
              refine va_get (D := D) (ci := 7) (v := .ref (ad 1)) (C := RX7) (T := TX7) (N := 6) hx hb hg inGX7 hown hK hP 0 rfl rfl 0 (by decide) (hg _ mw_113) (fun _ h9 => h9) rfl dX7_insert_116 ?_
              refine va_getN (D := D) (ci := 0) (v := .int 1) (C := RX0) (T := TX0) (N := 5) hx hb hg inGX0 hown hK hP 1 rfl rfl 4 (by decide) (hN.use nw_10) (fun _ h9 => h9) rfl dX7_insert_119 ?_
              refine W.widen (k := 1) (n := 6) (Nat.le_of_ble_eq_true rfl) (Nat.le_of_ble_eq_true rfl) ?_
              refine vx_ret ?_
              exact W.iret (v := 1) hx hb hr (fun t ht hW => ⟨⟨1, (XW ad cI cJ 1 b_16 F_13 G ++ R), rfl, ⟨rfl, ⟨c_1, c_12, c_26, c_31, by first | exact oki_no hjr_1 c_48 | exact oki_yes c_1 c_55⟩, _, _, _, _, rfl⟩, ⟨by rw [ht]; exact hP, va_K.moved hW.alike hK, hD⟩⟩, hS.F ht⟩) hS.2.2 dX7_insert_122
          · refine lv_iload_n hx hb dX7_insert_51 rfl (lv_at hl 3 rfl) ?_
            refine kI (rS hx hb hml hown hg hN hK hP hD (c_isTarget l D cI cJ cZ (XW ad cI cJ 0 b F G ++ R) target) mw_340 mw_341 mw_342 mw_110 pd_X7_isTarget ⟨Nat.le_of_ble_eq_true rfl, Nat.le_of_ble_eq_true rfl⟩ rfl hl.1 rfl (Nat.le_of_ble_eq_true rfl) dX7_insert_52 ⟨Nat.le_of_ble_eq_true rfl, Nat.le_of_ble_eq_true rfl⟩) hD hS hA (fun r_19 u_19 H locs hp hP hD hS => ?_)
            obtain ⟨htr_19, rfl⟩ := hp
            refine lv_if_ne (tgt := 68) hx hb dX7_insert_55 (by decide) (fun c_55 => ?_) (fun c_55 => ?_)
            · refine lv_aload_n hx hb dX7_insert_68 rfl (lv_at hl 0 rfl) ?_
              refine va_get (D := D) (ci := 7) (v := .ref (ad 1)) (C := RX7) (T := TX7) (N := 6) hx hb hg inGX7 hown hK hP 0 rfl rfl 0 (by decide) (hg _ mw_113) (fun _ h9 => h9) rfl dX7_insert_69 ?_
              refine va_getN (D := D) (ci := 0) (v := .int 0) (C := RX0) (T := TX0) (N := 5) hx hb hg inGX0 hown hK hP 1 rfl rfl 4 (by decide) (hN.use nw_10) (fun _ h9 => h9) rfl dX7_insert_72 ?_
              refine lv_bipush (v := 40) hx hb dX7_insert_75 (by decide) ?_
              refine lv_icmp_lt (tgt := 90) hx hb dX7_insert_77 (by decide) (fun c_77 => ?_) (fun c_77 => absurd (by decide) c_77)
              refine lv_aload_n hx hb dX7_insert_90 rfl (lv_at hl 0 rfl) ?_
              refine va_get (D := D) (ci := 7) (v := .ref (ad 1)) (C := RX7) (T := TX7) (N := 6) hx hb hg inGX7 hown hK hP 0 rfl rfl 0 (by decide) (hg _ mw_113) (fun _ h9 => h9) rfl dX7_insert_91 ?_
              refine lv_iload_n hx hb dX7_insert_94 rfl (lv_at hl 1 rfl) ?_
              refine lv_iload_n hx hb dX7_insert_95 rfl (lv_at hl 2 rfl) ?_
              refine lv_iload_n hx hb dX7_insert_96 rfl (lv_at hl 2 rfl) ?_
              refine kI (rS hx hb hml hown hg hN hK hP hD (c_jumps l D cI cJ cZ (XW ad cI cJ 0 b F G ++ R) kind) mw_329 mw_330 mw_331 mw_110 pd_X7_jumps ⟨Nat.le_of_ble_eq_true rfl, Nat.le_of_ble_eq_true rfl⟩ rfl hl.1 rfl (Nat.le_of_ble_eq_true rfl) dX7_insert_97 ⟨Nat.le_of_ble_eq_true rfl, Nat.le_of_ble_eq_true rfl⟩) hD hS hA (fun r_20 u_20 H locs hp hP hD hS => ?_)
              obtain ⟨hjr_20, rfl⟩ := hp
              refine lv_if_eq (tgt := 107) hx hb dX7_insert_100 (by decide) (fun c_100 => ?_) (fun c_100 => ?_)
              · refine lv_iconst (v := 0) hx hb dX7_insert_107 (by decide) ?_
                refine kV (rV (q0 := 1) (ci := 0) hx hb hml hown hg hN hK hP hD (c_add l D cI cJ cZ ad b F G R place kind 0 (le_of_nlt0 c_1)) mw_332 mw_333 mw_334 mw_335 mw_324 pdv_X0_add ⟨Nat.le_of_ble_eq_true rfl, Nat.le_of_ble_eq_true rfl⟩ rfl rfl rfl hl.1 rfl (Nat.le_of_ble_eq_true rfl) dX7_insert_108 ⟨Nat.le_of_ble_eq_true rfl, Nat.le_of_ble_eq_true rfl⟩) hD hS hA (fun u_21 H locs hp hP hD hS => ?_)
                obtain ⟨F_23, rfl⟩ := hp
                refine lv_aload_n hx hb dX7_insert_111 rfl (lv_at hl 0 rfl) ?_
                refine kV (rV (q0 := 0) (ci := 7) hx hb hml hown hg hN hK hP hD (c_forget l D cI cJ cZ ad b F_23 G R 1) mw_336 mw_337 mw_338 mw_339 mw_110 pdv_X7_forget ⟨Nat.le_of_ble_eq_true rfl, Nat.le_of_ble_eq_true rfl⟩ rfl rfl rfl hl.1 rfl (Nat.le_of_ble_eq_true rfl) dX7_insert_112 ⟨Nat.le_of_ble_eq_true rfl, Nat.le_of_ble_eq_true rfl⟩) hD hS hA (fun u_25 H locs hp hP hD hS => ?_)
                obtain ⟨b_26, rfl⟩ := hp
                refine lv_aload_n hx hb dX7_insert_115 rfl (lv_at hl 0 rfl) ?_
                refine va_get (D := D) (ci := 7) (v := .ref (ad 1)) (C := RX7) (T := TX7) (N := 6) hx hb hg inGX7 hown hK hP 0 rfl rfl 0 (by decide) (hg _ mw_113) (fun _ h9 => h9) rfl dX7_insert_116 ?_
                refine va_getN (D := D) (ci := 0) (v := .int 1) (C := RX0) (T := TX0) (N := 5) hx hb hg inGX0 hown hK hP 1 rfl rfl 4 (by decide) (hN.use nw_10) (fun _ h9 => h9) rfl dX7_insert_119 ?_
                refine W.widen (k := 1) (n := 6) (Nat.le_of_ble_eq_true rfl) (Nat.le_of_ble_eq_true rfl) ?_
                refine vx_ret ?_
                exact W.iret (v := 1) hx hb hr (fun t ht hW => ⟨⟨1, (XW ad cI cJ 1 b_26 F_23 G ++ R), rfl, ⟨rfl, ⟨c_1, c_12, c_26, c_31, by first | exact oki_no hjr_1 c_48 | exact oki_yes htr_19 c_55⟩, _, _, _, _, rfl⟩, ⟨by rw [ht]; exact hP, va_K.moved hW.alike hK, hD⟩⟩, hS.F ht⟩) hS.2.2 dX7_insert_122
              · refine lv_iload_n hx hb dX7_insert_103 rfl (lv_at hl 3 rfl) ?_
                refine lv_goto (tgt := 108) hx hb dX7_insert_104 (by decide) ?_
                refine kV (rV (q0 := 1) (ci := 0) hx hb hml hown hg hN hK hP hD (c_add l D cI cJ cZ ad b F G R place kind target (le_of_nlt0 c_1)) mw_332 mw_333 mw_334 mw_335 mw_324 pdv_X0_add ⟨Nat.le_of_ble_eq_true rfl, Nat.le_of_ble_eq_true rfl⟩ rfl rfl rfl hl.1 rfl (Nat.le_of_ble_eq_true rfl) dX7_insert_108 ⟨Nat.le_of_ble_eq_true rfl, Nat.le_of_ble_eq_true rfl⟩) hD hS hA (fun u_29 H locs hp hP hD hS => ?_)
                obtain ⟨F_31, rfl⟩ := hp
                refine lv_aload_n hx hb dX7_insert_111 rfl (lv_at hl 0 rfl) ?_
                refine kV (rV (q0 := 0) (ci := 7) hx hb hml hown hg hN hK hP hD (c_forget l D cI cJ cZ ad b F_31 G R 1) mw_336 mw_337 mw_338 mw_339 mw_110 pdv_X7_forget ⟨Nat.le_of_ble_eq_true rfl, Nat.le_of_ble_eq_true rfl⟩ rfl rfl rfl hl.1 rfl (Nat.le_of_ble_eq_true rfl) dX7_insert_112 ⟨Nat.le_of_ble_eq_true rfl, Nat.le_of_ble_eq_true rfl⟩) hD hS hA (fun u_33 H locs hp hP hD hS => ?_)
                obtain ⟨b_34, rfl⟩ := hp
                refine lv_aload_n hx hb dX7_insert_115 rfl (lv_at hl 0 rfl) ?_
                refine va_get (D := D) (ci := 7) (v := .ref (ad 1)) (C := RX7) (T := TX7) (N := 6) hx hb hg inGX7 hown hK hP 0 rfl rfl 0 (by decide) (hg _ mw_113) (fun _ h9 => h9) rfl dX7_insert_116 ?_
                refine va_getN (D := D) (ci := 0) (v := .int 1) (C := RX0) (T := TX0) (N := 5) hx hb hg inGX0 hown hK hP 1 rfl rfl 4 (by decide) (hN.use nw_10) (fun _ h9 => h9) rfl dX7_insert_119 ?_
                refine W.widen (k := 1) (n := 6) (Nat.le_of_ble_eq_true rfl) (Nat.le_of_ble_eq_true rfl) ?_
                refine vx_ret ?_
                exact W.iret (v := 1) hx hb hr (fun t ht hW => ⟨⟨1, (XW ad cI cJ 1 b_34 F_31 G ++ R), rfl, ⟨rfl, ⟨c_1, c_12, c_26, c_31, by first | exact oki_no hjr_1 c_48 | exact oki_yes htr_19 c_55⟩, _, _, _, _, rfl⟩, ⟨by rw [ht]; exact hP, va_K.moved hW.alike hK, hD⟩⟩, hS.F ht⟩) hS.2.2 dX7_insert_122
            · obtain ⟨sa9, hsa9⟩ := hSR (71, "no such target") (List.mem_of_getElem? (i := 2) rfl)
              exact vx_throwS (names := ENM) (cls := EIAE) hx hb hfl hown fitE.1 fitE.2.2 (hg _ mw_229) (hg _ mw_230) hsa9 (hat_of at1a at1b hg hN) gd1 hST.1 hST.2 hS (by rw [hml]; exact hl.1) dX7_insert_58 dX7_insert_61 dX7_insert_62 dX7_insert_64 dX7_insert_67 (fun x hx9 => (hE x hx9).elim) (Nat.le_of_ble_eq_true rfl) (Nat.le_of_ble_eq_true rfl) (Nat.le_of_ble_eq_true rfl) (Nat.le_of_ble_eq_true rfl) hlocks (xE rfl (fun h => oki_bad hjr_1 htr_19 c_48 c_55 h.2.2.2.2) hS) hS.2.2 (Nat.le_of_ble_eq_true rfl) (Nat.le_of_ble_eq_true rfl)
        · obtain ⟨sa9, hsa9⟩ := hSR (62, "no such kind") (List.mem_of_getElem? (i := 1) rfl)
          exact vx_throwS (names := ENM) (cls := EIAE) hx hb hfl hown fitE.1 fitE.2.2 (hg _ mw_229) (hg _ mw_230) hsa9 (hat_of at1a at1b hg hN) gd1 hST.1 hST.2 hS (by rw [hml]; exact hl.1) dX7_insert_34 dX7_insert_37 dX7_insert_38 dX7_insert_40 dX7_insert_43 (fun x hx9 => (hE x hx9).elim) (Nat.le_of_ble_eq_true rfl) (Nat.le_of_ble_eq_true rfl) (Nat.le_of_ble_eq_true rfl) (Nat.le_of_ble_eq_true rfl) hlocks (xE rfl (by first | exact fun h => h.2.2.1 c_26 | exact fun h => c_31 h.2.2.2.1) hS) hS.2.2 (Nat.le_of_ble_eq_true rfl) (Nat.le_of_ble_eq_true rfl)
    · obtain ⟨sa9, hsa9⟩ := hSR (57, "no such place") (List.mem_of_getElem? (i := 0) rfl)
      exact vx_throwS (names := ENM) (cls := EIAE) hx hb hfl hown fitE.1 fitE.2.2 (hg _ mw_229) (hg _ mw_230) hsa9 (hat_of at1a at1b hg hN) gd1 hST.1 hST.2 hS (by rw [hml]; exact hl.1) dX7_insert_15 dX7_insert_18 dX7_insert_19 dX7_insert_21 dX7_insert_24 (fun x hx9 => (hE x hx9).elim) (Nat.le_of_ble_eq_true rfl) (Nat.le_of_ble_eq_true rfl) (Nat.le_of_ble_eq_true rfl) (Nat.le_of_ble_eq_true rfl) hlocks (xE rfl (by first | exact fun h => h.1 c_1 | exact fun h => c_12 h.2.1) hS) hS.2.2 (Nat.le_of_ble_eq_true rfl) (Nat.le_of_ble_eq_true rfl)
