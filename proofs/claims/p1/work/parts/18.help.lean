theorem dL_insert_0 : decode cL_insert 0 = .ok (.aload 4, 2) := by decide +kernel
theorem dL_insert_2 : decode cL_insert 2 = .ok (.iconst 0, 1) := by decide +kernel
theorem dL_insert_3 : decode cL_insert 3 = .ok (.aload_n 0, 1) := by decide +kernel
theorem dL_insert_4 : decode cL_insert 4 = .ok (.iload_n 1, 1) := by decide +kernel
theorem dL_insert_5 : decode cL_insert 5 = .ok (.iload_n 2, 1) := by decide +kernel
theorem dL_insert_6 : decode cL_insert 6 = .ok (.iload_n 3, 1) := by decide +kernel
theorem dL_insert_7 : decode cL_insert 7 = .ok (.invokevirtual 7, 3) := by decide +kernel
theorem dL_insert_10 : decode cL_insert 10 = .ok (.i2l, 1) := by decide +kernel
theorem dL_insert_11 : decode cL_insert 11 = .ok (.lastore, 1) := by decide +kernel
theorem dL_insert_12 : decode cL_insert 12 = .ok (.goto 11, 3) := by decide +kernel
theorem dL_insert_15 : decode cL_insert 15 = .ok (.astore 5, 2) := by decide +kernel
theorem dL_insert_17 : decode cL_insert 17 = .ok (.iconst 1, 1) := by decide +kernel
theorem dL_insert_18 : decode cL_insert 18 = .ok (.ireturn, 1) := by decide +kernel
theorem dL_insert_23 : decode cL_insert 23 = .ok (.iconst 0, 1) := by decide +kernel
theorem dL_insert_24 : decode cL_insert 24 = .ok (.ireturn, 1) := by decide +kernel
theorem dL_remove_0 : decode cL_remove 0 = .ok (.aload_n 2, 1) := by decide +kernel
theorem dL_remove_1 : decode cL_remove 1 = .ok (.iconst 0, 1) := by decide +kernel
theorem dL_remove_2 : decode cL_remove 2 = .ok (.aload_n 0, 1) := by decide +kernel
theorem dL_remove_3 : decode cL_remove 3 = .ok (.iload_n 1, 1) := by decide +kernel
theorem dL_remove_4 : decode cL_remove 4 = .ok (.invokevirtual 17, 3) := by decide +kernel
theorem dL_remove_12 : decode cL_remove 12 = .ok (.astore_n 3, 1) := by decide +kernel
theorem dL_remove_13 : decode cL_remove 13 = .ok (.iconst 1, 1) := by decide +kernel
theorem dL_remove_14 : decode cL_remove 14 = .ok (.ireturn, 1) := by decide +kernel
theorem dL_setTarget_0 : decode cL_setTarget 0 = .ok (.aload_n 3, 1) := by decide +kernel
theorem dL_setTarget_1 : decode cL_setTarget 1 = .ok (.iconst 0, 1) := by decide +kernel
theorem dL_setTarget_2 : decode cL_setTarget 2 = .ok (.aload_n 0, 1) := by decide +kernel
theorem dL_setTarget_3 : decode cL_setTarget 3 = .ok (.iload_n 1, 1) := by decide +kernel
theorem dL_setTarget_4 : decode cL_setTarget 4 = .ok (.iload_n 2, 1) := by decide +kernel
theorem dL_setTarget_5 : decode cL_setTarget 5 = .ok (.invokevirtual 23, 3) := by decide +kernel
theorem dL_setTarget_13 : decode cL_setTarget 13 = .ok (.astore 4, 2) := by decide +kernel
theorem dL_setTarget_15 : decode cL_setTarget 15 = .ok (.iconst 1, 1) := by decide +kernel
theorem dL_setTarget_16 : decode cL_setTarget 16 = .ok (.ireturn, 1) := by decide +kernel
theorem dL_setUse_0 : decode cL_setUse 0 = .ok (.aload 4, 2) := by decide +kernel
theorem dL_setUse_2 : decode cL_setUse 2 = .ok (.iconst 0, 1) := by decide +kernel
theorem dL_setUse_3 : decode cL_setUse 3 = .ok (.aload_n 0, 1) := by decide +kernel
theorem dL_setUse_4 : decode cL_setUse 4 = .ok (.iload_n 1, 1) := by decide +kernel
theorem dL_setUse_5 : decode cL_setUse 5 = .ok (.iload_n 2, 1) := by decide +kernel
theorem dL_setUse_6 : decode cL_setUse 6 = .ok (.iload_n 3, 1) := by decide +kernel
theorem dL_setUse_7 : decode cL_setUse 7 = .ok (.invokevirtual 27, 3) := by decide +kernel
theorem dL_setUse_15 : decode cL_setUse 15 = .ok (.astore 5, 2) := by decide +kernel
theorem dL_setUse_17 : decode cL_setUse 17 = .ok (.iconst 1, 1) := by decide +kernel
theorem dL_setUse_18 : decode cL_setUse 18 = .ok (.ireturn, 1) := by decide +kernel
theorem dL_kindOf_0 : decode cL_kindOf 0 = .ok (.aload_n 2, 1) := by decide +kernel
theorem dL_kindOf_1 : decode cL_kindOf 1 = .ok (.iconst 0, 1) := by decide +kernel
theorem dL_kindOf_2 : decode cL_kindOf 2 = .ok (.aload_n 0, 1) := by decide +kernel
theorem dL_kindOf_3 : decode cL_kindOf 3 = .ok (.iload_n 1, 1) := by decide +kernel
theorem dL_kindOf_4 : decode cL_kindOf 4 = .ok (.invokevirtual 30, 3) := by decide +kernel
theorem dL_kindOf_12 : decode cL_kindOf 12 = .ok (.astore_n 3, 1) := by decide +kernel
theorem dL_kindOf_13 : decode cL_kindOf 13 = .ok (.iconst 1, 1) := by decide +kernel
theorem dL_kindOf_14 : decode cL_kindOf 14 = .ok (.ireturn, 1) := by decide +kernel
theorem dL_targetOf_0 : decode cL_targetOf 0 = .ok (.aload_n 2, 1) := by decide +kernel
theorem dL_targetOf_1 : decode cL_targetOf 1 = .ok (.iconst 0, 1) := by decide +kernel
theorem dL_targetOf_2 : decode cL_targetOf 2 = .ok (.aload_n 0, 1) := by decide +kernel
theorem dL_targetOf_3 : decode cL_targetOf 3 = .ok (.iload_n 1, 1) := by decide +kernel
theorem dL_targetOf_4 : decode cL_targetOf 4 = .ok (.invokevirtual 33, 3) := by decide +kernel
theorem dL_targetOf_12 : decode cL_targetOf 12 = .ok (.astore_n 3, 1) := by decide +kernel
theorem dL_targetOf_13 : decode cL_targetOf 13 = .ok (.iconst 1, 1) := by decide +kernel
theorem dL_targetOf_14 : decode cL_targetOf 14 = .ok (.ireturn, 1) := by decide +kernel
theorem dL_blockOf_0 : decode cL_blockOf 0 = .ok (.aload_n 2, 1) := by decide +kernel
theorem dL_blockOf_1 : decode cL_blockOf 1 = .ok (.iconst 0, 1) := by decide +kernel
theorem dL_blockOf_2 : decode cL_blockOf 2 = .ok (.aload_n 0, 1) := by decide +kernel
theorem dL_blockOf_3 : decode cL_blockOf 3 = .ok (.iload_n 1, 1) := by decide +kernel
theorem dL_blockOf_4 : decode cL_blockOf 4 = .ok (.invokevirtual 36, 3) := by decide +kernel
theorem dL_blockOf_12 : decode cL_blockOf 12 = .ok (.astore_n 3, 1) := by decide +kernel
theorem dL_blockOf_13 : decode cL_blockOf 13 = .ok (.iconst 1, 1) := by decide +kernel
theorem dL_blockOf_14 : decode cL_blockOf 14 = .ok (.ireturn, 1) := by decide +kernel
theorem dL_firstOf_0 : decode cL_firstOf 0 = .ok (.aload_n 2, 1) := by decide +kernel
theorem dL_firstOf_1 : decode cL_firstOf 1 = .ok (.iconst 0, 1) := by decide +kernel
theorem dL_firstOf_2 : decode cL_firstOf 2 = .ok (.aload_n 0, 1) := by decide +kernel
theorem dL_firstOf_3 : decode cL_firstOf 3 = .ok (.iload_n 1, 1) := by decide +kernel
theorem dL_firstOf_4 : decode cL_firstOf 4 = .ok (.invokevirtual 39, 3) := by decide +kernel
theorem dL_firstOf_12 : decode cL_firstOf 12 = .ok (.astore_n 3, 1) := by decide +kernel
theorem dL_firstOf_13 : decode cL_firstOf 13 = .ok (.iconst 1, 1) := by decide +kernel
theorem dL_firstOf_14 : decode cL_firstOf 14 = .ok (.ireturn, 1) := by decide +kernel
theorem dL_isReached_0 : decode cL_isReached 0 = .ok (.aload_n 2, 1) := by decide +kernel
theorem dL_isReached_1 : decode cL_isReached 1 = .ok (.iconst 0, 1) := by decide +kernel
theorem dL_isReached_2 : decode cL_isReached 2 = .ok (.aload_n 0, 1) := by decide +kernel
theorem dL_isReached_3 : decode cL_isReached 3 = .ok (.iload_n 1, 1) := by decide +kernel
theorem dL_isReached_4 : decode cL_isReached 4 = .ok (.invokevirtual 42, 3) := by decide +kernel
theorem dL_isReached_19 : decode cL_isReached 19 = .ok (.astore_n 3, 1) := by decide +kernel
theorem dL_isReached_20 : decode cL_isReached 20 = .ok (.iconst 1, 1) := by decide +kernel
theorem dL_isReached_21 : decode cL_isReached 21 = .ok (.ireturn, 1) := by decide +kernel
theorem dL_edgeFrom_0 : decode cL_edgeFrom 0 = .ok (.aload_n 2, 1) := by decide +kernel
theorem dL_edgeFrom_1 : decode cL_edgeFrom 1 = .ok (.iconst 0, 1) := by decide +kernel
theorem dL_edgeFrom_2 : decode cL_edgeFrom 2 = .ok (.aload_n 0, 1) := by decide +kernel
theorem dL_edgeFrom_3 : decode cL_edgeFrom 3 = .ok (.iload_n 1, 1) := by decide +kernel
theorem dL_edgeFrom_4 : decode cL_edgeFrom 4 = .ok (.invokevirtual 46, 3) := by decide +kernel
theorem dL_edgeFrom_12 : decode cL_edgeFrom 12 = .ok (.astore_n 3, 1) := by decide +kernel
theorem dL_edgeFrom_13 : decode cL_edgeFrom 13 = .ok (.iconst 1, 1) := by decide +kernel
theorem dL_edgeFrom_14 : decode cL_edgeFrom 14 = .ok (.ireturn, 1) := by decide +kernel
theorem dL_edgeTo_0 : decode cL_edgeTo 0 = .ok (.aload_n 2, 1) := by decide +kernel
theorem dL_edgeTo_1 : decode cL_edgeTo 1 = .ok (.iconst 0, 1) := by decide +kernel
theorem dL_edgeTo_2 : decode cL_edgeTo 2 = .ok (.aload_n 0, 1) := by decide +kernel
theorem dL_edgeTo_3 : decode cL_edgeTo 3 = .ok (.iload_n 1, 1) := by decide +kernel
theorem dL_edgeTo_4 : decode cL_edgeTo 4 = .ok (.invokevirtual 49, 3) := by decide +kernel
theorem dL_edgeTo_12 : decode cL_edgeTo 12 = .ok (.astore_n 3, 1) := by decide +kernel
theorem dL_edgeTo_13 : decode cL_edgeTo 13 = .ok (.iconst 1, 1) := by decide +kernel
theorem dL_edgeTo_14 : decode cL_edgeTo 14 = .ok (.ireturn, 1) := by decide +kernel
theorem dL_dominates_0 : decode cL_dominates 0 = .ok (.aload_n 3, 1) := by decide +kernel
theorem dL_dominates_1 : decode cL_dominates 1 = .ok (.iconst 0, 1) := by decide +kernel
theorem dL_dominates_2 : decode cL_dominates 2 = .ok (.aload_n 0, 1) := by decide +kernel
theorem dL_dominates_3 : decode cL_dominates 3 = .ok (.iload_n 1, 1) := by decide +kernel
theorem dL_dominates_4 : decode cL_dominates 4 = .ok (.iload_n 2, 1) := by decide +kernel
theorem dL_dominates_5 : decode cL_dominates 5 = .ok (.invokevirtual 52, 3) := by decide +kernel
theorem dL_dominates_20 : decode cL_dominates 20 = .ok (.astore 4, 2) := by decide +kernel
theorem dL_dominates_22 : decode cL_dominates 22 = .ok (.iconst 1, 1) := by decide +kernel
theorem dL_dominates_23 : decode cL_dominates 23 = .ok (.ireturn, 1) := by decide +kernel
theorem dL_parentOf_0 : decode cL_parentOf 0 = .ok (.aload_n 2, 1) := by decide +kernel
theorem dL_parentOf_1 : decode cL_parentOf 1 = .ok (.iconst 0, 1) := by decide +kernel
theorem dL_parentOf_2 : decode cL_parentOf 2 = .ok (.aload_n 0, 1) := by decide +kernel
theorem dL_parentOf_3 : decode cL_parentOf 3 = .ok (.iload_n 1, 1) := by decide +kernel
theorem dL_parentOf_4 : decode cL_parentOf 4 = .ok (.invokevirtual 56, 3) := by decide +kernel
theorem dL_parentOf_12 : decode cL_parentOf 12 = .ok (.astore_n 3, 1) := by decide +kernel
theorem dL_parentOf_13 : decode cL_parentOf 13 = .ok (.iconst 1, 1) := by decide +kernel
theorem dL_parentOf_14 : decode cL_parentOf 14 = .ok (.ireturn, 1) := by decide +kernel
theorem dL_comesBehind_0 : decode cL_comesBehind 0 = .ok (.aload_n 3, 1) := by decide +kernel
theorem dL_comesBehind_1 : decode cL_comesBehind 1 = .ok (.iconst 0, 1) := by decide +kernel
theorem dL_comesBehind_2 : decode cL_comesBehind 2 = .ok (.aload_n 0, 1) := by decide +kernel
theorem dL_comesBehind_3 : decode cL_comesBehind 3 = .ok (.iload_n 1, 1) := by decide +kernel
theorem dL_comesBehind_4 : decode cL_comesBehind 4 = .ok (.iload_n 2, 1) := by decide +kernel
theorem dL_comesBehind_5 : decode cL_comesBehind 5 = .ok (.invokevirtual 59, 3) := by decide +kernel
theorem dL_comesBehind_20 : decode cL_comesBehind 20 = .ok (.astore 4, 2) := by decide +kernel
theorem dL_comesBehind_22 : decode cL_comesBehind 22 = .ok (.iconst 1, 1) := by decide +kernel
theorem dL_comesBehind_23 : decode cL_comesBehind 23 = .ok (.ireturn, 1) := by decide +kernel
theorem dL_isBack_0 : decode cL_isBack 0 = .ok (.aload_n 2, 1) := by decide +kernel
theorem dL_isBack_1 : decode cL_isBack 1 = .ok (.iconst 0, 1) := by decide +kernel
theorem dL_isBack_2 : decode cL_isBack 2 = .ok (.aload_n 0, 1) := by decide +kernel
theorem dL_isBack_3 : decode cL_isBack 3 = .ok (.iload_n 1, 1) := by decide +kernel
theorem dL_isBack_4 : decode cL_isBack 4 = .ok (.invokevirtual 62, 3) := by decide +kernel
theorem dL_isBack_19 : decode cL_isBack 19 = .ok (.astore_n 3, 1) := by decide +kernel
theorem dL_isBack_20 : decode cL_isBack 20 = .ok (.iconst 1, 1) := by decide +kernel
theorem dL_isBack_21 : decode cL_isBack 21 = .ok (.ireturn, 1) := by decide +kernel
theorem dL_loopSize_0 : decode cL_loopSize 0 = .ok (.aload_n 2, 1) := by decide +kernel
theorem dL_loopSize_1 : decode cL_loopSize 1 = .ok (.iconst 0, 1) := by decide +kernel
theorem dL_loopSize_2 : decode cL_loopSize 2 = .ok (.aload_n 0, 1) := by decide +kernel
theorem dL_loopSize_3 : decode cL_loopSize 3 = .ok (.iload_n 1, 1) := by decide +kernel
theorem dL_loopSize_4 : decode cL_loopSize 4 = .ok (.invokevirtual 65, 3) := by decide +kernel
theorem dL_loopSize_12 : decode cL_loopSize 12 = .ok (.astore_n 3, 1) := by decide +kernel
theorem dL_loopSize_13 : decode cL_loopSize 13 = .ok (.iconst 1, 1) := by decide +kernel
theorem dL_loopSize_14 : decode cL_loopSize 14 = .ok (.ireturn, 1) := by decide +kernel
theorem dL_depthOf_0 : decode cL_depthOf 0 = .ok (.aload_n 2, 1) := by decide +kernel
theorem dL_depthOf_1 : decode cL_depthOf 1 = .ok (.iconst 0, 1) := by decide +kernel
theorem dL_depthOf_2 : decode cL_depthOf 2 = .ok (.aload_n 0, 1) := by decide +kernel
theorem dL_depthOf_3 : decode cL_depthOf 3 = .ok (.iload_n 1, 1) := by decide +kernel
theorem dL_depthOf_4 : decode cL_depthOf 4 = .ok (.invokevirtual 68, 3) := by decide +kernel
theorem dL_depthOf_12 : decode cL_depthOf 12 = .ok (.astore_n 3, 1) := by decide +kernel
theorem dL_depthOf_13 : decode cL_depthOf 13 = .ok (.iconst 1, 1) := by decide +kernel
theorem dL_depthOf_14 : decode cL_depthOf 14 = .ok (.ireturn, 1) := by decide +kernel
theorem dL_liveIn_0 : decode cL_liveIn 0 = .ok (.aload_n 2, 1) := by decide +kernel
theorem dL_liveIn_1 : decode cL_liveIn 1 = .ok (.iconst 0, 1) := by decide +kernel
theorem dL_liveIn_2 : decode cL_liveIn 2 = .ok (.aload_n 0, 1) := by decide +kernel
theorem dL_liveIn_3 : decode cL_liveIn 3 = .ok (.iload_n 1, 1) := by decide +kernel
theorem dL_liveIn_4 : decode cL_liveIn 4 = .ok (.invokevirtual 71, 3) := by decide +kernel
theorem dL_liveIn_12 : decode cL_liveIn 12 = .ok (.astore_n 3, 1) := by decide +kernel
theorem dL_liveIn_13 : decode cL_liveIn 13 = .ok (.iconst 1, 1) := by decide +kernel
theorem dL_liveIn_14 : decode cL_liveIn 14 = .ok (.ireturn, 1) := by decide +kernel
theorem dL_ruleOf_0 : decode cL_ruleOf 0 = .ok (.aload_n 2, 1) := by decide +kernel
theorem dL_ruleOf_1 : decode cL_ruleOf 1 = .ok (.iconst 0, 1) := by decide +kernel
theorem dL_ruleOf_2 : decode cL_ruleOf 2 = .ok (.aload_n 0, 1) := by decide +kernel
theorem dL_ruleOf_3 : decode cL_ruleOf 3 = .ok (.iload_n 1, 1) := by decide +kernel
theorem dL_ruleOf_4 : decode cL_ruleOf 4 = .ok (.invokevirtual 74, 3) := by decide +kernel
theorem dL_ruleOf_12 : decode cL_ruleOf 12 = .ok (.astore_n 3, 1) := by decide +kernel
theorem dL_ruleOf_13 : decode cL_ruleOf 13 = .ok (.iconst 1, 1) := by decide +kernel
theorem dL_ruleOf_14 : decode cL_ruleOf 14 = .ok (.ireturn, 1) := by decide +kernel
theorem dL_nodeOf_0 : decode cL_nodeOf 0 = .ok (.aload_n 2, 1) := by decide +kernel
theorem dL_nodeOf_1 : decode cL_nodeOf 1 = .ok (.iconst 0, 1) := by decide +kernel
theorem dL_nodeOf_2 : decode cL_nodeOf 2 = .ok (.aload_n 0, 1) := by decide +kernel
theorem dL_nodeOf_3 : decode cL_nodeOf 3 = .ok (.iload_n 1, 1) := by decide +kernel
theorem dL_nodeOf_4 : decode cL_nodeOf 4 = .ok (.invokevirtual 77, 3) := by decide +kernel
theorem dL_nodeOf_12 : decode cL_nodeOf 12 = .ok (.astore_n 3, 1) := by decide +kernel
theorem dL_nodeOf_13 : decode cL_nodeOf 13 = .ok (.iconst 1, 1) := by decide +kernel
theorem dL_nodeOf_14 : decode cL_nodeOf 14 = .ok (.ireturn, 1) := by decide +kernel
theorem dL_endsIn_0 : decode cL_endsIn 0 = .ok (.aload_n 2, 1) := by decide +kernel
theorem dL_endsIn_1 : decode cL_endsIn 1 = .ok (.iconst 0, 1) := by decide +kernel
theorem dL_endsIn_2 : decode cL_endsIn 2 = .ok (.aload_n 0, 1) := by decide +kernel
theorem dL_endsIn_3 : decode cL_endsIn 3 = .ok (.iload_n 1, 1) := by decide +kernel
theorem dL_endsIn_4 : decode cL_endsIn 4 = .ok (.invokevirtual 80, 3) := by decide +kernel
theorem dL_endsIn_12 : decode cL_endsIn 12 = .ok (.astore_n 3, 1) := by decide +kernel
theorem dL_endsIn_13 : decode cL_endsIn 13 = .ok (.iconst 1, 1) := by decide +kernel
theorem dL_endsIn_14 : decode cL_endsIn 14 = .ok (.ireturn, 1) := by decide +kernel
theorem dL_layerOf_0 : decode cL_layerOf 0 = .ok (.aload_n 2, 1) := by decide +kernel
theorem dL_layerOf_1 : decode cL_layerOf 1 = .ok (.iconst 0, 1) := by decide +kernel
theorem dL_layerOf_2 : decode cL_layerOf 2 = .ok (.aload_n 0, 1) := by decide +kernel
theorem dL_layerOf_3 : decode cL_layerOf 3 = .ok (.iload_n 1, 1) := by decide +kernel
theorem dL_layerOf_4 : decode cL_layerOf 4 = .ok (.invokevirtual 83, 3) := by decide +kernel
theorem dL_layerOf_12 : decode cL_layerOf 12 = .ok (.astore_n 3, 1) := by decide +kernel
theorem dL_layerOf_13 : decode cL_layerOf 13 = .ok (.iconst 1, 1) := by decide +kernel
theorem dL_layerOf_14 : decode cL_layerOf 14 = .ok (.ireturn, 1) := by decide +kernel
theorem dL_isTurned_0 : decode cL_isTurned 0 = .ok (.aload_n 2, 1) := by decide +kernel
theorem dL_isTurned_1 : decode cL_isTurned 1 = .ok (.iconst 0, 1) := by decide +kernel
theorem dL_isTurned_2 : decode cL_isTurned 2 = .ok (.aload_n 0, 1) := by decide +kernel
theorem dL_isTurned_3 : decode cL_isTurned 3 = .ok (.iload_n 1, 1) := by decide +kernel
theorem dL_isTurned_4 : decode cL_isTurned 4 = .ok (.invokevirtual 86, 3) := by decide +kernel
theorem dL_isTurned_19 : decode cL_isTurned 19 = .ok (.astore_n 3, 1) := by decide +kernel
theorem dL_isTurned_20 : decode cL_isTurned 20 = .ok (.iconst 1, 1) := by decide +kernel
theorem dL_isTurned_21 : decode cL_isTurned 21 = .ok (.ireturn, 1) := by decide +kernel
theorem dL_points_0 : decode cL_points 0 = .ok (.aload_n 2, 1) := by decide +kernel
theorem dL_points_1 : decode cL_points 1 = .ok (.iconst 0, 1) := by decide +kernel
theorem dL_points_2 : decode cL_points 2 = .ok (.aload_n 0, 1) := by decide +kernel
theorem dL_points_3 : decode cL_points 3 = .ok (.iload_n 1, 1) := by decide +kernel
theorem dL_points_4 : decode cL_points 4 = .ok (.invokevirtual 89, 3) := by decide +kernel
theorem dL_points_12 : decode cL_points 12 = .ok (.astore_n 3, 1) := by decide +kernel
theorem dL_points_13 : decode cL_points 13 = .ok (.iconst 1, 1) := by decide +kernel
theorem dL_points_14 : decode cL_points 14 = .ok (.ireturn, 1) := by decide +kernel
theorem dL_pointAt_0 : decode cL_pointAt 0 = .ok (.aload_n 3, 1) := by decide +kernel
theorem dL_pointAt_1 : decode cL_pointAt 1 = .ok (.iconst 0, 1) := by decide +kernel
theorem dL_pointAt_2 : decode cL_pointAt 2 = .ok (.aload_n 0, 1) := by decide +kernel
theorem dL_pointAt_3 : decode cL_pointAt 3 = .ok (.iload_n 1, 1) := by decide +kernel
theorem dL_pointAt_4 : decode cL_pointAt 4 = .ok (.iload_n 2, 1) := by decide +kernel
theorem dL_pointAt_5 : decode cL_pointAt 5 = .ok (.invokevirtual 92, 3) := by decide +kernel
theorem dL_pointAt_13 : decode cL_pointAt 13 = .ok (.astore 4, 2) := by decide +kernel
theorem dL_pointAt_15 : decode cL_pointAt 15 = .ok (.iconst 1, 1) := by decide +kernel
theorem dL_pointAt_16 : decode cL_pointAt 16 = .ok (.ireturn, 1) := by decide +kernel
theorem dL_placeOf_0 : decode cL_placeOf 0 = .ok (.aload_n 2, 1) := by decide +kernel
theorem dL_placeOf_1 : decode cL_placeOf 1 = .ok (.iconst 0, 1) := by decide +kernel
theorem dL_placeOf_2 : decode cL_placeOf 2 = .ok (.aload_n 0, 1) := by decide +kernel
theorem dL_placeOf_3 : decode cL_placeOf 3 = .ok (.iload_n 1, 1) := by decide +kernel
theorem dL_placeOf_4 : decode cL_placeOf 4 = .ok (.invokevirtual 95, 3) := by decide +kernel
theorem dL_placeOf_12 : decode cL_placeOf 12 = .ok (.astore_n 3, 1) := by decide +kernel
theorem dL_placeOf_13 : decode cL_placeOf 13 = .ok (.iconst 1, 1) := by decide +kernel
theorem dL_placeOf_14 : decode cL_placeOf 14 = .ok (.ireturn, 1) := by decide +kernel
theorem dL_bends_0 : decode cL_bends 0 = .ok (.aload_n 2, 1) := by decide +kernel
theorem dL_bends_1 : decode cL_bends 1 = .ok (.iconst 0, 1) := by decide +kernel
theorem dL_bends_2 : decode cL_bends 2 = .ok (.aload_n 0, 1) := by decide +kernel
theorem dL_bends_3 : decode cL_bends 3 = .ok (.iload_n 1, 1) := by decide +kernel
theorem dL_bends_4 : decode cL_bends 4 = .ok (.invokevirtual 98, 3) := by decide +kernel
theorem dL_bends_12 : decode cL_bends 12 = .ok (.astore_n 3, 1) := by decide +kernel
theorem dL_bends_13 : decode cL_bends 13 = .ok (.iconst 1, 1) := by decide +kernel
theorem dL_bends_14 : decode cL_bends 14 = .ok (.ireturn, 1) := by decide +kernel
theorem dL_bendAt_0 : decode cL_bendAt 0 = .ok (.aload_n 3, 1) := by decide +kernel
theorem dL_bendAt_1 : decode cL_bendAt 1 = .ok (.iconst 0, 1) := by decide +kernel
theorem dL_bendAt_2 : decode cL_bendAt 2 = .ok (.aload_n 0, 1) := by decide +kernel
theorem dL_bendAt_3 : decode cL_bendAt 3 = .ok (.iload_n 1, 1) := by decide +kernel
theorem dL_bendAt_4 : decode cL_bendAt 4 = .ok (.iload_n 2, 1) := by decide +kernel
theorem dL_bendAt_5 : decode cL_bendAt 5 = .ok (.invokevirtual 101, 3) := by decide +kernel
theorem dL_bendAt_13 : decode cL_bendAt 13 = .ok (.astore 4, 2) := by decide +kernel
theorem dL_bendAt_15 : decode cL_bendAt 15 = .ok (.iconst 1, 1) := by decide +kernel
theorem dL_bendAt_16 : decode cL_bendAt 16 = .ok (.ireturn, 1) := by decide +kernel
theorem dL_sweep_0 : decode cL_sweep 0 = .ok (.aload_n 2, 1) := by decide +kernel
theorem dL_sweep_1 : decode cL_sweep 1 = .ok (.iconst 0, 1) := by decide +kernel
theorem dL_sweep_2 : decode cL_sweep 2 = .ok (.aload_n 0, 1) := by decide +kernel
theorem dL_sweep_3 : decode cL_sweep 3 = .ok (.iload_n 1, 1) := by decide +kernel
theorem dL_sweep_4 : decode cL_sweep 4 = .ok (.invokevirtual 104, 3) := by decide +kernel
theorem dL_sweep_7 : decode cL_sweep 7 = .ok (.i2l, 1) := by decide +kernel
theorem dL_sweep_8 : decode cL_sweep 8 = .ok (.lastore, 1) := by decide +kernel
theorem dL_sweep_9 : decode cL_sweep 9 = .ok (.goto 6, 3) := by decide +kernel
theorem dL_sweep_12 : decode cL_sweep 12 = .ok (.astore_n 3, 1) := by decide +kernel
theorem dL_sweep_13 : decode cL_sweep 13 = .ok (.iconst 1, 1) := by decide +kernel
theorem dL_sweep_14 : decode cL_sweep 14 = .ok (.ireturn, 1) := by decide +kernel
theorem dL_sweep_15 : decode cL_sweep 15 = .ok (.iconst 0, 1) := by decide +kernel
theorem dL_sweep_16 : decode cL_sweep 16 = .ok (.ireturn, 1) := by decide +kernel
theorem dL_wouldCross_0 : decode cL_wouldCross 0 = .ok (.aload_n 2, 1) := by decide +kernel
theorem dL_wouldCross_1 : decode cL_wouldCross 1 = .ok (.iconst 0, 1) := by decide +kernel
theorem dL_wouldCross_2 : decode cL_wouldCross 2 = .ok (.aload_n 0, 1) := by decide +kernel
theorem dL_wouldCross_3 : decode cL_wouldCross 3 = .ok (.iload_n 1, 1) := by decide +kernel
theorem dL_wouldCross_4 : decode cL_wouldCross 4 = .ok (.invokevirtual 107, 3) := by decide +kernel
theorem dL_wouldCross_7 : decode cL_wouldCross 7 = .ok (.i2l, 1) := by decide +kernel
theorem dL_wouldCross_8 : decode cL_wouldCross 8 = .ok (.lastore, 1) := by decide +kernel
theorem dL_wouldCross_9 : decode cL_wouldCross 9 = .ok (.goto 6, 3) := by decide +kernel
theorem dL_wouldCross_12 : decode cL_wouldCross 12 = .ok (.astore_n 3, 1) := by decide +kernel
theorem dL_wouldCross_13 : decode cL_wouldCross 13 = .ok (.iconst 1, 1) := by decide +kernel
theorem dL_wouldCross_14 : decode cL_wouldCross 14 = .ok (.ireturn, 1) := by decide +kernel
theorem dL_wouldCross_15 : decode cL_wouldCross 15 = .ok (.iconst 0, 1) := by decide +kernel
theorem dL_wouldCross_16 : decode cL_wouldCross 16 = .ok (.ireturn, 1) := by decide +kernel
theorem mw_540 : Cond.methodLink RL 7 yX7_insert ∈ GW := gw_mem (inT3 _ (List.mem_of_getElem? (i := 229) rfl)) rfl
theorem mw_541 : Cond.code yX7_insert cX7_insert 4 (some Jvm.ClassFile.FieldType.int) ∈ GW := gw_mem (inT3 _ (List.mem_of_getElem? (i := 232) rfl)) rfl
theorem mw_542 : Cond.instanceMethod yX7_insert ∈ GW := gw_mem (inT3 _ (List.mem_of_getElem? (i := 230) rfl)) rfl
theorem mw_543 : Cond.selects RX7 yX7_insert yX7_insert ∈ GW := gw_mem (inT3 _ (List.mem_of_getElem? (i := 231) rfl)) rfl
theorem mw_544 : Cond.classLink RL 13 "java/lang/IllegalArgumentException" ∈ GW := gw_mem (inT3 _ (List.mem_of_getElem? (i := 227) rfl)) rfl
theorem mw_545 : Cond.methodLink RL 17 yX7_remove ∈ GW := gw_mem (inT4 _ (List.mem_of_getElem? (i := 108) rfl)) rfl
theorem mw_546 : Cond.code yX7_remove cX7_remove 2 (some Jvm.ClassFile.FieldType.int) ∈ GW := gw_mem (inT4 _ (List.mem_of_getElem? (i := 111) rfl)) rfl
theorem mw_547 : Cond.instanceMethod yX7_remove ∈ GW := gw_mem (inT4 _ (List.mem_of_getElem? (i := 109) rfl)) rfl
theorem mw_548 : Cond.selects RX7 yX7_remove yX7_remove ∈ GW := gw_mem (inT4 _ (List.mem_of_getElem? (i := 110) rfl)) rfl
theorem mw_549 : Cond.classLink RL 21 "java/lang/IndexOutOfBoundsException" ∈ GW := gw_mem (inT4 _ (List.mem_of_getElem? (i := 107) rfl)) rfl
theorem mw_550 : Cond.methodLink RL 23 yX7_setTarget ∈ GW := gw_mem (inT4 _ (List.mem_of_getElem? (i := 139) rfl)) rfl
theorem mw_551 : Cond.code yX7_setTarget cX7_setTarget 4 (some Jvm.ClassFile.FieldType.int) ∈ GW := gw_mem (inT4 _ (List.mem_of_getElem? (i := 142) rfl)) rfl
theorem mw_552 : Cond.instanceMethod yX7_setTarget ∈ GW := gw_mem (inT4 _ (List.mem_of_getElem? (i := 140) rfl)) rfl
theorem mw_553 : Cond.selects RX7 yX7_setTarget yX7_setTarget ∈ GW := gw_mem (inT4 _ (List.mem_of_getElem? (i := 141) rfl)) rfl
theorem mw_554 : Cond.methodLink RL 27 yX7_setUse ∈ GW := gw_mem (inT4 _ (List.mem_of_getElem? (i := 148) rfl)) rfl
theorem mw_555 : Cond.code yX7_setUse cX7_setUse 5 (some Jvm.ClassFile.FieldType.int) ∈ GW := gw_mem (inT4 _ (List.mem_of_getElem? (i := 151) rfl)) rfl
theorem mw_556 : Cond.instanceMethod yX7_setUse ∈ GW := gw_mem (inT4 _ (List.mem_of_getElem? (i := 149) rfl)) rfl
theorem mw_557 : Cond.selects RX7 yX7_setUse yX7_setUse ∈ GW := gw_mem (inT4 _ (List.mem_of_getElem? (i := 150) rfl)) rfl
theorem mw_558 : Cond.methodLink RL 30 yX7_kindOf ∈ GW := gw_mem (inT4 _ (List.mem_of_getElem? (i := 157) rfl)) rfl
theorem mw_559 : Cond.code yX7_kindOf cX7_kindOf 2 (some Jvm.ClassFile.FieldType.int) ∈ GW := gw_mem (inT4 _ (List.mem_of_getElem? (i := 160) rfl)) rfl
theorem mw_560 : Cond.instanceMethod yX7_kindOf ∈ GW := gw_mem (inT4 _ (List.mem_of_getElem? (i := 158) rfl)) rfl
theorem mw_561 : Cond.selects RX7 yX7_kindOf yX7_kindOf ∈ GW := gw_mem (inT4 _ (List.mem_of_getElem? (i := 159) rfl)) rfl
theorem mw_562 : Cond.methodLink RL 33 yX7_targetOf ∈ GW := gw_mem (inT4 _ (List.mem_of_getElem? (i := 164) rfl)) rfl
theorem mw_563 : Cond.code yX7_targetOf cX7_targetOf 2 (some Jvm.ClassFile.FieldType.int) ∈ GW := gw_mem (inT4 _ (List.mem_of_getElem? (i := 167) rfl)) rfl
theorem mw_564 : Cond.instanceMethod yX7_targetOf ∈ GW := gw_mem (inT4 _ (List.mem_of_getElem? (i := 165) rfl)) rfl
theorem mw_565 : Cond.selects RX7 yX7_targetOf yX7_targetOf ∈ GW := gw_mem (inT4 _ (List.mem_of_getElem? (i := 166) rfl)) rfl
theorem mw_566 : Cond.methodLink RL 36 yX7_blockOf ∈ GW := gw_mem (inT4 _ (List.mem_of_getElem? (i := 171) rfl)) rfl
theorem mw_567 : Cond.code yX7_blockOf cX7_blockOf 2 (some Jvm.ClassFile.FieldType.int) ∈ GW := gw_mem (inT4 _ (List.mem_of_getElem? (i := 174) rfl)) rfl
theorem mw_568 : Cond.instanceMethod yX7_blockOf ∈ GW := gw_mem (inT4 _ (List.mem_of_getElem? (i := 172) rfl)) rfl
theorem mw_569 : Cond.selects RX7 yX7_blockOf yX7_blockOf ∈ GW := gw_mem (inT4 _ (List.mem_of_getElem? (i := 173) rfl)) rfl
theorem mw_570 : Cond.methodLink RL 39 yX7_firstOf ∈ GW := gw_mem (inT4 _ (List.mem_of_getElem? (i := 178) rfl)) rfl
theorem mw_571 : Cond.code yX7_firstOf cX7_firstOf 2 (some Jvm.ClassFile.FieldType.int) ∈ GW := gw_mem (inT4 _ (List.mem_of_getElem? (i := 181) rfl)) rfl
theorem mw_572 : Cond.instanceMethod yX7_firstOf ∈ GW := gw_mem (inT4 _ (List.mem_of_getElem? (i := 179) rfl)) rfl
theorem mw_573 : Cond.selects RX7 yX7_firstOf yX7_firstOf ∈ GW := gw_mem (inT4 _ (List.mem_of_getElem? (i := 180) rfl)) rfl
theorem mw_574 : Cond.methodLink RL 42 yX7_isReached ∈ GW := gw_mem (inT4 _ (List.mem_of_getElem? (i := 190) rfl)) rfl
theorem mw_575 : Cond.code yX7_isReached cX7_isReached 2 (some Jvm.ClassFile.FieldType.boolean) ∈ GW := gw_mem (inT4 _ (List.mem_of_getElem? (i := 193) rfl)) rfl
theorem mw_576 : Cond.instanceMethod yX7_isReached ∈ GW := gw_mem (inT4 _ (List.mem_of_getElem? (i := 191) rfl)) rfl
theorem mw_577 : Cond.selects RX7 yX7_isReached yX7_isReached ∈ GW := gw_mem (inT4 _ (List.mem_of_getElem? (i := 192) rfl)) rfl
theorem mw_578 : Cond.methodLink RL 46 yX7_edgeFrom ∈ GW := gw_mem (inT4 _ (List.mem_of_getElem? (i := 197) rfl)) rfl
theorem mw_579 : Cond.code yX7_edgeFrom cX7_edgeFrom 2 (some Jvm.ClassFile.FieldType.int) ∈ GW := gw_mem (inT4 _ (List.mem_of_getElem? (i := 200) rfl)) rfl
theorem mw_580 : Cond.instanceMethod yX7_edgeFrom ∈ GW := gw_mem (inT4 _ (List.mem_of_getElem? (i := 198) rfl)) rfl
theorem mw_581 : Cond.selects RX7 yX7_edgeFrom yX7_edgeFrom ∈ GW := gw_mem (inT4 _ (List.mem_of_getElem? (i := 199) rfl)) rfl
theorem mw_582 : Cond.methodLink RL 49 yX7_edgeTo ∈ GW := gw_mem (inT4 _ (List.mem_of_getElem? (i := 209) rfl)) rfl
theorem mw_583 : Cond.code yX7_edgeTo cX7_edgeTo 2 (some Jvm.ClassFile.FieldType.int) ∈ GW := gw_mem (inT4 _ (List.mem_of_getElem? (i := 212) rfl)) rfl
theorem mw_584 : Cond.instanceMethod yX7_edgeTo ∈ GW := gw_mem (inT4 _ (List.mem_of_getElem? (i := 210) rfl)) rfl
theorem mw_585 : Cond.selects RX7 yX7_edgeTo yX7_edgeTo ∈ GW := gw_mem (inT4 _ (List.mem_of_getElem? (i := 211) rfl)) rfl
theorem mw_586 : Cond.methodLink RL 52 yX7_dominates ∈ GW := gw_mem (inT4 _ (List.mem_of_getElem? (i := 216) rfl)) rfl
theorem mw_587 : Cond.code yX7_dominates cX7_dominates 3 (some Jvm.ClassFile.FieldType.boolean) ∈ GW := gw_mem (inT4 _ (List.mem_of_getElem? (i := 219) rfl)) rfl
theorem mw_588 : Cond.instanceMethod yX7_dominates ∈ GW := gw_mem (inT4 _ (List.mem_of_getElem? (i := 217) rfl)) rfl
theorem mw_589 : Cond.selects RX7 yX7_dominates yX7_dominates ∈ GW := gw_mem (inT4 _ (List.mem_of_getElem? (i := 218) rfl)) rfl
theorem mw_590 : Cond.methodLink RL 56 yX7_parentOf ∈ GW := gw_mem (inT4 _ (List.mem_of_getElem? (i := 224) rfl)) rfl
theorem mw_591 : Cond.code yX7_parentOf cX7_parentOf 2 (some Jvm.ClassFile.FieldType.int) ∈ GW := gw_mem (inT4 _ (List.mem_of_getElem? (i := 227) rfl)) rfl
theorem mw_592 : Cond.instanceMethod yX7_parentOf ∈ GW := gw_mem (inT4 _ (List.mem_of_getElem? (i := 225) rfl)) rfl
theorem mw_593 : Cond.selects RX7 yX7_parentOf yX7_parentOf ∈ GW := gw_mem (inT4 _ (List.mem_of_getElem? (i := 226) rfl)) rfl
theorem mw_594 : Cond.methodLink RL 59 yX7_comesBehind ∈ GW := gw_mem (inT4 _ (List.mem_of_getElem? (i := 231) rfl)) rfl
theorem mw_595 : Cond.code yX7_comesBehind cX7_comesBehind 3 (some Jvm.ClassFile.FieldType.boolean) ∈ GW := gw_mem (inT4 _ (List.mem_of_getElem? (i := 234) rfl)) rfl
theorem mw_596 : Cond.instanceMethod yX7_comesBehind ∈ GW := gw_mem (inT4 _ (List.mem_of_getElem? (i := 232) rfl)) rfl
theorem mw_597 : Cond.selects RX7 yX7_comesBehind yX7_comesBehind ∈ GW := gw_mem (inT4 _ (List.mem_of_getElem? (i := 233) rfl)) rfl
theorem mw_598 : Cond.methodLink RL 62 yX7_isBack ∈ GW := gw_mem (inT5 _ (List.mem_of_getElem? (i := 2) rfl)) rfl
theorem mw_599 : Cond.code yX7_isBack cX7_isBack 2 (some Jvm.ClassFile.FieldType.boolean) ∈ GW := gw_mem (inT5 _ (List.mem_of_getElem? (i := 5) rfl)) rfl
theorem mw_600 : Cond.instanceMethod yX7_isBack ∈ GW := gw_mem (inT5 _ (List.mem_of_getElem? (i := 3) rfl)) rfl
theorem mw_601 : Cond.selects RX7 yX7_isBack yX7_isBack ∈ GW := gw_mem (inT5 _ (List.mem_of_getElem? (i := 4) rfl)) rfl
theorem mw_602 : Cond.methodLink RL 65 yX7_loopSize ∈ GW := gw_mem (inT5 _ (List.mem_of_getElem? (i := 9) rfl)) rfl
theorem mw_603 : Cond.code yX7_loopSize cX7_loopSize 2 (some Jvm.ClassFile.FieldType.int) ∈ GW := gw_mem (inT5 _ (List.mem_of_getElem? (i := 12) rfl)) rfl
theorem mw_604 : Cond.instanceMethod yX7_loopSize ∈ GW := gw_mem (inT5 _ (List.mem_of_getElem? (i := 10) rfl)) rfl
theorem mw_605 : Cond.selects RX7 yX7_loopSize yX7_loopSize ∈ GW := gw_mem (inT5 _ (List.mem_of_getElem? (i := 11) rfl)) rfl
theorem mw_606 : Cond.methodLink RL 68 yX7_depthOf ∈ GW := gw_mem (inT5 _ (List.mem_of_getElem? (i := 16) rfl)) rfl
theorem mw_607 : Cond.code yX7_depthOf cX7_depthOf 2 (some Jvm.ClassFile.FieldType.int) ∈ GW := gw_mem (inT5 _ (List.mem_of_getElem? (i := 19) rfl)) rfl
theorem mw_608 : Cond.instanceMethod yX7_depthOf ∈ GW := gw_mem (inT5 _ (List.mem_of_getElem? (i := 17) rfl)) rfl
theorem mw_609 : Cond.selects RX7 yX7_depthOf yX7_depthOf ∈ GW := gw_mem (inT5 _ (List.mem_of_getElem? (i := 18) rfl)) rfl
theorem mw_610 : Cond.methodLink RL 71 yX7_liveIn ∈ GW := gw_mem (inT5 _ (List.mem_of_getElem? (i := 23) rfl)) rfl
theorem mw_611 : Cond.code yX7_liveIn cX7_liveIn 2 (some Jvm.ClassFile.FieldType.int) ∈ GW := gw_mem (inT5 _ (List.mem_of_getElem? (i := 26) rfl)) rfl
theorem mw_612 : Cond.instanceMethod yX7_liveIn ∈ GW := gw_mem (inT5 _ (List.mem_of_getElem? (i := 24) rfl)) rfl
theorem mw_613 : Cond.selects RX7 yX7_liveIn yX7_liveIn ∈ GW := gw_mem (inT5 _ (List.mem_of_getElem? (i := 25) rfl)) rfl
theorem mw_614 : Cond.methodLink RL 74 yX7_ruleOf ∈ GW := gw_mem (inT5 _ (List.mem_of_getElem? (i := 30) rfl)) rfl
theorem mw_615 : Cond.code yX7_ruleOf cX7_ruleOf 2 (some Jvm.ClassFile.FieldType.int) ∈ GW := gw_mem (inT5 _ (List.mem_of_getElem? (i := 33) rfl)) rfl
theorem mw_616 : Cond.instanceMethod yX7_ruleOf ∈ GW := gw_mem (inT5 _ (List.mem_of_getElem? (i := 31) rfl)) rfl
theorem mw_617 : Cond.selects RX7 yX7_ruleOf yX7_ruleOf ∈ GW := gw_mem (inT5 _ (List.mem_of_getElem? (i := 32) rfl)) rfl
theorem mw_618 : Cond.methodLink RL 77 yX7_nodeOf ∈ GW := gw_mem (inT5 _ (List.mem_of_getElem? (i := 42) rfl)) rfl
theorem mw_619 : Cond.code yX7_nodeOf cX7_nodeOf 2 (some Jvm.ClassFile.FieldType.int) ∈ GW := gw_mem (inT5 _ (List.mem_of_getElem? (i := 45) rfl)) rfl
theorem mw_620 : Cond.instanceMethod yX7_nodeOf ∈ GW := gw_mem (inT5 _ (List.mem_of_getElem? (i := 43) rfl)) rfl
theorem mw_621 : Cond.selects RX7 yX7_nodeOf yX7_nodeOf ∈ GW := gw_mem (inT5 _ (List.mem_of_getElem? (i := 44) rfl)) rfl
theorem mw_622 : Cond.methodLink RL 80 yX7_endsIn ∈ GW := gw_mem (inT5 _ (List.mem_of_getElem? (i := 49) rfl)) rfl
theorem mw_623 : Cond.code yX7_endsIn cX7_endsIn 2 (some Jvm.ClassFile.FieldType.int) ∈ GW := gw_mem (inT5 _ (List.mem_of_getElem? (i := 52) rfl)) rfl
theorem mw_624 : Cond.instanceMethod yX7_endsIn ∈ GW := gw_mem (inT5 _ (List.mem_of_getElem? (i := 50) rfl)) rfl
theorem mw_625 : Cond.selects RX7 yX7_endsIn yX7_endsIn ∈ GW := gw_mem (inT5 _ (List.mem_of_getElem? (i := 51) rfl)) rfl
theorem mw_626 : Cond.methodLink RL 83 yX7_layerOf ∈ GW := gw_mem (inT5 _ (List.mem_of_getElem? (i := 56) rfl)) rfl
theorem mw_627 : Cond.code yX7_layerOf cX7_layerOf 2 (some Jvm.ClassFile.FieldType.int) ∈ GW := gw_mem (inT5 _ (List.mem_of_getElem? (i := 59) rfl)) rfl
theorem mw_628 : Cond.instanceMethod yX7_layerOf ∈ GW := gw_mem (inT5 _ (List.mem_of_getElem? (i := 57) rfl)) rfl
theorem mw_629 : Cond.selects RX7 yX7_layerOf yX7_layerOf ∈ GW := gw_mem (inT5 _ (List.mem_of_getElem? (i := 58) rfl)) rfl
theorem mw_630 : Cond.methodLink RL 86 yX7_isTurned ∈ GW := gw_mem (inT5 _ (List.mem_of_getElem? (i := 63) rfl)) rfl
theorem mw_631 : Cond.code yX7_isTurned cX7_isTurned 2 (some Jvm.ClassFile.FieldType.boolean) ∈ GW := gw_mem (inT5 _ (List.mem_of_getElem? (i := 66) rfl)) rfl
theorem mw_632 : Cond.instanceMethod yX7_isTurned ∈ GW := gw_mem (inT5 _ (List.mem_of_getElem? (i := 64) rfl)) rfl
theorem mw_633 : Cond.selects RX7 yX7_isTurned yX7_isTurned ∈ GW := gw_mem (inT5 _ (List.mem_of_getElem? (i := 65) rfl)) rfl
theorem mw_634 : Cond.methodLink RL 89 yX7_points ∈ GW := gw_mem (inT5 _ (List.mem_of_getElem? (i := 70) rfl)) rfl
theorem mw_635 : Cond.code yX7_points cX7_points 2 (some Jvm.ClassFile.FieldType.int) ∈ GW := gw_mem (inT5 _ (List.mem_of_getElem? (i := 73) rfl)) rfl
theorem mw_636 : Cond.instanceMethod yX7_points ∈ GW := gw_mem (inT5 _ (List.mem_of_getElem? (i := 71) rfl)) rfl
theorem mw_637 : Cond.selects RX7 yX7_points yX7_points ∈ GW := gw_mem (inT5 _ (List.mem_of_getElem? (i := 72) rfl)) rfl
theorem mw_638 : Cond.methodLink RL 92 yX7_pointAt ∈ GW := gw_mem (inT5 _ (List.mem_of_getElem? (i := 82) rfl)) rfl
theorem mw_639 : Cond.code yX7_pointAt cX7_pointAt 3 (some Jvm.ClassFile.FieldType.int) ∈ GW := gw_mem (inT5 _ (List.mem_of_getElem? (i := 85) rfl)) rfl
theorem mw_640 : Cond.instanceMethod yX7_pointAt ∈ GW := gw_mem (inT5 _ (List.mem_of_getElem? (i := 83) rfl)) rfl
theorem mw_641 : Cond.selects RX7 yX7_pointAt yX7_pointAt ∈ GW := gw_mem (inT5 _ (List.mem_of_getElem? (i := 84) rfl)) rfl
theorem mw_642 : Cond.methodLink RL 95 yX7_placeOf ∈ GW := gw_mem (inT5 _ (List.mem_of_getElem? (i := 89) rfl)) rfl
theorem mw_643 : Cond.code yX7_placeOf cX7_placeOf 2 (some Jvm.ClassFile.FieldType.int) ∈ GW := gw_mem (inT5 _ (List.mem_of_getElem? (i := 92) rfl)) rfl
theorem mw_644 : Cond.instanceMethod yX7_placeOf ∈ GW := gw_mem (inT5 _ (List.mem_of_getElem? (i := 90) rfl)) rfl
theorem mw_645 : Cond.selects RX7 yX7_placeOf yX7_placeOf ∈ GW := gw_mem (inT5 _ (List.mem_of_getElem? (i := 91) rfl)) rfl
theorem mw_646 : Cond.methodLink RL 98 yX7_bends ∈ GW := gw_mem (inT5 _ (List.mem_of_getElem? (i := 96) rfl)) rfl
theorem mw_647 : Cond.code yX7_bends cX7_bends 2 (some Jvm.ClassFile.FieldType.int) ∈ GW := gw_mem (inT5 _ (List.mem_of_getElem? (i := 99) rfl)) rfl
theorem mw_648 : Cond.instanceMethod yX7_bends ∈ GW := gw_mem (inT5 _ (List.mem_of_getElem? (i := 97) rfl)) rfl
theorem mw_649 : Cond.selects RX7 yX7_bends yX7_bends ∈ GW := gw_mem (inT5 _ (List.mem_of_getElem? (i := 98) rfl)) rfl
theorem mw_650 : Cond.methodLink RL 101 yX7_bendAt ∈ GW := gw_mem (inT5 _ (List.mem_of_getElem? (i := 103) rfl)) rfl
theorem mw_651 : Cond.code yX7_bendAt cX7_bendAt 3 (some Jvm.ClassFile.FieldType.int) ∈ GW := gw_mem (inT5 _ (List.mem_of_getElem? (i := 106) rfl)) rfl
theorem mw_652 : Cond.instanceMethod yX7_bendAt ∈ GW := gw_mem (inT5 _ (List.mem_of_getElem? (i := 104) rfl)) rfl
theorem mw_653 : Cond.selects RX7 yX7_bendAt yX7_bendAt ∈ GW := gw_mem (inT5 _ (List.mem_of_getElem? (i := 105) rfl)) rfl
theorem mw_654 : Cond.methodLink RL 104 yX7_sweep ∈ GW := gw_mem (inT5 _ (List.mem_of_getElem? (i := 115) rfl)) rfl
theorem mw_655 : Cond.code yX7_sweep cX7_sweep 2 (some Jvm.ClassFile.FieldType.int) ∈ GW := gw_mem (inT5 _ (List.mem_of_getElem? (i := 118) rfl)) rfl
theorem mw_656 : Cond.instanceMethod yX7_sweep ∈ GW := gw_mem (inT5 _ (List.mem_of_getElem? (i := 116) rfl)) rfl
theorem mw_657 : Cond.selects RX7 yX7_sweep yX7_sweep ∈ GW := gw_mem (inT5 _ (List.mem_of_getElem? (i := 117) rfl)) rfl
theorem mw_658 : Cond.methodLink RL 107 yX7_wouldCross ∈ GW := gw_mem (inT5 _ (List.mem_of_getElem? (i := 144) rfl)) rfl
theorem mw_659 : Cond.code yX7_wouldCross cX7_wouldCross 2 (some Jvm.ClassFile.FieldType.int) ∈ GW := gw_mem (inT5 _ (List.mem_of_getElem? (i := 147) rfl)) rfl
theorem mw_660 : Cond.instanceMethod yX7_wouldCross ∈ GW := gw_mem (inT5 _ (List.mem_of_getElem? (i := 145) rfl)) rfl
theorem mw_661 : Cond.selects RX7 yX7_wouldCross yX7_wouldCross ∈ GW := gw_mem (inT5 _ (List.mem_of_getElem? (i := 146) rfl)) rfl
theorem pdv_X7_insert : yX7_insert.cls = RX7 ∧ yX7_insert.cls ≠ "java/lang/invoke/MethodHandle" ∧ yX7_insert.cls ≠ "java/lang/invoke/VarHandle" ∧ (parseMethodDescriptor yX7_insert.desc).map (fun d => d.parameters.length) = some 3 := by decide +kernel
theorem pdv_X7_remove : yX7_remove.cls = RX7 ∧ yX7_remove.cls ≠ "java/lang/invoke/MethodHandle" ∧ yX7_remove.cls ≠ "java/lang/invoke/VarHandle" ∧ (parseMethodDescriptor yX7_remove.desc).map (fun d => d.parameters.length) = some 1 := by decide +kernel
theorem pdv_X7_setTarget : yX7_setTarget.cls = RX7 ∧ yX7_setTarget.cls ≠ "java/lang/invoke/MethodHandle" ∧ yX7_setTarget.cls ≠ "java/lang/invoke/VarHandle" ∧ (parseMethodDescriptor yX7_setTarget.desc).map (fun d => d.parameters.length) = some 2 := by decide +kernel
theorem pdv_X7_setUse : yX7_setUse.cls = RX7 ∧ yX7_setUse.cls ≠ "java/lang/invoke/MethodHandle" ∧ yX7_setUse.cls ≠ "java/lang/invoke/VarHandle" ∧ (parseMethodDescriptor yX7_setUse.desc).map (fun d => d.parameters.length) = some 3 := by decide +kernel
theorem pdv_X7_kindOf : yX7_kindOf.cls = RX7 ∧ yX7_kindOf.cls ≠ "java/lang/invoke/MethodHandle" ∧ yX7_kindOf.cls ≠ "java/lang/invoke/VarHandle" ∧ (parseMethodDescriptor yX7_kindOf.desc).map (fun d => d.parameters.length) = some 1 := by decide +kernel
theorem pdv_X7_targetOf : yX7_targetOf.cls = RX7 ∧ yX7_targetOf.cls ≠ "java/lang/invoke/MethodHandle" ∧ yX7_targetOf.cls ≠ "java/lang/invoke/VarHandle" ∧ (parseMethodDescriptor yX7_targetOf.desc).map (fun d => d.parameters.length) = some 1 := by decide +kernel
theorem pdv_X7_blockOf : yX7_blockOf.cls = RX7 ∧ yX7_blockOf.cls ≠ "java/lang/invoke/MethodHandle" ∧ yX7_blockOf.cls ≠ "java/lang/invoke/VarHandle" ∧ (parseMethodDescriptor yX7_blockOf.desc).map (fun d => d.parameters.length) = some 1 := by decide +kernel
theorem pdv_X7_firstOf : yX7_firstOf.cls = RX7 ∧ yX7_firstOf.cls ≠ "java/lang/invoke/MethodHandle" ∧ yX7_firstOf.cls ≠ "java/lang/invoke/VarHandle" ∧ (parseMethodDescriptor yX7_firstOf.desc).map (fun d => d.parameters.length) = some 1 := by decide +kernel
theorem pdv_X7_isReached : yX7_isReached.cls = RX7 ∧ yX7_isReached.cls ≠ "java/lang/invoke/MethodHandle" ∧ yX7_isReached.cls ≠ "java/lang/invoke/VarHandle" ∧ (parseMethodDescriptor yX7_isReached.desc).map (fun d => d.parameters.length) = some 1 := by decide +kernel
theorem pdv_X7_edgeFrom : yX7_edgeFrom.cls = RX7 ∧ yX7_edgeFrom.cls ≠ "java/lang/invoke/MethodHandle" ∧ yX7_edgeFrom.cls ≠ "java/lang/invoke/VarHandle" ∧ (parseMethodDescriptor yX7_edgeFrom.desc).map (fun d => d.parameters.length) = some 1 := by decide +kernel
theorem pdv_X7_edgeTo : yX7_edgeTo.cls = RX7 ∧ yX7_edgeTo.cls ≠ "java/lang/invoke/MethodHandle" ∧ yX7_edgeTo.cls ≠ "java/lang/invoke/VarHandle" ∧ (parseMethodDescriptor yX7_edgeTo.desc).map (fun d => d.parameters.length) = some 1 := by decide +kernel
theorem pdv_X7_dominates : yX7_dominates.cls = RX7 ∧ yX7_dominates.cls ≠ "java/lang/invoke/MethodHandle" ∧ yX7_dominates.cls ≠ "java/lang/invoke/VarHandle" ∧ (parseMethodDescriptor yX7_dominates.desc).map (fun d => d.parameters.length) = some 2 := by decide +kernel
theorem pdv_X7_parentOf : yX7_parentOf.cls = RX7 ∧ yX7_parentOf.cls ≠ "java/lang/invoke/MethodHandle" ∧ yX7_parentOf.cls ≠ "java/lang/invoke/VarHandle" ∧ (parseMethodDescriptor yX7_parentOf.desc).map (fun d => d.parameters.length) = some 1 := by decide +kernel
theorem pdv_X7_comesBehind : yX7_comesBehind.cls = RX7 ∧ yX7_comesBehind.cls ≠ "java/lang/invoke/MethodHandle" ∧ yX7_comesBehind.cls ≠ "java/lang/invoke/VarHandle" ∧ (parseMethodDescriptor yX7_comesBehind.desc).map (fun d => d.parameters.length) = some 2 := by decide +kernel
theorem pdv_X7_isBack : yX7_isBack.cls = RX7 ∧ yX7_isBack.cls ≠ "java/lang/invoke/MethodHandle" ∧ yX7_isBack.cls ≠ "java/lang/invoke/VarHandle" ∧ (parseMethodDescriptor yX7_isBack.desc).map (fun d => d.parameters.length) = some 1 := by decide +kernel
theorem pdv_X7_loopSize : yX7_loopSize.cls = RX7 ∧ yX7_loopSize.cls ≠ "java/lang/invoke/MethodHandle" ∧ yX7_loopSize.cls ≠ "java/lang/invoke/VarHandle" ∧ (parseMethodDescriptor yX7_loopSize.desc).map (fun d => d.parameters.length) = some 1 := by decide +kernel
theorem pdv_X7_depthOf : yX7_depthOf.cls = RX7 ∧ yX7_depthOf.cls ≠ "java/lang/invoke/MethodHandle" ∧ yX7_depthOf.cls ≠ "java/lang/invoke/VarHandle" ∧ (parseMethodDescriptor yX7_depthOf.desc).map (fun d => d.parameters.length) = some 1 := by decide +kernel
theorem pdv_X7_liveIn : yX7_liveIn.cls = RX7 ∧ yX7_liveIn.cls ≠ "java/lang/invoke/MethodHandle" ∧ yX7_liveIn.cls ≠ "java/lang/invoke/VarHandle" ∧ (parseMethodDescriptor yX7_liveIn.desc).map (fun d => d.parameters.length) = some 1 := by decide +kernel
theorem pdv_X7_ruleOf : yX7_ruleOf.cls = RX7 ∧ yX7_ruleOf.cls ≠ "java/lang/invoke/MethodHandle" ∧ yX7_ruleOf.cls ≠ "java/lang/invoke/VarHandle" ∧ (parseMethodDescriptor yX7_ruleOf.desc).map (fun d => d.parameters.length) = some 1 := by decide +kernel
theorem pdv_X7_nodeOf : yX7_nodeOf.cls = RX7 ∧ yX7_nodeOf.cls ≠ "java/lang/invoke/MethodHandle" ∧ yX7_nodeOf.cls ≠ "java/lang/invoke/VarHandle" ∧ (parseMethodDescriptor yX7_nodeOf.desc).map (fun d => d.parameters.length) = some 1 := by decide +kernel
theorem pdv_X7_endsIn : yX7_endsIn.cls = RX7 ∧ yX7_endsIn.cls ≠ "java/lang/invoke/MethodHandle" ∧ yX7_endsIn.cls ≠ "java/lang/invoke/VarHandle" ∧ (parseMethodDescriptor yX7_endsIn.desc).map (fun d => d.parameters.length) = some 1 := by decide +kernel
theorem pdv_X7_layerOf : yX7_layerOf.cls = RX7 ∧ yX7_layerOf.cls ≠ "java/lang/invoke/MethodHandle" ∧ yX7_layerOf.cls ≠ "java/lang/invoke/VarHandle" ∧ (parseMethodDescriptor yX7_layerOf.desc).map (fun d => d.parameters.length) = some 1 := by decide +kernel
theorem pdv_X7_isTurned : yX7_isTurned.cls = RX7 ∧ yX7_isTurned.cls ≠ "java/lang/invoke/MethodHandle" ∧ yX7_isTurned.cls ≠ "java/lang/invoke/VarHandle" ∧ (parseMethodDescriptor yX7_isTurned.desc).map (fun d => d.parameters.length) = some 1 := by decide +kernel
theorem pdv_X7_points : yX7_points.cls = RX7 ∧ yX7_points.cls ≠ "java/lang/invoke/MethodHandle" ∧ yX7_points.cls ≠ "java/lang/invoke/VarHandle" ∧ (parseMethodDescriptor yX7_points.desc).map (fun d => d.parameters.length) = some 1 := by decide +kernel
theorem pdv_X7_pointAt : yX7_pointAt.cls = RX7 ∧ yX7_pointAt.cls ≠ "java/lang/invoke/MethodHandle" ∧ yX7_pointAt.cls ≠ "java/lang/invoke/VarHandle" ∧ (parseMethodDescriptor yX7_pointAt.desc).map (fun d => d.parameters.length) = some 2 := by decide +kernel
theorem pdv_X7_placeOf : yX7_placeOf.cls = RX7 ∧ yX7_placeOf.cls ≠ "java/lang/invoke/MethodHandle" ∧ yX7_placeOf.cls ≠ "java/lang/invoke/VarHandle" ∧ (parseMethodDescriptor yX7_placeOf.desc).map (fun d => d.parameters.length) = some 1 := by decide +kernel
theorem pdv_X7_bends : yX7_bends.cls = RX7 ∧ yX7_bends.cls ≠ "java/lang/invoke/MethodHandle" ∧ yX7_bends.cls ≠ "java/lang/invoke/VarHandle" ∧ (parseMethodDescriptor yX7_bends.desc).map (fun d => d.parameters.length) = some 1 := by decide +kernel
theorem pdv_X7_bendAt : yX7_bendAt.cls = RX7 ∧ yX7_bendAt.cls ≠ "java/lang/invoke/MethodHandle" ∧ yX7_bendAt.cls ≠ "java/lang/invoke/VarHandle" ∧ (parseMethodDescriptor yX7_bendAt.desc).map (fun d => d.parameters.length) = some 2 := by decide +kernel
theorem pdv_X7_sweep : yX7_sweep.cls = RX7 ∧ yX7_sweep.cls ≠ "java/lang/invoke/MethodHandle" ∧ yX7_sweep.cls ≠ "java/lang/invoke/VarHandle" ∧ (parseMethodDescriptor yX7_sweep.desc).map (fun d => d.parameters.length) = some 1 := by decide +kernel
theorem pdv_X7_wouldCross : yX7_wouldCross.cls = RX7 ∧ yX7_wouldCross.cls ≠ "java/lang/invoke/MethodHandle" ∧ yX7_wouldCross.cls ≠ "java/lang/invoke/VarHandle" ∧ (parseMethodDescriptor yX7_wouldCross.desc).map (fun d => d.parameters.length) = some 1 := by decide +kernel
theorem appLP {D : va_G} {cl : List vw_C} {w1 w2 : va_W} {H : Heap} (h : va_P D cl (w1 ++ w2) H) : va_P D cl w1 H := fun k q hk => h k q (by rw [List.getElem?_append_left (List.getElem?_eq_some_iff.mp hk).1]; exact hk)
theorem app_ix {w1 w2 : va_W} {k : Nat} {q : Nat × va_E} (hk : w2[k]? = some q) : (w1 ++ w2)[w1.length + k]? = some q := by
  rw [List.getElem?_append_right (by omega), show w1.length + k - w1.length = k by omega]
  exact hk
theorem appRP {D : va_G} {cl : List vw_C} {w1 w2 : va_W} {H : Heap} (h : va_P D cl (w1 ++ w2) H) : va_P D cl w2 H := fun k q hk => h (w1.length + k) q (app_ix hk)
theorem appLD {A : Nat → Prop} {w1 w2 : va_W} (h : va_D A (w1 ++ w2)) : va_D A w1 := by
  have key : ∀ (k : Nat) (q : Nat × va_E), w1[k]? = some q → (w1 ++ w2)[k]? = some q := fun k q hk => by rw [List.getElem?_append_left (List.getElem?_eq_some_iff.mp hk).1]; exact hk
  exact ⟨fun i j p q hi hj hpq => h.1 i j p q (key i p hi) (key j q hj) hpq, fun k q hk => h.2 k q (key k q hk)⟩
theorem appRD {A : Nat → Prop} {w1 w2 : va_W} (h : va_D A (w1 ++ w2)) : va_D A w2 := by
  refine ⟨fun i j p q hi hj hpq => ?_, fun k q hk => h.2 (w1.length + k) q (app_ix hk)⟩
  have := h.1 (w1.length + i) (w1.length + j) p q (app_ix hi) (app_ix hj) hpq
  omega
theorem app_rest {A : Nat → Prop} {D : va_G} {cl : List vw_C} {w1 w2 : va_W} {H H1 : Heap} (hP : va_P D cl (w1 ++ w2) H) (hD : va_D A (w1 ++ w2)) (hk : ∀ q : Nat, q < H.size → ¬ va_A w1 H.size q → H1[q]? = H[q]?) : va_P D cl w2 H1 := by
  intro k q hq
  have h1 := hP _ q (app_ix (w1 := w1) hq)
  refine h1.kept (hk q.1 h1.lt (fun z => ?_))
  rcases z with ⟨k2, e, h⟩ | h
  · have hl := (List.getElem?_eq_some_iff.mp h).1
    have := hD.1 k2 (w1.length + k) (q.1, e) q (by rw [List.getElem?_append_left hl]; exact h) (app_ix hq) rfl
    omega
  · have := h1.lt
    omega
abbrev CW (l : Launch) (D : va_G) (tys : List (ClassId × FieldType)) (y : MethodName) (ck : Cond) (d mc ms : Nat) (w : va_W) (As : List Value) (Qc : (Nat → Prop) → Array Value → State → Outcome → State → Prop) : Prop :=
  ∀ sz : Nat, Met l y (ck :: GW) (rmf d mc ms) (va_Pc As (PBX D tys w sz)) (Qc (va_A w sz)) mc ms (va_A w sz)
/-- a method with a table, that always returns -/
theorem entW {l : Launch} {D : va_G} {tys : List (ClassId × FieldType)} {y : MethodName} {cc : ByteArray} {maxL : Nat} {ret : Option FieldType} {hh : List (Nat × Nat × Nat × Nat)} {d mc ms : Nat} {w : va_W} {As : List Value} {Qc : (Nat → Prop) → Array Value → State → Outcome → State → Prop} (hy : plainName y.cls = true) (hlen : (lg_sl As).length ≤ maxL)
    (body : ∀ (p : Program) (e : Env) (s : State) (m : MethodId) (below : List Frame) (meth : Method) (c : Code) (ls : Array Slot) (A : Nat → Prop), p.tables.exec = Jvm.exec → c.code = cc → meth.sig.returnType = ret → (∀ w ∈ GW, w.before As.toArray s = true) → s.vm.findClass y.cls = some m.cls → c.maxLocals = maxL → meth.locks = false → meth.name = y.name →
      va_P D vwCl w s.heap → va_K D vwCl tys s → va_D A w → va_S A s.heap s.heap [] → (∀ q, s.heap.size ≤ q → A q) → NW s → lv_has ls maxL (lv_args 0 As) → c.exceptionTable.toList = tableOf hh → ST A s → SR s → A = va_A w s.heap.size →
      W p l e (rmf d mc ms) s m As.toArray below meth c s.heap [] 0 0 (MQ below (Qc A) As.toArray s mc ms A) (F0 m 0 ls [])) : CW l D tys y (.codeWith y cc maxL ret hh) d mc ms w As Qc := by
  intro sz
  refine va_MetW (cc := cc) (maxL := maxL) (ret := ret) (hh := hh) hy rfl ?_
  intro p e s m args below meth c s₁ B hml hv
  obtain ⟨rfl, ⟨hsz, hP, hK, hD0, hN⟩, hST, hSR⟩ := hv
  have hts := atoms_spec (ws := (.codeWith y cc maxL ret hh) :: GW) B.pre
  subst hsz
  have hD := hD0.self (sz := s.heap.size)
  have hl := lv_entry As (n := maxL) hlen
  rw [lg_entry_eq]
  exact body p e s m below meth c _ (va_A w s.heap.size) B.exec B.bytes B.returns (fun w hw => hts w (List.mem_cons_of_mem _ hw)) (findClass_of_methodNamed B.named) hml B.notSynchronized (name_of_methodNamed B.named B.method).1 hP hK hD va_S.rf (fun q h => Or.inr h) hN hl (vx_table (x := y) B (hts _ List.mem_cons_self)) hST hSR rfl
section XL
variable {p : Program} {l : Launch} {e : Env} {R : Room} {s : State} {m : MethodId} {args : Array Value} {below : List Frame} {meth : Method} {c : Code} {H : Heap} {locs : List Loc} {cells slots : Nat} {Q : State → Prop}
variable {cc bytes : ByteArray} {pc : Nat} {ls : Array Slot} {st0 rest : List Value} {D : va_G} {tys : List (ClassId × FieldType)} {A : Nat → Prop} {w wr : va_W}
variable {PX : Prop} {y : MethodName} {maxL nL mc ms n index d q0 ci N b : Nat} {ret : Option FieldType} {own C E : String} {T : u_T} {As fs : List Value} {Qc : (Nat → Prop) → Array Value → State → Outcome → State → Prop} {hh : List (Nat × Nat × Nat × Nat)}
variable {H0 : Heap} {a9 : Array Value}
/-- a call of a part of the world, that may throw; the rest stays, the part is forgotten -/
theorem kXR {post : Int32 → va_W → Prop} (hr : vx_Run p l e R s m args below meth c H locs cells slots mc ms (F0 m pc ls st0) rest (QI D tys post (va_A w H.size) a9) (XE PX E (va_A w H.size)) (va_A w H.size)) (hP : va_P D vwCl (w ++ wr) H) (hD : va_D A (w ++ wr)) (hS : va_S A H0 H locs) (hA : ∀ q, H0.size ≤ q → A q)
    (kx : ∀ (ce : Cell) (q9 : Addr) (H1 : Heap) (locs1 : List Loc), PX → va_P D vwCl wr H1 → va_S A H0 H1 locs1 → H1[q9]? = some ce → ce.vm = .none → s.vm.findClass E = some ce.cls → vx_W p l e R s m args below meth c H1 locs1 (cells + mc) (slots + ms) Q (F0 m pc ls rest) q9)
    (kk : ∀ (r : Int32) (H1 : Heap) (locs1 : List Loc), (∃ u, post r u) → va_P D vwCl wr H1 → va_S A H0 H1 locs1 → W p l e R s m args below meth c H1 locs1 (cells + mc) (slots + ms) Q (F0 m (pc + 3) ls (.int r :: rest))) : W p l e R s m args below meth c H locs cells slots Q (F0 m pc ls st0) := by
  have hDw := appLD hD
  exact vx_calli hr hS (fun q _ h => fr_all hDw hS hA q h) (fr_all hDw hS hA) (fun q _ h => fr_all hDw hS hA q h)
    (fun E' ce q9 u t H1 locs1 ht hvm hp hB hz hk hS1 h1 h2 h3 => by cases hB; exact kx ce q9 H1 locs1 hp (app_rest hP hD hk) hS1 h1 h2 h3)
    (fun r u t H1 locs1 ht hvm hw hB hz1 hk1 hS1 => kk r H1 locs1 ⟨u, hw⟩ (app_rest hP hD hk1) hS1)
theorem hpreXL (hK : va_K D vwCl tys s) (hN : NW s) (hP : va_P D vwCl w H) (hD : va_D A w) (hST : ST A s) (hSR : SR s) (hS : va_S A s.heap H locs) (hA : ∀ q, s.heap.size ≤ q → A q) (av : List Value) : PreS s H (va_Pc av (PBX D tys w H.size)) av := hpreX hK hN hP hD hST hSR hS hA av
theorem rSW (hx : p.tables.exec = Jvm.exec) (hb : c.code = cc) (hml : c.maxLocals = nL) (hown : s.vm.findClass own = some m.cls) (hg : ∀ w ∈ GW, w.before args s = true) (hN : NW s) (hK : va_K D vwCl tys s) (hP : va_P D vwCl w H) (hD : va_D A w) (hST : ST A s) (hSR : SR s) (hS : va_S A s.heap H locs) (hA : ∀ q, s.heap.size ≤ q → A q)
    (hM : CW l D tys y (.codeWith y bytes maxL ret hh) d mc ms w As Qc) (m5 : Cond.codeWith y bytes maxL ret hh ∈ GW) (m1 : Cond.methodLink own index y ∈ GW) (m2 : Cond.static y ∈ GW) (m4 : Cond.initialized y.cls ∈ GW)
    (hd : y.cls ≠ "java/lang/invoke/MethodHandle" ∧ y.cls ≠ "java/lang/invoke/VarHandle" ∧ (parseMethodDescriptor y.desc).map (fun d => d.parameters.length) = some n) (hR : (rmf d mc ms).frames + 1 ≤ R.frames ∧ 8 + (maxL + 11) + (rmf d mc ms).locals ≤ R.locals)
    (hn : As.length = n) (hl : ls.size = nL) (hst : st0 = As.reverse ++ rest) (hW : (rest.map fun v => v.category).sum ≤ 8) (hdg : decode cc pc = .ok (.invokestatic index, 3)) (hf : cells + mc ≤ R.cells ∧ slots + ms ≤ R.slots) :
    va_Run p l e R s m args below meth c H locs cells slots mc ms (F0 m pc ls st0) rest (Qc (va_A w H.size) As.toArray) (va_A w H.size) :=
  vx_runSW (As := As) (rest := rest) ⟨hx, hb, hml, hown, hg⟩ (hM H.size) (vx_cwSW n hg (gw_S m5 m1 m2 m4) rfl rfl rfl hd hR) (hpreX hK hN hP hD hST hSR hS hA _) rfl hn hl hst (lv_room (m := m) (pc := pc) (ls := ls) (rest := st0) hW) hdg hf
end XL

set_option maxHeartbeats 4000000 in
set_option maxRecDepth 100000 in
theorem h_insert (l : Launch) (hfl : l.stackTraces = false) (D : va_G) (cI cJ cZ : ClassId) (cO : ClassId) (ad : Nat → Nat) (b : Nat → Int32) (F : Nat → Nat → Int32) (G : Nat → Nat → Int64) (ao : Nat) (g : Nat → Int64) (am : Nat → Nat) (qo : Nat) (F2 : Nat → Nat → Int32) (G2 : Nat → Nat → Int64) (k : Int32) (k2 : Int32) (k3 : Int32) : CW l D (TO cI cJ cZ cO) yL_insert (.codeWith yL_insert cL_insert 6 (some Jvm.ClassFile.FieldType.int) [((0), (12), (15), (13)), ((0), (12), (19), (15))]) 8 1 6 (XW ad cI cJ 0 b F G ++ MW (ao, .inl (cJ, 1, .inr (.inl g))) am cI cJ cZ cO 0 0 0 0 0 qo F2 G2) [.ref (ad 0), .int k, .int k2, .int k3, .ref ao] (QI D (TO cI cJ cZ cO) (fun r u => ∃ g', ((OKI k k2 k3 ∧ r = 0 ∧ g' 0 = 1) ∨ (¬ OKI k k2 k3 ∧ r = 1)) ∧ u = MW (ao, .inl (cJ, 1, .inr (.inl g'))) am cI cJ cZ cO 0 0 0 0 0 qo F2 G2)) := by
  refine entW (by decide) (Nat.le_of_ble_eq_true rfl) ?_
  intro p e s m below meth c ls A hx hb hr hg hown hml hlocks hnm hP hK hD hS hA hN hl htab hST hSR hAw
  have hl : lv_has ls 6 [(0, .ref (ad 0)), (1, .int k), (2, .int k2), (3, .int k3), (4, .ref ao)] := hl
  refine lv_aload hx hb dL_insert_0 (lv_at hl 4 rfl) ?_
  refine lv_iconst (v := 0) hx hb dL_insert_2 (by decide) ?_
  refine lv_aload_n hx hb dL_insert_3 rfl (lv_at hl 0 rfl) ?_
  refine lv_iload_n hx hb dL_insert_4 rfl (lv_at hl 1 rfl) ?_
  refine lv_iload_n hx hb dL_insert_5 rfl (lv_at hl 2 rfl) ?_
  refine lv_iload_n hx hb dL_insert_6 rfl (lv_at hl 3 rfl) ?_
  have hP0 : va_P D vwCl ((XW ad cI cJ 0 b F G ++ []) ++ MW (ao, .inl (cJ, 1, .inr (.inl g))) am cI cJ cZ cO 0 0 0 0 0 qo F2 G2) s.heap := by rw [List.append_nil]; exact hP
  have hD0 : va_D A ((XW ad cI cJ 0 b F G ++ []) ++ MW (ao, .inl (cJ, 1, .inr (.inl g))) am cI cJ cZ cO 0 0 0 0 0 qo F2 G2) := by rw [List.append_nil]; exact hD
  refine kXR (rXV (q0 := 0) (ci := 7) hx hb hml hown hg hN (hK.sub (tys' := TY cI cJ cZ) [0, 1, 2] rfl) (appLP hP0) (appLD hD0) hST hSR hS hA (p_insert l hfl D cI cJ cZ ad b F G [] k k2 k3) mw_541 mw_540 mw_542 mw_543 mw_110 pdv_X7_insert ⟨Nat.le_of_ble_eq_true rfl, Nat.le_of_ble_eq_true rfl⟩ rfl rfl rfl hl.1 rfl (Nat.le_of_ble_eq_true rfl) dL_insert_7 ⟨Nat.le_of_ble_eq_true rfl, Nat.le_of_ble_eq_true rfl⟩) hP0 hD0 hS hA (fun ce q9 H locs hpx hP hS h1 h2 h3 => ?_) (fun r9 H locs hp hP hS => ?_)
  · have hP : va_P D vwCl (MW (ao, .inl (cJ, 1, .inr (.inl g))) am cI cJ cZ cO 0 0 0 0 0 qo F2 G2) H := hP
    have hD : va_D A (MW (ao, .inl (cJ, 1, .inr (.inl g))) am cI cJ cZ cO 0 0 0 0 0 qo F2 G2) := appRD hD
    refine vx_catch (name := EIAE) (E := EIAE) hown [] ⟨0, 12, 15, 13⟩ (tableOf [(0, 12, 19, 15)]) (by rw [htab]; rfl) (fun z hz => nomatch hz) (by decide) (by decide) (hg _ mw_544) (hN.use nw_99) h1 h2 h3 ?_
    refine lv_astore (lv' := [(5, .ref q9), (0, .ref (ad 0)), (1, .int k), (2, .int k2), (3, .int k3), (4, .ref ao)]) hx hb dL_insert_15 hl (by decide) rfl (fun ls hl => ?_)
    refine lv_iconst (v := 1) hx hb dL_insert_17 (by decide) ?_
    exact W.iret (v := 1) hx hb hr (fun t ht hW => ⟨⟨1, (MW (ao, .inl (cJ, 1, .inr (.inl g))) am cI cJ cZ cO 0 0 0 0 0 qo F2 G2), rfl, ⟨_, Or.inr ⟨hpx, rfl⟩, rfl⟩, ⟨by rw [ht]; exact hP, va_K.moved hW.alike hK, hD⟩⟩, hS.F ht⟩) hS.2.2 dL_insert_18
  · have hP : va_P D vwCl (MW (ao, .inl (cJ, 1, .inr (.inl g))) am cI cJ cZ cO 0 0 0 0 0 qo F2 G2) H := hP
    have hD : va_D A (MW (ao, .inl (cJ, 1, .inr (.inl g))) am cI cJ cZ cO 0 0 0 0 0 qo F2 G2) := appRD hD
    obtain ⟨u, hr1, hr2, -⟩ := hp
    obtain rfl : r9 = 1 := hr1
    refine lv_i2l (v := 1) hx hb dL_insert_10 (by decide) ?_
    refine va_last hx hb hK hP hD hS 0 1 rfl rfl (by unfold vp_in; decide) dL_insert_11 (fun H locs hP hD hS => ?_)
    have hP : va_P D vwCl (MW (ao, .inl (cJ, 1, .inr (.inl (vp_updL g (0 : Int32).toNatClampNeg 1)))) am cI cJ cZ cO 0 0 0 0 0 qo F2 G2) H := hP
    have hD : va_D A (MW (ao, .inl (cJ, 1, .inr (.inl (vp_updL g (0 : Int32).toNatClampNeg 1)))) am cI cJ cZ cO 0 0 0 0 0 qo F2 G2) := hD
    refine lv_goto (tgt := 23) hx hb dL_insert_12 (by decide) ?_
    refine lv_iconst (v := 0) hx hb dL_insert_23 (by decide) ?_
    exact W.iret (v := 0) hx hb hr (fun t ht hW => ⟨⟨0, (MW (ao, .inl (cJ, 1, .inr (.inl (vp_updL g (0 : Int32).toNatClampNeg 1)))) am cI cJ cZ cO 0 0 0 0 0 qo F2 G2), rfl, ⟨_, Or.inl ⟨hr2, rfl, rfl⟩, rfl⟩, ⟨by rw [ht]; exact hP, va_K.moved hW.alike hK, hD⟩⟩, hS.F ht⟩) hS.2.2 dL_insert_24
set_option maxHeartbeats 4000000 in
set_option maxRecDepth 100000 in
theorem h_remove (l : Launch) (hfl : l.stackTraces = false) (D : va_G) (cI cJ cZ : ClassId) (cO : ClassId) (ad : Nat → Nat) (b : Nat → Int32) (F : Nat → Nat → Int32) (G : Nat → Nat → Int64) (ao : Nat) (g : Nat → Int64) (am : Nat → Nat) (qo : Nat) (F2 : Nat → Nat → Int32) (G2 : Nat → Nat → Int64) (k : Int32) : CW l D (TO cI cJ cZ cO) yL_remove (.codeWith yL_remove cL_remove 4 (some Jvm.ClassFile.FieldType.int) [((0), (9), (12), (21))]) 8 1 6 (XW ad cI cJ 0 b F G ++ MW (ao, .inl (cJ, 1, .inr (.inl g))) am cI cJ cZ cO 0 0 0 0 0 qo F2 G2) [.ref (ad 0), .int k, .ref ao] (QI D (TO cI cJ cZ cO) (fun r u => r = 1 ∧ u = MW (ao, .inl (cJ, 1, .inr (.inl g))) am cI cJ cZ cO 0 0 0 0 0 qo F2 G2)) := by
  refine entW (by decide) (Nat.le_of_ble_eq_true rfl) ?_
  intro p e s m below meth c ls A hx hb hr hg hown hml hlocks hnm hP hK hD hS hA hN hl htab hST hSR hAw
  have hl : lv_has ls 4 [(0, .ref (ad 0)), (1, .int k), (2, .ref ao)] := hl
  refine lv_aload_n hx hb dL_remove_0 rfl (lv_at hl 2 rfl) ?_
  refine lv_iconst (v := 0) hx hb dL_remove_1 (by decide) ?_
  refine lv_aload_n hx hb dL_remove_2 rfl (lv_at hl 0 rfl) ?_
  refine lv_iload_n hx hb dL_remove_3 rfl (lv_at hl 1 rfl) ?_
  have hP0 : va_P D vwCl ((XW ad cI cJ 0 b F G ++ []) ++ MW (ao, .inl (cJ, 1, .inr (.inl g))) am cI cJ cZ cO 0 0 0 0 0 qo F2 G2) s.heap := by rw [List.append_nil]; exact hP
  have hD0 : va_D A ((XW ad cI cJ 0 b F G ++ []) ++ MW (ao, .inl (cJ, 1, .inr (.inl g))) am cI cJ cZ cO 0 0 0 0 0 qo F2 G2) := by rw [List.append_nil]; exact hD
  refine kXR (rXV (q0 := 0) (ci := 7) hx hb hml hown hg hN (hK.sub (tys' := TY cI cJ cZ) [0, 1, 2] rfl) (appLP hP0) (appLD hD0) hST hSR hS hA (p_remove l hfl D cI cJ cZ ad b F G [] k) mw_546 mw_545 mw_547 mw_548 mw_110 pdv_X7_remove ⟨Nat.le_of_ble_eq_true rfl, Nat.le_of_ble_eq_true rfl⟩ rfl rfl rfl hl.1 rfl (Nat.le_of_ble_eq_true rfl) dL_remove_4 ⟨Nat.le_of_ble_eq_true rfl, Nat.le_of_ble_eq_true rfl⟩) hP0 hD0 hS hA (fun ce q9 H locs hpx hP hS h1 h2 h3 => ?_) (fun r9 H locs hp hP hS => ?_)
  · have hP : va_P D vwCl (MW (ao, .inl (cJ, 1, .inr (.inl g))) am cI cJ cZ cO 0 0 0 0 0 qo F2 G2) H := hP
    have hD : va_D A (MW (ao, .inl (cJ, 1, .inr (.inl g))) am cI cJ cZ cO 0 0 0 0 0 qo F2 G2) := appRD hD
    refine vx_catch (name := EIOB) (E := EIOB) hown [] ⟨0, 9, 12, 21⟩ (tableOf []) (by rw [htab]; rfl) (fun z hz => nomatch hz) (by decide) (by decide) (hg _ mw_549) (hN.use nw_107) h1 h2 h3 ?_
    refine lv_astore_n (lv' := [(3, .ref q9), (0, .ref (ad 0)), (1, .int k), (2, .ref ao)]) hx hb dL_remove_12 rfl hl (by decide) rfl (fun ls hl => ?_)
    refine lv_iconst (v := 1) hx hb dL_remove_13 (by decide) ?_
    exact W.iret (v := 1) hx hb hr (fun t ht hW => ⟨⟨1, (MW (ao, .inl (cJ, 1, .inr (.inl g))) am cI cJ cZ cO 0 0 0 0 0 qo F2 G2), rfl, ⟨rfl, rfl⟩, ⟨by rw [ht]; exact hP, va_K.moved hW.alike hK, hD⟩⟩, hS.F ht⟩) hS.2.2 dL_remove_14
  · have hP : va_P D vwCl (MW (ao, .inl (cJ, 1, .inr (.inl g))) am cI cJ cZ cO 0 0 0 0 0 qo F2 G2) H := hP
    have hD : va_D A (MW (ao, .inl (cJ, 1, .inr (.inl g))) am cI cJ cZ cO 0 0 0 0 0 qo F2 G2) := appRD hD
    obtain ⟨u, hu⟩ := hp
    exact hu.elim
set_option maxHeartbeats 4000000 in
set_option maxRecDepth 100000 in
theorem h_setTarget (l : Launch) (hfl : l.stackTraces = false) (D : va_G) (cI cJ cZ : ClassId) (cO : ClassId) (ad : Nat → Nat) (b : Nat → Int32) (F : Nat → Nat → Int32) (G : Nat → Nat → Int64) (ao : Nat) (g : Nat → Int64) (am : Nat → Nat) (qo : Nat) (F2 : Nat → Nat → Int32) (G2 : Nat → Nat → Int64) (k : Int32) (k2 : Int32) : CW l D (TO cI cJ cZ cO) yL_setTarget (.codeWith yL_setTarget cL_setTarget 5 (some Jvm.ClassFile.FieldType.int) [((0), (10), (13), (21)), ((0), (10), (17), (13))]) 8 1 6 (XW ad cI cJ 0 b F G ++ MW (ao, .inl (cJ, 1, .inr (.inl g))) am cI cJ cZ cO 0 0 0 0 0 qo F2 G2) [.ref (ad 0), .int k, .int k2, .ref ao] (QI D (TO cI cJ cZ cO) (fun r u => r = 1 ∧ u = MW (ao, .inl (cJ, 1, .inr (.inl g))) am cI cJ cZ cO 0 0 0 0 0 qo F2 G2)) := by
  refine entW (by decide) (Nat.le_of_ble_eq_true rfl) ?_
  intro p e s m below meth c ls A hx hb hr hg hown hml hlocks hnm hP hK hD hS hA hN hl htab hST hSR hAw
  have hl : lv_has ls 5 [(0, .ref (ad 0)), (1, .int k), (2, .int k2), (3, .ref ao)] := hl
  refine lv_aload_n hx hb dL_setTarget_0 rfl (lv_at hl 3 rfl) ?_
  refine lv_iconst (v := 0) hx hb dL_setTarget_1 (by decide) ?_
  refine lv_aload_n hx hb dL_setTarget_2 rfl (lv_at hl 0 rfl) ?_
  refine lv_iload_n hx hb dL_setTarget_3 rfl (lv_at hl 1 rfl) ?_
  refine lv_iload_n hx hb dL_setTarget_4 rfl (lv_at hl 2 rfl) ?_
  have hP0 : va_P D vwCl ((XW ad cI cJ 0 b F G ++ []) ++ MW (ao, .inl (cJ, 1, .inr (.inl g))) am cI cJ cZ cO 0 0 0 0 0 qo F2 G2) s.heap := by rw [List.append_nil]; exact hP
  have hD0 : va_D A ((XW ad cI cJ 0 b F G ++ []) ++ MW (ao, .inl (cJ, 1, .inr (.inl g))) am cI cJ cZ cO 0 0 0 0 0 qo F2 G2) := by rw [List.append_nil]; exact hD
  refine kXR (rXV (q0 := 0) (ci := 7) hx hb hml hown hg hN (hK.sub (tys' := TY cI cJ cZ) [0, 1, 2] rfl) (appLP hP0) (appLD hD0) hST hSR hS hA (p_setTarget l hfl D cI cJ cZ ad b F G [] k k2) mw_551 mw_550 mw_552 mw_553 mw_110 pdv_X7_setTarget ⟨Nat.le_of_ble_eq_true rfl, Nat.le_of_ble_eq_true rfl⟩ rfl rfl rfl hl.1 rfl (Nat.le_of_ble_eq_true rfl) dL_setTarget_5 ⟨Nat.le_of_ble_eq_true rfl, Nat.le_of_ble_eq_true rfl⟩) hP0 hD0 hS hA (fun ce q9 H locs hpx hP hS h1 h2 h3 => ?_) (fun r9 H locs hp hP hS => ?_)
  · have hP : va_P D vwCl (MW (ao, .inl (cJ, 1, .inr (.inl g))) am cI cJ cZ cO 0 0 0 0 0 qo F2 G2) H := hP
    have hD : va_D A (MW (ao, .inl (cJ, 1, .inr (.inl g))) am cI cJ cZ cO 0 0 0 0 0 qo F2 G2) := appRD hD
    refine vx_catch (name := EIOB) (E := EIOB) hown [] ⟨0, 10, 13, 21⟩ (tableOf [(0, 10, 17, 13)]) (by rw [htab]; rfl) (fun z hz => nomatch hz) (by decide) (by decide) (hg _ mw_549) (hN.use nw_107) h1 h2 h3 ?_
    refine lv_astore (lv' := [(4, .ref q9), (0, .ref (ad 0)), (1, .int k), (2, .int k2), (3, .ref ao)]) hx hb dL_setTarget_13 hl (by decide) rfl (fun ls hl => ?_)
    refine lv_iconst (v := 1) hx hb dL_setTarget_15 (by decide) ?_
    exact W.iret (v := 1) hx hb hr (fun t ht hW => ⟨⟨1, (MW (ao, .inl (cJ, 1, .inr (.inl g))) am cI cJ cZ cO 0 0 0 0 0 qo F2 G2), rfl, ⟨rfl, rfl⟩, ⟨by rw [ht]; exact hP, va_K.moved hW.alike hK, hD⟩⟩, hS.F ht⟩) hS.2.2 dL_setTarget_16
  · have hP : va_P D vwCl (MW (ao, .inl (cJ, 1, .inr (.inl g))) am cI cJ cZ cO 0 0 0 0 0 qo F2 G2) H := hP
    have hD : va_D A (MW (ao, .inl (cJ, 1, .inr (.inl g))) am cI cJ cZ cO 0 0 0 0 0 qo F2 G2) := appRD hD
    obtain ⟨u, hu⟩ := hp
    exact hu.elim
set_option maxHeartbeats 4000000 in
set_option maxRecDepth 100000 in
theorem h_setUse (l : Launch) (hfl : l.stackTraces = false) (D : va_G) (cI cJ cZ : ClassId) (cO : ClassId) (ad : Nat → Nat) (b : Nat → Int32) (F : Nat → Nat → Int32) (G : Nat → Nat → Int64) (ao : Nat) (g : Nat → Int64) (am : Nat → Nat) (qo : Nat) (F2 : Nat → Nat → Int32) (G2 : Nat → Nat → Int64) (k : Int32) (k2 : Int32) (k3 : Int32) : CW l D (TO cI cJ cZ cO) yL_setUse (.codeWith yL_setUse cL_setUse 6 (some Jvm.ClassFile.FieldType.int) [((0), (12), (15), (21)), ((0), (12), (19), (13))]) 8 1 6 (XW ad cI cJ 0 b F G ++ MW (ao, .inl (cJ, 1, .inr (.inl g))) am cI cJ cZ cO 0 0 0 0 0 qo F2 G2) [.ref (ad 0), .int k, .int k2, .int k3, .ref ao] (QI D (TO cI cJ cZ cO) (fun r u => r = 1 ∧ u = MW (ao, .inl (cJ, 1, .inr (.inl g))) am cI cJ cZ cO 0 0 0 0 0 qo F2 G2)) := by
  refine entW (by decide) (Nat.le_of_ble_eq_true rfl) ?_
  intro p e s m below meth c ls A hx hb hr hg hown hml hlocks hnm hP hK hD hS hA hN hl htab hST hSR hAw
  have hl : lv_has ls 6 [(0, .ref (ad 0)), (1, .int k), (2, .int k2), (3, .int k3), (4, .ref ao)] := hl
  refine lv_aload hx hb dL_setUse_0 (lv_at hl 4 rfl) ?_
  refine lv_iconst (v := 0) hx hb dL_setUse_2 (by decide) ?_
  refine lv_aload_n hx hb dL_setUse_3 rfl (lv_at hl 0 rfl) ?_
  refine lv_iload_n hx hb dL_setUse_4 rfl (lv_at hl 1 rfl) ?_
  refine lv_iload_n hx hb dL_setUse_5 rfl (lv_at hl 2 rfl) ?_
  refine lv_iload_n hx hb dL_setUse_6 rfl (lv_at hl 3 rfl) ?_
  have hP0 : va_P D vwCl ((XW ad cI cJ 0 b F G ++ []) ++ MW (ao, .inl (cJ, 1, .inr (.inl g))) am cI cJ cZ cO 0 0 0 0 0 qo F2 G2) s.heap := by rw [List.append_nil]; exact hP
  have hD0 : va_D A ((XW ad cI cJ 0 b F G ++ []) ++ MW (ao, .inl (cJ, 1, .inr (.inl g))) am cI cJ cZ cO 0 0 0 0 0 qo F2 G2) := by rw [List.append_nil]; exact hD
  refine kXR (rXV (q0 := 0) (ci := 7) hx hb hml hown hg hN (hK.sub (tys' := TY cI cJ cZ) [0, 1, 2] rfl) (appLP hP0) (appLD hD0) hST hSR hS hA (p_setUse l hfl D cI cJ cZ ad b F G [] k k2 k3) mw_555 mw_554 mw_556 mw_557 mw_110 pdv_X7_setUse ⟨Nat.le_of_ble_eq_true rfl, Nat.le_of_ble_eq_true rfl⟩ rfl rfl rfl hl.1 rfl (Nat.le_of_ble_eq_true rfl) dL_setUse_7 ⟨Nat.le_of_ble_eq_true rfl, Nat.le_of_ble_eq_true rfl⟩) hP0 hD0 hS hA (fun ce q9 H locs hpx hP hS h1 h2 h3 => ?_) (fun r9 H locs hp hP hS => ?_)
  · have hP : va_P D vwCl (MW (ao, .inl (cJ, 1, .inr (.inl g))) am cI cJ cZ cO 0 0 0 0 0 qo F2 G2) H := hP
    have hD : va_D A (MW (ao, .inl (cJ, 1, .inr (.inl g))) am cI cJ cZ cO 0 0 0 0 0 qo F2 G2) := appRD hD
    refine vx_catch (name := EIOB) (E := EIOB) hown [] ⟨0, 12, 15, 21⟩ (tableOf [(0, 12, 19, 13)]) (by rw [htab]; rfl) (fun z hz => nomatch hz) (by decide) (by decide) (hg _ mw_549) (hN.use nw_107) h1 h2 h3 ?_
    refine lv_astore (lv' := [(5, .ref q9), (0, .ref (ad 0)), (1, .int k), (2, .int k2), (3, .int k3), (4, .ref ao)]) hx hb dL_setUse_15 hl (by decide) rfl (fun ls hl => ?_)
    refine lv_iconst (v := 1) hx hb dL_setUse_17 (by decide) ?_
    exact W.iret (v := 1) hx hb hr (fun t ht hW => ⟨⟨1, (MW (ao, .inl (cJ, 1, .inr (.inl g))) am cI cJ cZ cO 0 0 0 0 0 qo F2 G2), rfl, ⟨rfl, rfl⟩, ⟨by rw [ht]; exact hP, va_K.moved hW.alike hK, hD⟩⟩, hS.F ht⟩) hS.2.2 dL_setUse_18
  · have hP : va_P D vwCl (MW (ao, .inl (cJ, 1, .inr (.inl g))) am cI cJ cZ cO 0 0 0 0 0 qo F2 G2) H := hP
    have hD : va_D A (MW (ao, .inl (cJ, 1, .inr (.inl g))) am cI cJ cZ cO 0 0 0 0 0 qo F2 G2) := appRD hD
    obtain ⟨u, hu⟩ := hp
    exact hu.elim
set_option maxHeartbeats 4000000 in
set_option maxRecDepth 100000 in
theorem h_kindOf (l : Launch) (hfl : l.stackTraces = false) (D : va_G) (cI cJ cZ : ClassId) (cO : ClassId) (ad : Nat → Nat) (b : Nat → Int32) (F : Nat → Nat → Int32) (G : Nat → Nat → Int64) (ao : Nat) (g : Nat → Int64) (am : Nat → Nat) (qo : Nat) (F2 : Nat → Nat → Int32) (G2 : Nat → Nat → Int64) (k : Int32) : CW l D (TO cI cJ cZ cO) yL_kindOf (.codeWith yL_kindOf cL_kindOf 4 (some Jvm.ClassFile.FieldType.int) [((0), (9), (12), (21))]) 8 1 6 (XW ad cI cJ 0 b F G ++ MW (ao, .inl (cJ, 1, .inr (.inl g))) am cI cJ cZ cO 0 0 0 0 0 qo F2 G2) [.ref (ad 0), .int k, .ref ao] (QI D (TO cI cJ cZ cO) (fun r u => r = 1 ∧ u = MW (ao, .inl (cJ, 1, .inr (.inl g))) am cI cJ cZ cO 0 0 0 0 0 qo F2 G2)) := by
  refine entW (by decide) (Nat.le_of_ble_eq_true rfl) ?_
  intro p e s m below meth c ls A hx hb hr hg hown hml hlocks hnm hP hK hD hS hA hN hl htab hST hSR hAw
  have hl : lv_has ls 4 [(0, .ref (ad 0)), (1, .int k), (2, .ref ao)] := hl
  refine lv_aload_n hx hb dL_kindOf_0 rfl (lv_at hl 2 rfl) ?_
  refine lv_iconst (v := 0) hx hb dL_kindOf_1 (by decide) ?_
  refine lv_aload_n hx hb dL_kindOf_2 rfl (lv_at hl 0 rfl) ?_
  refine lv_iload_n hx hb dL_kindOf_3 rfl (lv_at hl 1 rfl) ?_
  have hP0 : va_P D vwCl ((XW ad cI cJ 0 b F G ++ []) ++ MW (ao, .inl (cJ, 1, .inr (.inl g))) am cI cJ cZ cO 0 0 0 0 0 qo F2 G2) s.heap := by rw [List.append_nil]; exact hP
  have hD0 : va_D A ((XW ad cI cJ 0 b F G ++ []) ++ MW (ao, .inl (cJ, 1, .inr (.inl g))) am cI cJ cZ cO 0 0 0 0 0 qo F2 G2) := by rw [List.append_nil]; exact hD
  refine kXR (rXV (q0 := 0) (ci := 7) hx hb hml hown hg hN (hK.sub (tys' := TY cI cJ cZ) [0, 1, 2] rfl) (appLP hP0) (appLD hD0) hST hSR hS hA (p_kindOf l hfl D cI cJ cZ ad b F G [] k) mw_559 mw_558 mw_560 mw_561 mw_110 pdv_X7_kindOf ⟨Nat.le_of_ble_eq_true rfl, Nat.le_of_ble_eq_true rfl⟩ rfl rfl rfl hl.1 rfl (Nat.le_of_ble_eq_true rfl) dL_kindOf_4 ⟨Nat.le_of_ble_eq_true rfl, Nat.le_of_ble_eq_true rfl⟩) hP0 hD0 hS hA (fun ce q9 H locs hpx hP hS h1 h2 h3 => ?_) (fun r9 H locs hp hP hS => ?_)
  · have hP : va_P D vwCl (MW (ao, .inl (cJ, 1, .inr (.inl g))) am cI cJ cZ cO 0 0 0 0 0 qo F2 G2) H := hP
    have hD : va_D A (MW (ao, .inl (cJ, 1, .inr (.inl g))) am cI cJ cZ cO 0 0 0 0 0 qo F2 G2) := appRD hD
    refine vx_catch (name := EIOB) (E := EIOB) hown [] ⟨0, 9, 12, 21⟩ (tableOf []) (by rw [htab]; rfl) (fun z hz => nomatch hz) (by decide) (by decide) (hg _ mw_549) (hN.use nw_107) h1 h2 h3 ?_
    refine lv_astore_n (lv' := [(3, .ref q9), (0, .ref (ad 0)), (1, .int k), (2, .ref ao)]) hx hb dL_kindOf_12 rfl hl (by decide) rfl (fun ls hl => ?_)
    refine lv_iconst (v := 1) hx hb dL_kindOf_13 (by decide) ?_
    exact W.iret (v := 1) hx hb hr (fun t ht hW => ⟨⟨1, (MW (ao, .inl (cJ, 1, .inr (.inl g))) am cI cJ cZ cO 0 0 0 0 0 qo F2 G2), rfl, ⟨rfl, rfl⟩, ⟨by rw [ht]; exact hP, va_K.moved hW.alike hK, hD⟩⟩, hS.F ht⟩) hS.2.2 dL_kindOf_14
  · have hP : va_P D vwCl (MW (ao, .inl (cJ, 1, .inr (.inl g))) am cI cJ cZ cO 0 0 0 0 0 qo F2 G2) H := hP
    have hD : va_D A (MW (ao, .inl (cJ, 1, .inr (.inl g))) am cI cJ cZ cO 0 0 0 0 0 qo F2 G2) := appRD hD
    obtain ⟨u, hu⟩ := hp
    exact hu.elim
set_option maxHeartbeats 4000000 in
set_option maxRecDepth 100000 in
theorem h_targetOf (l : Launch) (hfl : l.stackTraces = false) (D : va_G) (cI cJ cZ : ClassId) (cO : ClassId) (ad : Nat → Nat) (b : Nat → Int32) (F : Nat → Nat → Int32) (G : Nat → Nat → Int64) (ao : Nat) (g : Nat → Int64) (am : Nat → Nat) (qo : Nat) (F2 : Nat → Nat → Int32) (G2 : Nat → Nat → Int64) (k : Int32) : CW l D (TO cI cJ cZ cO) yL_targetOf (.codeWith yL_targetOf cL_targetOf 4 (some Jvm.ClassFile.FieldType.int) [((0), (9), (12), (21))]) 8 1 6 (XW ad cI cJ 0 b F G ++ MW (ao, .inl (cJ, 1, .inr (.inl g))) am cI cJ cZ cO 0 0 0 0 0 qo F2 G2) [.ref (ad 0), .int k, .ref ao] (QI D (TO cI cJ cZ cO) (fun r u => r = 1 ∧ u = MW (ao, .inl (cJ, 1, .inr (.inl g))) am cI cJ cZ cO 0 0 0 0 0 qo F2 G2)) := by
  refine entW (by decide) (Nat.le_of_ble_eq_true rfl) ?_
  intro p e s m below meth c ls A hx hb hr hg hown hml hlocks hnm hP hK hD hS hA hN hl htab hST hSR hAw
  have hl : lv_has ls 4 [(0, .ref (ad 0)), (1, .int k), (2, .ref ao)] := hl
  refine lv_aload_n hx hb dL_targetOf_0 rfl (lv_at hl 2 rfl) ?_
  refine lv_iconst (v := 0) hx hb dL_targetOf_1 (by decide) ?_
  refine lv_aload_n hx hb dL_targetOf_2 rfl (lv_at hl 0 rfl) ?_
  refine lv_iload_n hx hb dL_targetOf_3 rfl (lv_at hl 1 rfl) ?_
  have hP0 : va_P D vwCl ((XW ad cI cJ 0 b F G ++ []) ++ MW (ao, .inl (cJ, 1, .inr (.inl g))) am cI cJ cZ cO 0 0 0 0 0 qo F2 G2) s.heap := by rw [List.append_nil]; exact hP
  have hD0 : va_D A ((XW ad cI cJ 0 b F G ++ []) ++ MW (ao, .inl (cJ, 1, .inr (.inl g))) am cI cJ cZ cO 0 0 0 0 0 qo F2 G2) := by rw [List.append_nil]; exact hD
  refine kXR (rXV (q0 := 0) (ci := 7) hx hb hml hown hg hN (hK.sub (tys' := TY cI cJ cZ) [0, 1, 2] rfl) (appLP hP0) (appLD hD0) hST hSR hS hA (p_targetOf l hfl D cI cJ cZ ad b F G [] k) mw_563 mw_562 mw_564 mw_565 mw_110 pdv_X7_targetOf ⟨Nat.le_of_ble_eq_true rfl, Nat.le_of_ble_eq_true rfl⟩ rfl rfl rfl hl.1 rfl (Nat.le_of_ble_eq_true rfl) dL_targetOf_4 ⟨Nat.le_of_ble_eq_true rfl, Nat.le_of_ble_eq_true rfl⟩) hP0 hD0 hS hA (fun ce q9 H locs hpx hP hS h1 h2 h3 => ?_) (fun r9 H locs hp hP hS => ?_)
  · have hP : va_P D vwCl (MW (ao, .inl (cJ, 1, .inr (.inl g))) am cI cJ cZ cO 0 0 0 0 0 qo F2 G2) H := hP
    have hD : va_D A (MW (ao, .inl (cJ, 1, .inr (.inl g))) am cI cJ cZ cO 0 0 0 0 0 qo F2 G2) := appRD hD
    refine vx_catch (name := EIOB) (E := EIOB) hown [] ⟨0, 9, 12, 21⟩ (tableOf []) (by rw [htab]; rfl) (fun z hz => nomatch hz) (by decide) (by decide) (hg _ mw_549) (hN.use nw_107) h1 h2 h3 ?_
    refine lv_astore_n (lv' := [(3, .ref q9), (0, .ref (ad 0)), (1, .int k), (2, .ref ao)]) hx hb dL_targetOf_12 rfl hl (by decide) rfl (fun ls hl => ?_)
    refine lv_iconst (v := 1) hx hb dL_targetOf_13 (by decide) ?_
    exact W.iret (v := 1) hx hb hr (fun t ht hW => ⟨⟨1, (MW (ao, .inl (cJ, 1, .inr (.inl g))) am cI cJ cZ cO 0 0 0 0 0 qo F2 G2), rfl, ⟨rfl, rfl⟩, ⟨by rw [ht]; exact hP, va_K.moved hW.alike hK, hD⟩⟩, hS.F ht⟩) hS.2.2 dL_targetOf_14
  · have hP : va_P D vwCl (MW (ao, .inl (cJ, 1, .inr (.inl g))) am cI cJ cZ cO 0 0 0 0 0 qo F2 G2) H := hP
    have hD : va_D A (MW (ao, .inl (cJ, 1, .inr (.inl g))) am cI cJ cZ cO 0 0 0 0 0 qo F2 G2) := appRD hD
    obtain ⟨u, hu⟩ := hp
    exact hu.elim
set_option maxHeartbeats 4000000 in
set_option maxRecDepth 100000 in
theorem h_blockOf (l : Launch) (hfl : l.stackTraces = false) (D : va_G) (cI cJ cZ : ClassId) (cO : ClassId) (ad : Nat → Nat) (b : Nat → Int32) (F : Nat → Nat → Int32) (G : Nat → Nat → Int64) (ao : Nat) (g : Nat → Int64) (am : Nat → Nat) (qo : Nat) (F2 : Nat → Nat → Int32) (G2 : Nat → Nat → Int64) (k : Int32) : CW l D (TO cI cJ cZ cO) yL_blockOf (.codeWith yL_blockOf cL_blockOf 4 (some Jvm.ClassFile.FieldType.int) [((0), (9), (12), (21))]) 8 1 6 (XW ad cI cJ 0 b F G ++ MW (ao, .inl (cJ, 1, .inr (.inl g))) am cI cJ cZ cO 0 0 0 0 0 qo F2 G2) [.ref (ad 0), .int k, .ref ao] (QI D (TO cI cJ cZ cO) (fun r u => r = 1 ∧ u = MW (ao, .inl (cJ, 1, .inr (.inl g))) am cI cJ cZ cO 0 0 0 0 0 qo F2 G2)) := by
  refine entW (by decide) (Nat.le_of_ble_eq_true rfl) ?_
  intro p e s m below meth c ls A hx hb hr hg hown hml hlocks hnm hP hK hD hS hA hN hl htab hST hSR hAw
  have hl : lv_has ls 4 [(0, .ref (ad 0)), (1, .int k), (2, .ref ao)] := hl
  refine lv_aload_n hx hb dL_blockOf_0 rfl (lv_at hl 2 rfl) ?_
  refine lv_iconst (v := 0) hx hb dL_blockOf_1 (by decide) ?_
  refine lv_aload_n hx hb dL_blockOf_2 rfl (lv_at hl 0 rfl) ?_
  refine lv_iload_n hx hb dL_blockOf_3 rfl (lv_at hl 1 rfl) ?_
  have hP0 : va_P D vwCl ((XW ad cI cJ 0 b F G ++ []) ++ MW (ao, .inl (cJ, 1, .inr (.inl g))) am cI cJ cZ cO 0 0 0 0 0 qo F2 G2) s.heap := by rw [List.append_nil]; exact hP
  have hD0 : va_D A ((XW ad cI cJ 0 b F G ++ []) ++ MW (ao, .inl (cJ, 1, .inr (.inl g))) am cI cJ cZ cO 0 0 0 0 0 qo F2 G2) := by rw [List.append_nil]; exact hD
  refine kXR (rXV (q0 := 0) (ci := 7) hx hb hml hown hg hN (hK.sub (tys' := TY cI cJ cZ) [0, 1, 2] rfl) (appLP hP0) (appLD hD0) hST hSR hS hA (p_blockOf l hfl D cI cJ cZ ad b F G [] k) mw_567 mw_566 mw_568 mw_569 mw_110 pdv_X7_blockOf ⟨Nat.le_of_ble_eq_true rfl, Nat.le_of_ble_eq_true rfl⟩ rfl rfl rfl hl.1 rfl (Nat.le_of_ble_eq_true rfl) dL_blockOf_4 ⟨Nat.le_of_ble_eq_true rfl, Nat.le_of_ble_eq_true rfl⟩) hP0 hD0 hS hA (fun ce q9 H locs hpx hP hS h1 h2 h3 => ?_) (fun r9 H locs hp hP hS => ?_)
  · have hP : va_P D vwCl (MW (ao, .inl (cJ, 1, .inr (.inl g))) am cI cJ cZ cO 0 0 0 0 0 qo F2 G2) H := hP
    have hD : va_D A (MW (ao, .inl (cJ, 1, .inr (.inl g))) am cI cJ cZ cO 0 0 0 0 0 qo F2 G2) := appRD hD
    refine vx_catch (name := EIOB) (E := EIOB) hown [] ⟨0, 9, 12, 21⟩ (tableOf []) (by rw [htab]; rfl) (fun z hz => nomatch hz) (by decide) (by decide) (hg _ mw_549) (hN.use nw_107) h1 h2 h3 ?_
    refine lv_astore_n (lv' := [(3, .ref q9), (0, .ref (ad 0)), (1, .int k), (2, .ref ao)]) hx hb dL_blockOf_12 rfl hl (by decide) rfl (fun ls hl => ?_)
    refine lv_iconst (v := 1) hx hb dL_blockOf_13 (by decide) ?_
    exact W.iret (v := 1) hx hb hr (fun t ht hW => ⟨⟨1, (MW (ao, .inl (cJ, 1, .inr (.inl g))) am cI cJ cZ cO 0 0 0 0 0 qo F2 G2), rfl, ⟨rfl, rfl⟩, ⟨by rw [ht]; exact hP, va_K.moved hW.alike hK, hD⟩⟩, hS.F ht⟩) hS.2.2 dL_blockOf_14
  · have hP : va_P D vwCl (MW (ao, .inl (cJ, 1, .inr (.inl g))) am cI cJ cZ cO 0 0 0 0 0 qo F2 G2) H := hP
    have hD : va_D A (MW (ao, .inl (cJ, 1, .inr (.inl g))) am cI cJ cZ cO 0 0 0 0 0 qo F2 G2) := appRD hD
    obtain ⟨u, hu⟩ := hp
    exact hu.elim
set_option maxHeartbeats 4000000 in
set_option maxRecDepth 100000 in
theorem h_firstOf (l : Launch) (hfl : l.stackTraces = false) (D : va_G) (cI cJ cZ : ClassId) (cO : ClassId) (ad : Nat → Nat) (b : Nat → Int32) (F : Nat → Nat → Int32) (G : Nat → Nat → Int64) (ao : Nat) (g : Nat → Int64) (am : Nat → Nat) (qo : Nat) (F2 : Nat → Nat → Int32) (G2 : Nat → Nat → Int64) (k : Int32) : CW l D (TO cI cJ cZ cO) yL_firstOf (.codeWith yL_firstOf cL_firstOf 4 (some Jvm.ClassFile.FieldType.int) [((0), (9), (12), (21))]) 8 1 6 (XW ad cI cJ 0 b F G ++ MW (ao, .inl (cJ, 1, .inr (.inl g))) am cI cJ cZ cO 0 0 0 0 0 qo F2 G2) [.ref (ad 0), .int k, .ref ao] (QI D (TO cI cJ cZ cO) (fun r u => r = 1 ∧ u = MW (ao, .inl (cJ, 1, .inr (.inl g))) am cI cJ cZ cO 0 0 0 0 0 qo F2 G2)) := by
  refine entW (by decide) (Nat.le_of_ble_eq_true rfl) ?_
  intro p e s m below meth c ls A hx hb hr hg hown hml hlocks hnm hP hK hD hS hA hN hl htab hST hSR hAw
  have hl : lv_has ls 4 [(0, .ref (ad 0)), (1, .int k), (2, .ref ao)] := hl
  refine lv_aload_n hx hb dL_firstOf_0 rfl (lv_at hl 2 rfl) ?_
  refine lv_iconst (v := 0) hx hb dL_firstOf_1 (by decide) ?_
  refine lv_aload_n hx hb dL_firstOf_2 rfl (lv_at hl 0 rfl) ?_
  refine lv_iload_n hx hb dL_firstOf_3 rfl (lv_at hl 1 rfl) ?_
  have hP0 : va_P D vwCl ((XW ad cI cJ 0 b F G ++ []) ++ MW (ao, .inl (cJ, 1, .inr (.inl g))) am cI cJ cZ cO 0 0 0 0 0 qo F2 G2) s.heap := by rw [List.append_nil]; exact hP
  have hD0 : va_D A ((XW ad cI cJ 0 b F G ++ []) ++ MW (ao, .inl (cJ, 1, .inr (.inl g))) am cI cJ cZ cO 0 0 0 0 0 qo F2 G2) := by rw [List.append_nil]; exact hD
  refine kXR (rXV (q0 := 0) (ci := 7) hx hb hml hown hg hN (hK.sub (tys' := TY cI cJ cZ) [0, 1, 2] rfl) (appLP hP0) (appLD hD0) hST hSR hS hA (p_firstOf l hfl D cI cJ cZ ad b F G [] k) mw_571 mw_570 mw_572 mw_573 mw_110 pdv_X7_firstOf ⟨Nat.le_of_ble_eq_true rfl, Nat.le_of_ble_eq_true rfl⟩ rfl rfl rfl hl.1 rfl (Nat.le_of_ble_eq_true rfl) dL_firstOf_4 ⟨Nat.le_of_ble_eq_true rfl, Nat.le_of_ble_eq_true rfl⟩) hP0 hD0 hS hA (fun ce q9 H locs hpx hP hS h1 h2 h3 => ?_) (fun r9 H locs hp hP hS => ?_)
  · have hP : va_P D vwCl (MW (ao, .inl (cJ, 1, .inr (.inl g))) am cI cJ cZ cO 0 0 0 0 0 qo F2 G2) H := hP
    have hD : va_D A (MW (ao, .inl (cJ, 1, .inr (.inl g))) am cI cJ cZ cO 0 0 0 0 0 qo F2 G2) := appRD hD
    refine vx_catch (name := EIOB) (E := EIOB) hown [] ⟨0, 9, 12, 21⟩ (tableOf []) (by rw [htab]; rfl) (fun z hz => nomatch hz) (by decide) (by decide) (hg _ mw_549) (hN.use nw_107) h1 h2 h3 ?_
    refine lv_astore_n (lv' := [(3, .ref q9), (0, .ref (ad 0)), (1, .int k), (2, .ref ao)]) hx hb dL_firstOf_12 rfl hl (by decide) rfl (fun ls hl => ?_)
    refine lv_iconst (v := 1) hx hb dL_firstOf_13 (by decide) ?_
    exact W.iret (v := 1) hx hb hr (fun t ht hW => ⟨⟨1, (MW (ao, .inl (cJ, 1, .inr (.inl g))) am cI cJ cZ cO 0 0 0 0 0 qo F2 G2), rfl, ⟨rfl, rfl⟩, ⟨by rw [ht]; exact hP, va_K.moved hW.alike hK, hD⟩⟩, hS.F ht⟩) hS.2.2 dL_firstOf_14
  · have hP : va_P D vwCl (MW (ao, .inl (cJ, 1, .inr (.inl g))) am cI cJ cZ cO 0 0 0 0 0 qo F2 G2) H := hP
    have hD : va_D A (MW (ao, .inl (cJ, 1, .inr (.inl g))) am cI cJ cZ cO 0 0 0 0 0 qo F2 G2) := appRD hD
    obtain ⟨u, hu⟩ := hp
    exact hu.elim
set_option maxHeartbeats 4000000 in
set_option maxRecDepth 100000 in
theorem h_isReached (l : Launch) (hfl : l.stackTraces = false) (D : va_G) (cI cJ cZ : ClassId) (cO : ClassId) (ad : Nat → Nat) (b : Nat → Int32) (F : Nat → Nat → Int32) (G : Nat → Nat → Int64) (ao : Nat) (g : Nat → Int64) (am : Nat → Nat) (qo : Nat) (F2 : Nat → Nat → Int32) (G2 : Nat → Nat → Int64) (k : Int32) : CW l D (TO cI cJ cZ cO) yL_isReached (.codeWith yL_isReached cL_isReached 4 (some Jvm.ClassFile.FieldType.int) [((0), (16), (19), (21))]) 8 1 6 (XW ad cI cJ 0 b F G ++ MW (ao, .inl (cJ, 1, .inr (.inl g))) am cI cJ cZ cO 0 0 0 0 0 qo F2 G2) [.ref (ad 0), .int k, .ref ao] (QI D (TO cI cJ cZ cO) (fun r u => r = 1 ∧ u = MW (ao, .inl (cJ, 1, .inr (.inl g))) am cI cJ cZ cO 0 0 0 0 0 qo F2 G2)) := by
  refine entW (by decide) (Nat.le_of_ble_eq_true rfl) ?_
  intro p e s m below meth c ls A hx hb hr hg hown hml hlocks hnm hP hK hD hS hA hN hl htab hST hSR hAw
  have hl : lv_has ls 4 [(0, .ref (ad 0)), (1, .int k), (2, .ref ao)] := hl
  refine lv_aload_n hx hb dL_isReached_0 rfl (lv_at hl 2 rfl) ?_
  refine lv_iconst (v := 0) hx hb dL_isReached_1 (by decide) ?_
  refine lv_aload_n hx hb dL_isReached_2 rfl (lv_at hl 0 rfl) ?_
  refine lv_iload_n hx hb dL_isReached_3 rfl (lv_at hl 1 rfl) ?_
  have hP0 : va_P D vwCl ((XW ad cI cJ 0 b F G ++ []) ++ MW (ao, .inl (cJ, 1, .inr (.inl g))) am cI cJ cZ cO 0 0 0 0 0 qo F2 G2) s.heap := by rw [List.append_nil]; exact hP
  have hD0 : va_D A ((XW ad cI cJ 0 b F G ++ []) ++ MW (ao, .inl (cJ, 1, .inr (.inl g))) am cI cJ cZ cO 0 0 0 0 0 qo F2 G2) := by rw [List.append_nil]; exact hD
  refine kXR (rXV (q0 := 0) (ci := 7) hx hb hml hown hg hN (hK.sub (tys' := TY cI cJ cZ) [0, 1, 2] rfl) (appLP hP0) (appLD hD0) hST hSR hS hA (p_isReached l hfl D cI cJ cZ ad b F G [] k) mw_575 mw_574 mw_576 mw_577 mw_110 pdv_X7_isReached ⟨Nat.le_of_ble_eq_true rfl, Nat.le_of_ble_eq_true rfl⟩ rfl rfl rfl hl.1 rfl (Nat.le_of_ble_eq_true rfl) dL_isReached_4 ⟨Nat.le_of_ble_eq_true rfl, Nat.le_of_ble_eq_true rfl⟩) hP0 hD0 hS hA (fun ce q9 H locs hpx hP hS h1 h2 h3 => ?_) (fun r9 H locs hp hP hS => ?_)
  · have hP : va_P D vwCl (MW (ao, .inl (cJ, 1, .inr (.inl g))) am cI cJ cZ cO 0 0 0 0 0 qo F2 G2) H := hP
    have hD : va_D A (MW (ao, .inl (cJ, 1, .inr (.inl g))) am cI cJ cZ cO 0 0 0 0 0 qo F2 G2) := appRD hD
    refine vx_catch (name := EIOB) (E := EIOB) hown [] ⟨0, 16, 19, 21⟩ (tableOf []) (by rw [htab]; rfl) (fun z hz => nomatch hz) (by decide) (by decide) (hg _ mw_549) (hN.use nw_107) h1 h2 h3 ?_
    refine lv_astore_n (lv' := [(3, .ref q9), (0, .ref (ad 0)), (1, .int k), (2, .ref ao)]) hx hb dL_isReached_19 rfl hl (by decide) rfl (fun ls hl => ?_)
    refine lv_iconst (v := 1) hx hb dL_isReached_20 (by decide) ?_
    exact W.iret (v := 1) hx hb hr (fun t ht hW => ⟨⟨1, (MW (ao, .inl (cJ, 1, .inr (.inl g))) am cI cJ cZ cO 0 0 0 0 0 qo F2 G2), rfl, ⟨rfl, rfl⟩, ⟨by rw [ht]; exact hP, va_K.moved hW.alike hK, hD⟩⟩, hS.F ht⟩) hS.2.2 dL_isReached_21
  · have hP : va_P D vwCl (MW (ao, .inl (cJ, 1, .inr (.inl g))) am cI cJ cZ cO 0 0 0 0 0 qo F2 G2) H := hP
    have hD : va_D A (MW (ao, .inl (cJ, 1, .inr (.inl g))) am cI cJ cZ cO 0 0 0 0 0 qo F2 G2) := appRD hD
    obtain ⟨u, hu⟩ := hp
    exact hu.elim
set_option maxHeartbeats 4000000 in
set_option maxRecDepth 100000 in
theorem h_edgeFrom (l : Launch) (hfl : l.stackTraces = false) (D : va_G) (cI cJ cZ : ClassId) (cO : ClassId) (ad : Nat → Nat) (b : Nat → Int32) (F : Nat → Nat → Int32) (G : Nat → Nat → Int64) (ao : Nat) (g : Nat → Int64) (am : Nat → Nat) (qo : Nat) (F2 : Nat → Nat → Int32) (G2 : Nat → Nat → Int64) (k : Int32) : CW l D (TO cI cJ cZ cO) yL_edgeFrom (.codeWith yL_edgeFrom cL_edgeFrom 4 (some Jvm.ClassFile.FieldType.int) [((0), (9), (12), (21))]) 8 1 6 (XW ad cI cJ 0 b F G ++ MW (ao, .inl (cJ, 1, .inr (.inl g))) am cI cJ cZ cO 0 0 0 0 0 qo F2 G2) [.ref (ad 0), .int k, .ref ao] (QI D (TO cI cJ cZ cO) (fun r u => r = 1 ∧ u = MW (ao, .inl (cJ, 1, .inr (.inl g))) am cI cJ cZ cO 0 0 0 0 0 qo F2 G2)) := by
  refine entW (by decide) (Nat.le_of_ble_eq_true rfl) ?_
  intro p e s m below meth c ls A hx hb hr hg hown hml hlocks hnm hP hK hD hS hA hN hl htab hST hSR hAw
  have hl : lv_has ls 4 [(0, .ref (ad 0)), (1, .int k), (2, .ref ao)] := hl
  refine lv_aload_n hx hb dL_edgeFrom_0 rfl (lv_at hl 2 rfl) ?_
  refine lv_iconst (v := 0) hx hb dL_edgeFrom_1 (by decide) ?_
  refine lv_aload_n hx hb dL_edgeFrom_2 rfl (lv_at hl 0 rfl) ?_
  refine lv_iload_n hx hb dL_edgeFrom_3 rfl (lv_at hl 1 rfl) ?_
  have hP0 : va_P D vwCl ((XW ad cI cJ 0 b F G ++ []) ++ MW (ao, .inl (cJ, 1, .inr (.inl g))) am cI cJ cZ cO 0 0 0 0 0 qo F2 G2) s.heap := by rw [List.append_nil]; exact hP
  have hD0 : va_D A ((XW ad cI cJ 0 b F G ++ []) ++ MW (ao, .inl (cJ, 1, .inr (.inl g))) am cI cJ cZ cO 0 0 0 0 0 qo F2 G2) := by rw [List.append_nil]; exact hD
  refine kXR (rXV (q0 := 0) (ci := 7) hx hb hml hown hg hN (hK.sub (tys' := TY cI cJ cZ) [0, 1, 2] rfl) (appLP hP0) (appLD hD0) hST hSR hS hA (p_edgeFrom l hfl D cI cJ cZ ad b F G [] k) mw_579 mw_578 mw_580 mw_581 mw_110 pdv_X7_edgeFrom ⟨Nat.le_of_ble_eq_true rfl, Nat.le_of_ble_eq_true rfl⟩ rfl rfl rfl hl.1 rfl (Nat.le_of_ble_eq_true rfl) dL_edgeFrom_4 ⟨Nat.le_of_ble_eq_true rfl, Nat.le_of_ble_eq_true rfl⟩) hP0 hD0 hS hA (fun ce q9 H locs hpx hP hS h1 h2 h3 => ?_) (fun r9 H locs hp hP hS => ?_)
  · have hP : va_P D vwCl (MW (ao, .inl (cJ, 1, .inr (.inl g))) am cI cJ cZ cO 0 0 0 0 0 qo F2 G2) H := hP
    have hD : va_D A (MW (ao, .inl (cJ, 1, .inr (.inl g))) am cI cJ cZ cO 0 0 0 0 0 qo F2 G2) := appRD hD
    refine vx_catch (name := EIOB) (E := EIOB) hown [] ⟨0, 9, 12, 21⟩ (tableOf []) (by rw [htab]; rfl) (fun z hz => nomatch hz) (by decide) (by decide) (hg _ mw_549) (hN.use nw_107) h1 h2 h3 ?_
    refine lv_astore_n (lv' := [(3, .ref q9), (0, .ref (ad 0)), (1, .int k), (2, .ref ao)]) hx hb dL_edgeFrom_12 rfl hl (by decide) rfl (fun ls hl => ?_)
    refine lv_iconst (v := 1) hx hb dL_edgeFrom_13 (by decide) ?_
    exact W.iret (v := 1) hx hb hr (fun t ht hW => ⟨⟨1, (MW (ao, .inl (cJ, 1, .inr (.inl g))) am cI cJ cZ cO 0 0 0 0 0 qo F2 G2), rfl, ⟨rfl, rfl⟩, ⟨by rw [ht]; exact hP, va_K.moved hW.alike hK, hD⟩⟩, hS.F ht⟩) hS.2.2 dL_edgeFrom_14
  · have hP : va_P D vwCl (MW (ao, .inl (cJ, 1, .inr (.inl g))) am cI cJ cZ cO 0 0 0 0 0 qo F2 G2) H := hP
    have hD : va_D A (MW (ao, .inl (cJ, 1, .inr (.inl g))) am cI cJ cZ cO 0 0 0 0 0 qo F2 G2) := appRD hD
    obtain ⟨u, hu⟩ := hp
    exact hu.elim
set_option maxHeartbeats 4000000 in
set_option maxRecDepth 100000 in
theorem h_edgeTo (l : Launch) (hfl : l.stackTraces = false) (D : va_G) (cI cJ cZ : ClassId) (cO : ClassId) (ad : Nat → Nat) (b : Nat → Int32) (F : Nat → Nat → Int32) (G : Nat → Nat → Int64) (ao : Nat) (g : Nat → Int64) (am : Nat → Nat) (qo : Nat) (F2 : Nat → Nat → Int32) (G2 : Nat → Nat → Int64) (k : Int32) : CW l D (TO cI cJ cZ cO) yL_edgeTo (.codeWith yL_edgeTo cL_edgeTo 4 (some Jvm.ClassFile.FieldType.int) [((0), (9), (12), (21))]) 8 1 6 (XW ad cI cJ 0 b F G ++ MW (ao, .inl (cJ, 1, .inr (.inl g))) am cI cJ cZ cO 0 0 0 0 0 qo F2 G2) [.ref (ad 0), .int k, .ref ao] (QI D (TO cI cJ cZ cO) (fun r u => r = 1 ∧ u = MW (ao, .inl (cJ, 1, .inr (.inl g))) am cI cJ cZ cO 0 0 0 0 0 qo F2 G2)) := by
  refine entW (by decide) (Nat.le_of_ble_eq_true rfl) ?_
  intro p e s m below meth c ls A hx hb hr hg hown hml hlocks hnm hP hK hD hS hA hN hl htab hST hSR hAw
  have hl : lv_has ls 4 [(0, .ref (ad 0)), (1, .int k), (2, .ref ao)] := hl
  refine lv_aload_n hx hb dL_edgeTo_0 rfl (lv_at hl 2 rfl) ?_
  refine lv_iconst (v := 0) hx hb dL_edgeTo_1 (by decide) ?_
  refine lv_aload_n hx hb dL_edgeTo_2 rfl (lv_at hl 0 rfl) ?_
  refine lv_iload_n hx hb dL_edgeTo_3 rfl (lv_at hl 1 rfl) ?_
  have hP0 : va_P D vwCl ((XW ad cI cJ 0 b F G ++ []) ++ MW (ao, .inl (cJ, 1, .inr (.inl g))) am cI cJ cZ cO 0 0 0 0 0 qo F2 G2) s.heap := by rw [List.append_nil]; exact hP
  have hD0 : va_D A ((XW ad cI cJ 0 b F G ++ []) ++ MW (ao, .inl (cJ, 1, .inr (.inl g))) am cI cJ cZ cO 0 0 0 0 0 qo F2 G2) := by rw [List.append_nil]; exact hD
  refine kXR (rXV (q0 := 0) (ci := 7) hx hb hml hown hg hN (hK.sub (tys' := TY cI cJ cZ) [0, 1, 2] rfl) (appLP hP0) (appLD hD0) hST hSR hS hA (p_edgeTo l hfl D cI cJ cZ ad b F G [] k) mw_583 mw_582 mw_584 mw_585 mw_110 pdv_X7_edgeTo ⟨Nat.le_of_ble_eq_true rfl, Nat.le_of_ble_eq_true rfl⟩ rfl rfl rfl hl.1 rfl (Nat.le_of_ble_eq_true rfl) dL_edgeTo_4 ⟨Nat.le_of_ble_eq_true rfl, Nat.le_of_ble_eq_true rfl⟩) hP0 hD0 hS hA (fun ce q9 H locs hpx hP hS h1 h2 h3 => ?_) (fun r9 H locs hp hP hS => ?_)
  · have hP : va_P D vwCl (MW (ao, .inl (cJ, 1, .inr (.inl g))) am cI cJ cZ cO 0 0 0 0 0 qo F2 G2) H := hP
    have hD : va_D A (MW (ao, .inl (cJ, 1, .inr (.inl g))) am cI cJ cZ cO 0 0 0 0 0 qo F2 G2) := appRD hD
    refine vx_catch (name := EIOB) (E := EIOB) hown [] ⟨0, 9, 12, 21⟩ (tableOf []) (by rw [htab]; rfl) (fun z hz => nomatch hz) (by decide) (by decide) (hg _ mw_549) (hN.use nw_107) h1 h2 h3 ?_
    refine lv_astore_n (lv' := [(3, .ref q9), (0, .ref (ad 0)), (1, .int k), (2, .ref ao)]) hx hb dL_edgeTo_12 rfl hl (by decide) rfl (fun ls hl => ?_)
    refine lv_iconst (v := 1) hx hb dL_edgeTo_13 (by decide) ?_
    exact W.iret (v := 1) hx hb hr (fun t ht hW => ⟨⟨1, (MW (ao, .inl (cJ, 1, .inr (.inl g))) am cI cJ cZ cO 0 0 0 0 0 qo F2 G2), rfl, ⟨rfl, rfl⟩, ⟨by rw [ht]; exact hP, va_K.moved hW.alike hK, hD⟩⟩, hS.F ht⟩) hS.2.2 dL_edgeTo_14
  · have hP : va_P D vwCl (MW (ao, .inl (cJ, 1, .inr (.inl g))) am cI cJ cZ cO 0 0 0 0 0 qo F2 G2) H := hP
    have hD : va_D A (MW (ao, .inl (cJ, 1, .inr (.inl g))) am cI cJ cZ cO 0 0 0 0 0 qo F2 G2) := appRD hD
    obtain ⟨u, hu⟩ := hp
    exact hu.elim
set_option maxHeartbeats 4000000 in
set_option maxRecDepth 100000 in
theorem h_dominates (l : Launch) (hfl : l.stackTraces = false) (D : va_G) (cI cJ cZ : ClassId) (cO : ClassId) (ad : Nat → Nat) (b : Nat → Int32) (F : Nat → Nat → Int32) (G : Nat → Nat → Int64) (ao : Nat) (g : Nat → Int64) (am : Nat → Nat) (qo : Nat) (F2 : Nat → Nat → Int32) (G2 : Nat → Nat → Int64) (k : Int32) (k2 : Int32) : CW l D (TO cI cJ cZ cO) yL_dominates (.codeWith yL_dominates cL_dominates 5 (some Jvm.ClassFile.FieldType.int) [((0), (17), (20), (21))]) 8 1 6 (XW ad cI cJ 0 b F G ++ MW (ao, .inl (cJ, 1, .inr (.inl g))) am cI cJ cZ cO 0 0 0 0 0 qo F2 G2) [.ref (ad 0), .int k, .int k2, .ref ao] (QI D (TO cI cJ cZ cO) (fun r u => r = 1 ∧ u = MW (ao, .inl (cJ, 1, .inr (.inl g))) am cI cJ cZ cO 0 0 0 0 0 qo F2 G2)) := by
  refine entW (by decide) (Nat.le_of_ble_eq_true rfl) ?_
  intro p e s m below meth c ls A hx hb hr hg hown hml hlocks hnm hP hK hD hS hA hN hl htab hST hSR hAw
  have hl : lv_has ls 5 [(0, .ref (ad 0)), (1, .int k), (2, .int k2), (3, .ref ao)] := hl
  refine lv_aload_n hx hb dL_dominates_0 rfl (lv_at hl 3 rfl) ?_
  refine lv_iconst (v := 0) hx hb dL_dominates_1 (by decide) ?_
  refine lv_aload_n hx hb dL_dominates_2 rfl (lv_at hl 0 rfl) ?_
  refine lv_iload_n hx hb dL_dominates_3 rfl (lv_at hl 1 rfl) ?_
  refine lv_iload_n hx hb dL_dominates_4 rfl (lv_at hl 2 rfl) ?_
  have hP0 : va_P D vwCl ((XW ad cI cJ 0 b F G ++ []) ++ MW (ao, .inl (cJ, 1, .inr (.inl g))) am cI cJ cZ cO 0 0 0 0 0 qo F2 G2) s.heap := by rw [List.append_nil]; exact hP
  have hD0 : va_D A ((XW ad cI cJ 0 b F G ++ []) ++ MW (ao, .inl (cJ, 1, .inr (.inl g))) am cI cJ cZ cO 0 0 0 0 0 qo F2 G2) := by rw [List.append_nil]; exact hD
  refine kXR (rXV (q0 := 0) (ci := 7) hx hb hml hown hg hN (hK.sub (tys' := TY cI cJ cZ) [0, 1, 2] rfl) (appLP hP0) (appLD hD0) hST hSR hS hA (p_dominates l hfl D cI cJ cZ ad b F G [] k k2) mw_587 mw_586 mw_588 mw_589 mw_110 pdv_X7_dominates ⟨Nat.le_of_ble_eq_true rfl, Nat.le_of_ble_eq_true rfl⟩ rfl rfl rfl hl.1 rfl (Nat.le_of_ble_eq_true rfl) dL_dominates_5 ⟨Nat.le_of_ble_eq_true rfl, Nat.le_of_ble_eq_true rfl⟩) hP0 hD0 hS hA (fun ce q9 H locs hpx hP hS h1 h2 h3 => ?_) (fun r9 H locs hp hP hS => ?_)
  · have hP : va_P D vwCl (MW (ao, .inl (cJ, 1, .inr (.inl g))) am cI cJ cZ cO 0 0 0 0 0 qo F2 G2) H := hP
    have hD : va_D A (MW (ao, .inl (cJ, 1, .inr (.inl g))) am cI cJ cZ cO 0 0 0 0 0 qo F2 G2) := appRD hD
    refine vx_catch (name := EIOB) (E := EIOB) hown [] ⟨0, 17, 20, 21⟩ (tableOf []) (by rw [htab]; rfl) (fun z hz => nomatch hz) (by decide) (by decide) (hg _ mw_549) (hN.use nw_107) h1 h2 h3 ?_
    refine lv_astore (lv' := [(4, .ref q9), (0, .ref (ad 0)), (1, .int k), (2, .int k2), (3, .ref ao)]) hx hb dL_dominates_20 hl (by decide) rfl (fun ls hl => ?_)
    refine lv_iconst (v := 1) hx hb dL_dominates_22 (by decide) ?_
    exact W.iret (v := 1) hx hb hr (fun t ht hW => ⟨⟨1, (MW (ao, .inl (cJ, 1, .inr (.inl g))) am cI cJ cZ cO 0 0 0 0 0 qo F2 G2), rfl, ⟨rfl, rfl⟩, ⟨by rw [ht]; exact hP, va_K.moved hW.alike hK, hD⟩⟩, hS.F ht⟩) hS.2.2 dL_dominates_23
  · have hP : va_P D vwCl (MW (ao, .inl (cJ, 1, .inr (.inl g))) am cI cJ cZ cO 0 0 0 0 0 qo F2 G2) H := hP
    have hD : va_D A (MW (ao, .inl (cJ, 1, .inr (.inl g))) am cI cJ cZ cO 0 0 0 0 0 qo F2 G2) := appRD hD
    obtain ⟨u, hu⟩ := hp
    exact hu.elim
set_option maxHeartbeats 4000000 in
set_option maxRecDepth 100000 in
theorem h_parentOf (l : Launch) (hfl : l.stackTraces = false) (D : va_G) (cI cJ cZ : ClassId) (cO : ClassId) (ad : Nat → Nat) (b : Nat → Int32) (F : Nat → Nat → Int32) (G : Nat → Nat → Int64) (ao : Nat) (g : Nat → Int64) (am : Nat → Nat) (qo : Nat) (F2 : Nat → Nat → Int32) (G2 : Nat → Nat → Int64) (k : Int32) : CW l D (TO cI cJ cZ cO) yL_parentOf (.codeWith yL_parentOf cL_parentOf 4 (some Jvm.ClassFile.FieldType.int) [((0), (9), (12), (21))]) 8 1 6 (XW ad cI cJ 0 b F G ++ MW (ao, .inl (cJ, 1, .inr (.inl g))) am cI cJ cZ cO 0 0 0 0 0 qo F2 G2) [.ref (ad 0), .int k, .ref ao] (QI D (TO cI cJ cZ cO) (fun r u => r = 1 ∧ u = MW (ao, .inl (cJ, 1, .inr (.inl g))) am cI cJ cZ cO 0 0 0 0 0 qo F2 G2)) := by
  refine entW (by decide) (Nat.le_of_ble_eq_true rfl) ?_
  intro p e s m below meth c ls A hx hb hr hg hown hml hlocks hnm hP hK hD hS hA hN hl htab hST hSR hAw
  have hl : lv_has ls 4 [(0, .ref (ad 0)), (1, .int k), (2, .ref ao)] := hl
  refine lv_aload_n hx hb dL_parentOf_0 rfl (lv_at hl 2 rfl) ?_
  refine lv_iconst (v := 0) hx hb dL_parentOf_1 (by decide) ?_
  refine lv_aload_n hx hb dL_parentOf_2 rfl (lv_at hl 0 rfl) ?_
  refine lv_iload_n hx hb dL_parentOf_3 rfl (lv_at hl 1 rfl) ?_
  have hP0 : va_P D vwCl ((XW ad cI cJ 0 b F G ++ []) ++ MW (ao, .inl (cJ, 1, .inr (.inl g))) am cI cJ cZ cO 0 0 0 0 0 qo F2 G2) s.heap := by rw [List.append_nil]; exact hP
  have hD0 : va_D A ((XW ad cI cJ 0 b F G ++ []) ++ MW (ao, .inl (cJ, 1, .inr (.inl g))) am cI cJ cZ cO 0 0 0 0 0 qo F2 G2) := by rw [List.append_nil]; exact hD
  refine kXR (rXV (q0 := 0) (ci := 7) hx hb hml hown hg hN (hK.sub (tys' := TY cI cJ cZ) [0, 1, 2] rfl) (appLP hP0) (appLD hD0) hST hSR hS hA (p_parentOf l hfl D cI cJ cZ ad b F G [] k) mw_591 mw_590 mw_592 mw_593 mw_110 pdv_X7_parentOf ⟨Nat.le_of_ble_eq_true rfl, Nat.le_of_ble_eq_true rfl⟩ rfl rfl rfl hl.1 rfl (Nat.le_of_ble_eq_true rfl) dL_parentOf_4 ⟨Nat.le_of_ble_eq_true rfl, Nat.le_of_ble_eq_true rfl⟩) hP0 hD0 hS hA (fun ce q9 H locs hpx hP hS h1 h2 h3 => ?_) (fun r9 H locs hp hP hS => ?_)
  · have hP : va_P D vwCl (MW (ao, .inl (cJ, 1, .inr (.inl g))) am cI cJ cZ cO 0 0 0 0 0 qo F2 G2) H := hP
    have hD : va_D A (MW (ao, .inl (cJ, 1, .inr (.inl g))) am cI cJ cZ cO 0 0 0 0 0 qo F2 G2) := appRD hD
    refine vx_catch (name := EIOB) (E := EIOB) hown [] ⟨0, 9, 12, 21⟩ (tableOf []) (by rw [htab]; rfl) (fun z hz => nomatch hz) (by decide) (by decide) (hg _ mw_549) (hN.use nw_107) h1 h2 h3 ?_
    refine lv_astore_n (lv' := [(3, .ref q9), (0, .ref (ad 0)), (1, .int k), (2, .ref ao)]) hx hb dL_parentOf_12 rfl hl (by decide) rfl (fun ls hl => ?_)
    refine lv_iconst (v := 1) hx hb dL_parentOf_13 (by decide) ?_
    exact W.iret (v := 1) hx hb hr (fun t ht hW => ⟨⟨1, (MW (ao, .inl (cJ, 1, .inr (.inl g))) am cI cJ cZ cO 0 0 0 0 0 qo F2 G2), rfl, ⟨rfl, rfl⟩, ⟨by rw [ht]; exact hP, va_K.moved hW.alike hK, hD⟩⟩, hS.F ht⟩) hS.2.2 dL_parentOf_14
  · have hP : va_P D vwCl (MW (ao, .inl (cJ, 1, .inr (.inl g))) am cI cJ cZ cO 0 0 0 0 0 qo F2 G2) H := hP
    have hD : va_D A (MW (ao, .inl (cJ, 1, .inr (.inl g))) am cI cJ cZ cO 0 0 0 0 0 qo F2 G2) := appRD hD
    obtain ⟨u, hu⟩ := hp
    exact hu.elim
set_option maxHeartbeats 4000000 in
set_option maxRecDepth 100000 in
theorem h_comesBehind (l : Launch) (hfl : l.stackTraces = false) (D : va_G) (cI cJ cZ : ClassId) (cO : ClassId) (ad : Nat → Nat) (b : Nat → Int32) (F : Nat → Nat → Int32) (G : Nat → Nat → Int64) (ao : Nat) (g : Nat → Int64) (am : Nat → Nat) (qo : Nat) (F2 : Nat → Nat → Int32) (G2 : Nat → Nat → Int64) (k : Int32) (k2 : Int32) : CW l D (TO cI cJ cZ cO) yL_comesBehind (.codeWith yL_comesBehind cL_comesBehind 5 (some Jvm.ClassFile.FieldType.int) [((0), (17), (20), (21))]) 8 1 6 (XW ad cI cJ 0 b F G ++ MW (ao, .inl (cJ, 1, .inr (.inl g))) am cI cJ cZ cO 0 0 0 0 0 qo F2 G2) [.ref (ad 0), .int k, .int k2, .ref ao] (QI D (TO cI cJ cZ cO) (fun r u => r = 1 ∧ u = MW (ao, .inl (cJ, 1, .inr (.inl g))) am cI cJ cZ cO 0 0 0 0 0 qo F2 G2)) := by
  refine entW (by decide) (Nat.le_of_ble_eq_true rfl) ?_
  intro p e s m below meth c ls A hx hb hr hg hown hml hlocks hnm hP hK hD hS hA hN hl htab hST hSR hAw
  have hl : lv_has ls 5 [(0, .ref (ad 0)), (1, .int k), (2, .int k2), (3, .ref ao)] := hl
  refine lv_aload_n hx hb dL_comesBehind_0 rfl (lv_at hl 3 rfl) ?_
  refine lv_iconst (v := 0) hx hb dL_comesBehind_1 (by decide) ?_
  refine lv_aload_n hx hb dL_comesBehind_2 rfl (lv_at hl 0 rfl) ?_
  refine lv_iload_n hx hb dL_comesBehind_3 rfl (lv_at hl 1 rfl) ?_
  refine lv_iload_n hx hb dL_comesBehind_4 rfl (lv_at hl 2 rfl) ?_
  have hP0 : va_P D vwCl ((XW ad cI cJ 0 b F G ++ []) ++ MW (ao, .inl (cJ, 1, .inr (.inl g))) am cI cJ cZ cO 0 0 0 0 0 qo F2 G2) s.heap := by rw [List.append_nil]; exact hP
  have hD0 : va_D A ((XW ad cI cJ 0 b F G ++ []) ++ MW (ao, .inl (cJ, 1, .inr (.inl g))) am cI cJ cZ cO 0 0 0 0 0 qo F2 G2) := by rw [List.append_nil]; exact hD
  refine kXR (rXV (q0 := 0) (ci := 7) hx hb hml hown hg hN (hK.sub (tys' := TY cI cJ cZ) [0, 1, 2] rfl) (appLP hP0) (appLD hD0) hST hSR hS hA (p_comesBehind l hfl D cI cJ cZ ad b F G [] k k2) mw_595 mw_594 mw_596 mw_597 mw_110 pdv_X7_comesBehind ⟨Nat.le_of_ble_eq_true rfl, Nat.le_of_ble_eq_true rfl⟩ rfl rfl rfl hl.1 rfl (Nat.le_of_ble_eq_true rfl) dL_comesBehind_5 ⟨Nat.le_of_ble_eq_true rfl, Nat.le_of_ble_eq_true rfl⟩) hP0 hD0 hS hA (fun ce q9 H locs hpx hP hS h1 h2 h3 => ?_) (fun r9 H locs hp hP hS => ?_)
  · have hP : va_P D vwCl (MW (ao, .inl (cJ, 1, .inr (.inl g))) am cI cJ cZ cO 0 0 0 0 0 qo F2 G2) H := hP
    have hD : va_D A (MW (ao, .inl (cJ, 1, .inr (.inl g))) am cI cJ cZ cO 0 0 0 0 0 qo F2 G2) := appRD hD
    refine vx_catch (name := EIOB) (E := EIOB) hown [] ⟨0, 17, 20, 21⟩ (tableOf []) (by rw [htab]; rfl) (fun z hz => nomatch hz) (by decide) (by decide) (hg _ mw_549) (hN.use nw_107) h1 h2 h3 ?_
    refine lv_astore (lv' := [(4, .ref q9), (0, .ref (ad 0)), (1, .int k), (2, .int k2), (3, .ref ao)]) hx hb dL_comesBehind_20 hl (by decide) rfl (fun ls hl => ?_)
    refine lv_iconst (v := 1) hx hb dL_comesBehind_22 (by decide) ?_
    exact W.iret (v := 1) hx hb hr (fun t ht hW => ⟨⟨1, (MW (ao, .inl (cJ, 1, .inr (.inl g))) am cI cJ cZ cO 0 0 0 0 0 qo F2 G2), rfl, ⟨rfl, rfl⟩, ⟨by rw [ht]; exact hP, va_K.moved hW.alike hK, hD⟩⟩, hS.F ht⟩) hS.2.2 dL_comesBehind_23
  · have hP : va_P D vwCl (MW (ao, .inl (cJ, 1, .inr (.inl g))) am cI cJ cZ cO 0 0 0 0 0 qo F2 G2) H := hP
    have hD : va_D A (MW (ao, .inl (cJ, 1, .inr (.inl g))) am cI cJ cZ cO 0 0 0 0 0 qo F2 G2) := appRD hD
    obtain ⟨u, hu⟩ := hp
    exact hu.elim
set_option maxHeartbeats 4000000 in
set_option maxRecDepth 100000 in
theorem h_isBack (l : Launch) (hfl : l.stackTraces = false) (D : va_G) (cI cJ cZ : ClassId) (cO : ClassId) (ad : Nat → Nat) (b : Nat → Int32) (F : Nat → Nat → Int32) (G : Nat → Nat → Int64) (ao : Nat) (g : Nat → Int64) (am : Nat → Nat) (qo : Nat) (F2 : Nat → Nat → Int32) (G2 : Nat → Nat → Int64) (k : Int32) : CW l D (TO cI cJ cZ cO) yL_isBack (.codeWith yL_isBack cL_isBack 4 (some Jvm.ClassFile.FieldType.int) [((0), (16), (19), (21))]) 8 1 6 (XW ad cI cJ 0 b F G ++ MW (ao, .inl (cJ, 1, .inr (.inl g))) am cI cJ cZ cO 0 0 0 0 0 qo F2 G2) [.ref (ad 0), .int k, .ref ao] (QI D (TO cI cJ cZ cO) (fun r u => r = 1 ∧ u = MW (ao, .inl (cJ, 1, .inr (.inl g))) am cI cJ cZ cO 0 0 0 0 0 qo F2 G2)) := by
  refine entW (by decide) (Nat.le_of_ble_eq_true rfl) ?_
  intro p e s m below meth c ls A hx hb hr hg hown hml hlocks hnm hP hK hD hS hA hN hl htab hST hSR hAw
  have hl : lv_has ls 4 [(0, .ref (ad 0)), (1, .int k), (2, .ref ao)] := hl
  refine lv_aload_n hx hb dL_isBack_0 rfl (lv_at hl 2 rfl) ?_
  refine lv_iconst (v := 0) hx hb dL_isBack_1 (by decide) ?_
  refine lv_aload_n hx hb dL_isBack_2 rfl (lv_at hl 0 rfl) ?_
  refine lv_iload_n hx hb dL_isBack_3 rfl (lv_at hl 1 rfl) ?_
  have hP0 : va_P D vwCl ((XW ad cI cJ 0 b F G ++ []) ++ MW (ao, .inl (cJ, 1, .inr (.inl g))) am cI cJ cZ cO 0 0 0 0 0 qo F2 G2) s.heap := by rw [List.append_nil]; exact hP
  have hD0 : va_D A ((XW ad cI cJ 0 b F G ++ []) ++ MW (ao, .inl (cJ, 1, .inr (.inl g))) am cI cJ cZ cO 0 0 0 0 0 qo F2 G2) := by rw [List.append_nil]; exact hD
  refine kXR (rXV (q0 := 0) (ci := 7) hx hb hml hown hg hN (hK.sub (tys' := TY cI cJ cZ) [0, 1, 2] rfl) (appLP hP0) (appLD hD0) hST hSR hS hA (p_isBack l hfl D cI cJ cZ ad b F G [] k) mw_599 mw_598 mw_600 mw_601 mw_110 pdv_X7_isBack ⟨Nat.le_of_ble_eq_true rfl, Nat.le_of_ble_eq_true rfl⟩ rfl rfl rfl hl.1 rfl (Nat.le_of_ble_eq_true rfl) dL_isBack_4 ⟨Nat.le_of_ble_eq_true rfl, Nat.le_of_ble_eq_true rfl⟩) hP0 hD0 hS hA (fun ce q9 H locs hpx hP hS h1 h2 h3 => ?_) (fun r9 H locs hp hP hS => ?_)
  · have hP : va_P D vwCl (MW (ao, .inl (cJ, 1, .inr (.inl g))) am cI cJ cZ cO 0 0 0 0 0 qo F2 G2) H := hP
    have hD : va_D A (MW (ao, .inl (cJ, 1, .inr (.inl g))) am cI cJ cZ cO 0 0 0 0 0 qo F2 G2) := appRD hD
    refine vx_catch (name := EIOB) (E := EIOB) hown [] ⟨0, 16, 19, 21⟩ (tableOf []) (by rw [htab]; rfl) (fun z hz => nomatch hz) (by decide) (by decide) (hg _ mw_549) (hN.use nw_107) h1 h2 h3 ?_
    refine lv_astore_n (lv' := [(3, .ref q9), (0, .ref (ad 0)), (1, .int k), (2, .ref ao)]) hx hb dL_isBack_19 rfl hl (by decide) rfl (fun ls hl => ?_)
    refine lv_iconst (v := 1) hx hb dL_isBack_20 (by decide) ?_
    exact W.iret (v := 1) hx hb hr (fun t ht hW => ⟨⟨1, (MW (ao, .inl (cJ, 1, .inr (.inl g))) am cI cJ cZ cO 0 0 0 0 0 qo F2 G2), rfl, ⟨rfl, rfl⟩, ⟨by rw [ht]; exact hP, va_K.moved hW.alike hK, hD⟩⟩, hS.F ht⟩) hS.2.2 dL_isBack_21
  · have hP : va_P D vwCl (MW (ao, .inl (cJ, 1, .inr (.inl g))) am cI cJ cZ cO 0 0 0 0 0 qo F2 G2) H := hP
    have hD : va_D A (MW (ao, .inl (cJ, 1, .inr (.inl g))) am cI cJ cZ cO 0 0 0 0 0 qo F2 G2) := appRD hD
    obtain ⟨u, hu⟩ := hp
    exact hu.elim
set_option maxHeartbeats 4000000 in
set_option maxRecDepth 100000 in
theorem h_loopSize (l : Launch) (hfl : l.stackTraces = false) (D : va_G) (cI cJ cZ : ClassId) (cO : ClassId) (ad : Nat → Nat) (b : Nat → Int32) (F : Nat → Nat → Int32) (G : Nat → Nat → Int64) (ao : Nat) (g : Nat → Int64) (am : Nat → Nat) (qo : Nat) (F2 : Nat → Nat → Int32) (G2 : Nat → Nat → Int64) (k : Int32) : CW l D (TO cI cJ cZ cO) yL_loopSize (.codeWith yL_loopSize cL_loopSize 4 (some Jvm.ClassFile.FieldType.int) [((0), (9), (12), (21))]) 8 1 6 (XW ad cI cJ 0 b F G ++ MW (ao, .inl (cJ, 1, .inr (.inl g))) am cI cJ cZ cO 0 0 0 0 0 qo F2 G2) [.ref (ad 0), .int k, .ref ao] (QI D (TO cI cJ cZ cO) (fun r u => r = 1 ∧ u = MW (ao, .inl (cJ, 1, .inr (.inl g))) am cI cJ cZ cO 0 0 0 0 0 qo F2 G2)) := by
  refine entW (by decide) (Nat.le_of_ble_eq_true rfl) ?_
  intro p e s m below meth c ls A hx hb hr hg hown hml hlocks hnm hP hK hD hS hA hN hl htab hST hSR hAw
  have hl : lv_has ls 4 [(0, .ref (ad 0)), (1, .int k), (2, .ref ao)] := hl
  refine lv_aload_n hx hb dL_loopSize_0 rfl (lv_at hl 2 rfl) ?_
  refine lv_iconst (v := 0) hx hb dL_loopSize_1 (by decide) ?_
  refine lv_aload_n hx hb dL_loopSize_2 rfl (lv_at hl 0 rfl) ?_
  refine lv_iload_n hx hb dL_loopSize_3 rfl (lv_at hl 1 rfl) ?_
  have hP0 : va_P D vwCl ((XW ad cI cJ 0 b F G ++ []) ++ MW (ao, .inl (cJ, 1, .inr (.inl g))) am cI cJ cZ cO 0 0 0 0 0 qo F2 G2) s.heap := by rw [List.append_nil]; exact hP
  have hD0 : va_D A ((XW ad cI cJ 0 b F G ++ []) ++ MW (ao, .inl (cJ, 1, .inr (.inl g))) am cI cJ cZ cO 0 0 0 0 0 qo F2 G2) := by rw [List.append_nil]; exact hD
  refine kXR (rXV (q0 := 0) (ci := 7) hx hb hml hown hg hN (hK.sub (tys' := TY cI cJ cZ) [0, 1, 2] rfl) (appLP hP0) (appLD hD0) hST hSR hS hA (p_loopSize l hfl D cI cJ cZ ad b F G [] k) mw_603 mw_602 mw_604 mw_605 mw_110 pdv_X7_loopSize ⟨Nat.le_of_ble_eq_true rfl, Nat.le_of_ble_eq_true rfl⟩ rfl rfl rfl hl.1 rfl (Nat.le_of_ble_eq_true rfl) dL_loopSize_4 ⟨Nat.le_of_ble_eq_true rfl, Nat.le_of_ble_eq_true rfl⟩) hP0 hD0 hS hA (fun ce q9 H locs hpx hP hS h1 h2 h3 => ?_) (fun r9 H locs hp hP hS => ?_)
  · have hP : va_P D vwCl (MW (ao, .inl (cJ, 1, .inr (.inl g))) am cI cJ cZ cO 0 0 0 0 0 qo F2 G2) H := hP
    have hD : va_D A (MW (ao, .inl (cJ, 1, .inr (.inl g))) am cI cJ cZ cO 0 0 0 0 0 qo F2 G2) := appRD hD
    refine vx_catch (name := EIOB) (E := EIOB) hown [] ⟨0, 9, 12, 21⟩ (tableOf []) (by rw [htab]; rfl) (fun z hz => nomatch hz) (by decide) (by decide) (hg _ mw_549) (hN.use nw_107) h1 h2 h3 ?_
    refine lv_astore_n (lv' := [(3, .ref q9), (0, .ref (ad 0)), (1, .int k), (2, .ref ao)]) hx hb dL_loopSize_12 rfl hl (by decide) rfl (fun ls hl => ?_)
    refine lv_iconst (v := 1) hx hb dL_loopSize_13 (by decide) ?_
    exact W.iret (v := 1) hx hb hr (fun t ht hW => ⟨⟨1, (MW (ao, .inl (cJ, 1, .inr (.inl g))) am cI cJ cZ cO 0 0 0 0 0 qo F2 G2), rfl, ⟨rfl, rfl⟩, ⟨by rw [ht]; exact hP, va_K.moved hW.alike hK, hD⟩⟩, hS.F ht⟩) hS.2.2 dL_loopSize_14
  · have hP : va_P D vwCl (MW (ao, .inl (cJ, 1, .inr (.inl g))) am cI cJ cZ cO 0 0 0 0 0 qo F2 G2) H := hP
    have hD : va_D A (MW (ao, .inl (cJ, 1, .inr (.inl g))) am cI cJ cZ cO 0 0 0 0 0 qo F2 G2) := appRD hD
    obtain ⟨u, hu⟩ := hp
    exact hu.elim
set_option maxHeartbeats 4000000 in
set_option maxRecDepth 100000 in
theorem h_depthOf (l : Launch) (hfl : l.stackTraces = false) (D : va_G) (cI cJ cZ : ClassId) (cO : ClassId) (ad : Nat → Nat) (b : Nat → Int32) (F : Nat → Nat → Int32) (G : Nat → Nat → Int64) (ao : Nat) (g : Nat → Int64) (am : Nat → Nat) (qo : Nat) (F2 : Nat → Nat → Int32) (G2 : Nat → Nat → Int64) (k : Int32) : CW l D (TO cI cJ cZ cO) yL_depthOf (.codeWith yL_depthOf cL_depthOf 4 (some Jvm.ClassFile.FieldType.int) [((0), (9), (12), (21))]) 8 1 6 (XW ad cI cJ 0 b F G ++ MW (ao, .inl (cJ, 1, .inr (.inl g))) am cI cJ cZ cO 0 0 0 0 0 qo F2 G2) [.ref (ad 0), .int k, .ref ao] (QI D (TO cI cJ cZ cO) (fun r u => r = 1 ∧ u = MW (ao, .inl (cJ, 1, .inr (.inl g))) am cI cJ cZ cO 0 0 0 0 0 qo F2 G2)) := by
  refine entW (by decide) (Nat.le_of_ble_eq_true rfl) ?_
  intro p e s m below meth c ls A hx hb hr hg hown hml hlocks hnm hP hK hD hS hA hN hl htab hST hSR hAw
  have hl : lv_has ls 4 [(0, .ref (ad 0)), (1, .int k), (2, .ref ao)] := hl
  refine lv_aload_n hx hb dL_depthOf_0 rfl (lv_at hl 2 rfl) ?_
  refine lv_iconst (v := 0) hx hb dL_depthOf_1 (by decide) ?_
  refine lv_aload_n hx hb dL_depthOf_2 rfl (lv_at hl 0 rfl) ?_
  refine lv_iload_n hx hb dL_depthOf_3 rfl (lv_at hl 1 rfl) ?_
  have hP0 : va_P D vwCl ((XW ad cI cJ 0 b F G ++ []) ++ MW (ao, .inl (cJ, 1, .inr (.inl g))) am cI cJ cZ cO 0 0 0 0 0 qo F2 G2) s.heap := by rw [List.append_nil]; exact hP
  have hD0 : va_D A ((XW ad cI cJ 0 b F G ++ []) ++ MW (ao, .inl (cJ, 1, .inr (.inl g))) am cI cJ cZ cO 0 0 0 0 0 qo F2 G2) := by rw [List.append_nil]; exact hD
  refine kXR (rXV (q0 := 0) (ci := 7) hx hb hml hown hg hN (hK.sub (tys' := TY cI cJ cZ) [0, 1, 2] rfl) (appLP hP0) (appLD hD0) hST hSR hS hA (p_depthOf l hfl D cI cJ cZ ad b F G [] k) mw_607 mw_606 mw_608 mw_609 mw_110 pdv_X7_depthOf ⟨Nat.le_of_ble_eq_true rfl, Nat.le_of_ble_eq_true rfl⟩ rfl rfl rfl hl.1 rfl (Nat.le_of_ble_eq_true rfl) dL_depthOf_4 ⟨Nat.le_of_ble_eq_true rfl, Nat.le_of_ble_eq_true rfl⟩) hP0 hD0 hS hA (fun ce q9 H locs hpx hP hS h1 h2 h3 => ?_) (fun r9 H locs hp hP hS => ?_)
  · have hP : va_P D vwCl (MW (ao, .inl (cJ, 1, .inr (.inl g))) am cI cJ cZ cO 0 0 0 0 0 qo F2 G2) H := hP
    have hD : va_D A (MW (ao, .inl (cJ, 1, .inr (.inl g))) am cI cJ cZ cO 0 0 0 0 0 qo F2 G2) := appRD hD
    refine vx_catch (name := EIOB) (E := EIOB) hown [] ⟨0, 9, 12, 21⟩ (tableOf []) (by rw [htab]; rfl) (fun z hz => nomatch hz) (by decide) (by decide) (hg _ mw_549) (hN.use nw_107) h1 h2 h3 ?_
    refine lv_astore_n (lv' := [(3, .ref q9), (0, .ref (ad 0)), (1, .int k), (2, .ref ao)]) hx hb dL_depthOf_12 rfl hl (by decide) rfl (fun ls hl => ?_)
    refine lv_iconst (v := 1) hx hb dL_depthOf_13 (by decide) ?_
    exact W.iret (v := 1) hx hb hr (fun t ht hW => ⟨⟨1, (MW (ao, .inl (cJ, 1, .inr (.inl g))) am cI cJ cZ cO 0 0 0 0 0 qo F2 G2), rfl, ⟨rfl, rfl⟩, ⟨by rw [ht]; exact hP, va_K.moved hW.alike hK, hD⟩⟩, hS.F ht⟩) hS.2.2 dL_depthOf_14
  · have hP : va_P D vwCl (MW (ao, .inl (cJ, 1, .inr (.inl g))) am cI cJ cZ cO 0 0 0 0 0 qo F2 G2) H := hP
    have hD : va_D A (MW (ao, .inl (cJ, 1, .inr (.inl g))) am cI cJ cZ cO 0 0 0 0 0 qo F2 G2) := appRD hD
    obtain ⟨u, hu⟩ := hp
    exact hu.elim
set_option maxHeartbeats 4000000 in
set_option maxRecDepth 100000 in
theorem h_liveIn (l : Launch) (hfl : l.stackTraces = false) (D : va_G) (cI cJ cZ : ClassId) (cO : ClassId) (ad : Nat → Nat) (b : Nat → Int32) (F : Nat → Nat → Int32) (G : Nat → Nat → Int64) (ao : Nat) (g : Nat → Int64) (am : Nat → Nat) (qo : Nat) (F2 : Nat → Nat → Int32) (G2 : Nat → Nat → Int64) (k : Int32) : CW l D (TO cI cJ cZ cO) yL_liveIn (.codeWith yL_liveIn cL_liveIn 4 (some Jvm.ClassFile.FieldType.int) [((0), (9), (12), (21))]) 8 1 6 (XW ad cI cJ 0 b F G ++ MW (ao, .inl (cJ, 1, .inr (.inl g))) am cI cJ cZ cO 0 0 0 0 0 qo F2 G2) [.ref (ad 0), .int k, .ref ao] (QI D (TO cI cJ cZ cO) (fun r u => r = 1 ∧ u = MW (ao, .inl (cJ, 1, .inr (.inl g))) am cI cJ cZ cO 0 0 0 0 0 qo F2 G2)) := by
  refine entW (by decide) (Nat.le_of_ble_eq_true rfl) ?_
  intro p e s m below meth c ls A hx hb hr hg hown hml hlocks hnm hP hK hD hS hA hN hl htab hST hSR hAw
  have hl : lv_has ls 4 [(0, .ref (ad 0)), (1, .int k), (2, .ref ao)] := hl
  refine lv_aload_n hx hb dL_liveIn_0 rfl (lv_at hl 2 rfl) ?_
  refine lv_iconst (v := 0) hx hb dL_liveIn_1 (by decide) ?_
  refine lv_aload_n hx hb dL_liveIn_2 rfl (lv_at hl 0 rfl) ?_
  refine lv_iload_n hx hb dL_liveIn_3 rfl (lv_at hl 1 rfl) ?_
  have hP0 : va_P D vwCl ((XW ad cI cJ 0 b F G ++ []) ++ MW (ao, .inl (cJ, 1, .inr (.inl g))) am cI cJ cZ cO 0 0 0 0 0 qo F2 G2) s.heap := by rw [List.append_nil]; exact hP
  have hD0 : va_D A ((XW ad cI cJ 0 b F G ++ []) ++ MW (ao, .inl (cJ, 1, .inr (.inl g))) am cI cJ cZ cO 0 0 0 0 0 qo F2 G2) := by rw [List.append_nil]; exact hD
  refine kXR (rXV (q0 := 0) (ci := 7) hx hb hml hown hg hN (hK.sub (tys' := TY cI cJ cZ) [0, 1, 2] rfl) (appLP hP0) (appLD hD0) hST hSR hS hA (p_liveIn l hfl D cI cJ cZ ad b F G [] k) mw_611 mw_610 mw_612 mw_613 mw_110 pdv_X7_liveIn ⟨Nat.le_of_ble_eq_true rfl, Nat.le_of_ble_eq_true rfl⟩ rfl rfl rfl hl.1 rfl (Nat.le_of_ble_eq_true rfl) dL_liveIn_4 ⟨Nat.le_of_ble_eq_true rfl, Nat.le_of_ble_eq_true rfl⟩) hP0 hD0 hS hA (fun ce q9 H locs hpx hP hS h1 h2 h3 => ?_) (fun r9 H locs hp hP hS => ?_)
  · have hP : va_P D vwCl (MW (ao, .inl (cJ, 1, .inr (.inl g))) am cI cJ cZ cO 0 0 0 0 0 qo F2 G2) H := hP
    have hD : va_D A (MW (ao, .inl (cJ, 1, .inr (.inl g))) am cI cJ cZ cO 0 0 0 0 0 qo F2 G2) := appRD hD
    refine vx_catch (name := EIOB) (E := EIOB) hown [] ⟨0, 9, 12, 21⟩ (tableOf []) (by rw [htab]; rfl) (fun z hz => nomatch hz) (by decide) (by decide) (hg _ mw_549) (hN.use nw_107) h1 h2 h3 ?_
    refine lv_astore_n (lv' := [(3, .ref q9), (0, .ref (ad 0)), (1, .int k), (2, .ref ao)]) hx hb dL_liveIn_12 rfl hl (by decide) rfl (fun ls hl => ?_)
    refine lv_iconst (v := 1) hx hb dL_liveIn_13 (by decide) ?_
    exact W.iret (v := 1) hx hb hr (fun t ht hW => ⟨⟨1, (MW (ao, .inl (cJ, 1, .inr (.inl g))) am cI cJ cZ cO 0 0 0 0 0 qo F2 G2), rfl, ⟨rfl, rfl⟩, ⟨by rw [ht]; exact hP, va_K.moved hW.alike hK, hD⟩⟩, hS.F ht⟩) hS.2.2 dL_liveIn_14
  · have hP : va_P D vwCl (MW (ao, .inl (cJ, 1, .inr (.inl g))) am cI cJ cZ cO 0 0 0 0 0 qo F2 G2) H := hP
    have hD : va_D A (MW (ao, .inl (cJ, 1, .inr (.inl g))) am cI cJ cZ cO 0 0 0 0 0 qo F2 G2) := appRD hD
    obtain ⟨u, hu⟩ := hp
    exact hu.elim
set_option maxHeartbeats 4000000 in
set_option maxRecDepth 100000 in
theorem h_ruleOf (l : Launch) (hfl : l.stackTraces = false) (D : va_G) (cI cJ cZ : ClassId) (cO : ClassId) (ad : Nat → Nat) (b : Nat → Int32) (F : Nat → Nat → Int32) (G : Nat → Nat → Int64) (ao : Nat) (g : Nat → Int64) (am : Nat → Nat) (qo : Nat) (F2 : Nat → Nat → Int32) (G2 : Nat → Nat → Int64) (k : Int32) : CW l D (TO cI cJ cZ cO) yL_ruleOf (.codeWith yL_ruleOf cL_ruleOf 4 (some Jvm.ClassFile.FieldType.int) [((0), (9), (12), (21))]) 8 1 6 (XW ad cI cJ 0 b F G ++ MW (ao, .inl (cJ, 1, .inr (.inl g))) am cI cJ cZ cO 0 0 0 0 0 qo F2 G2) [.ref (ad 0), .int k, .ref ao] (QI D (TO cI cJ cZ cO) (fun r u => r = 1 ∧ u = MW (ao, .inl (cJ, 1, .inr (.inl g))) am cI cJ cZ cO 0 0 0 0 0 qo F2 G2)) := by
  refine entW (by decide) (Nat.le_of_ble_eq_true rfl) ?_
  intro p e s m below meth c ls A hx hb hr hg hown hml hlocks hnm hP hK hD hS hA hN hl htab hST hSR hAw
  have hl : lv_has ls 4 [(0, .ref (ad 0)), (1, .int k), (2, .ref ao)] := hl
  refine lv_aload_n hx hb dL_ruleOf_0 rfl (lv_at hl 2 rfl) ?_
  refine lv_iconst (v := 0) hx hb dL_ruleOf_1 (by decide) ?_
  refine lv_aload_n hx hb dL_ruleOf_2 rfl (lv_at hl 0 rfl) ?_
  refine lv_iload_n hx hb dL_ruleOf_3 rfl (lv_at hl 1 rfl) ?_
  have hP0 : va_P D vwCl ((XW ad cI cJ 0 b F G ++ []) ++ MW (ao, .inl (cJ, 1, .inr (.inl g))) am cI cJ cZ cO 0 0 0 0 0 qo F2 G2) s.heap := by rw [List.append_nil]; exact hP
  have hD0 : va_D A ((XW ad cI cJ 0 b F G ++ []) ++ MW (ao, .inl (cJ, 1, .inr (.inl g))) am cI cJ cZ cO 0 0 0 0 0 qo F2 G2) := by rw [List.append_nil]; exact hD
  refine kXR (rXV (q0 := 0) (ci := 7) hx hb hml hown hg hN (hK.sub (tys' := TY cI cJ cZ) [0, 1, 2] rfl) (appLP hP0) (appLD hD0) hST hSR hS hA (p_ruleOf l hfl D cI cJ cZ ad b F G [] k) mw_615 mw_614 mw_616 mw_617 mw_110 pdv_X7_ruleOf ⟨Nat.le_of_ble_eq_true rfl, Nat.le_of_ble_eq_true rfl⟩ rfl rfl rfl hl.1 rfl (Nat.le_of_ble_eq_true rfl) dL_ruleOf_4 ⟨Nat.le_of_ble_eq_true rfl, Nat.le_of_ble_eq_true rfl⟩) hP0 hD0 hS hA (fun ce q9 H locs hpx hP hS h1 h2 h3 => ?_) (fun r9 H locs hp hP hS => ?_)
  · have hP : va_P D vwCl (MW (ao, .inl (cJ, 1, .inr (.inl g))) am cI cJ cZ cO 0 0 0 0 0 qo F2 G2) H := hP
    have hD : va_D A (MW (ao, .inl (cJ, 1, .inr (.inl g))) am cI cJ cZ cO 0 0 0 0 0 qo F2 G2) := appRD hD
    refine vx_catch (name := EIOB) (E := EIOB) hown [] ⟨0, 9, 12, 21⟩ (tableOf []) (by rw [htab]; rfl) (fun z hz => nomatch hz) (by decide) (by decide) (hg _ mw_549) (hN.use nw_107) h1 h2 h3 ?_
    refine lv_astore_n (lv' := [(3, .ref q9), (0, .ref (ad 0)), (1, .int k), (2, .ref ao)]) hx hb dL_ruleOf_12 rfl hl (by decide) rfl (fun ls hl => ?_)
    refine lv_iconst (v := 1) hx hb dL_ruleOf_13 (by decide) ?_
    exact W.iret (v := 1) hx hb hr (fun t ht hW => ⟨⟨1, (MW (ao, .inl (cJ, 1, .inr (.inl g))) am cI cJ cZ cO 0 0 0 0 0 qo F2 G2), rfl, ⟨rfl, rfl⟩, ⟨by rw [ht]; exact hP, va_K.moved hW.alike hK, hD⟩⟩, hS.F ht⟩) hS.2.2 dL_ruleOf_14
  · have hP : va_P D vwCl (MW (ao, .inl (cJ, 1, .inr (.inl g))) am cI cJ cZ cO 0 0 0 0 0 qo F2 G2) H := hP
    have hD : va_D A (MW (ao, .inl (cJ, 1, .inr (.inl g))) am cI cJ cZ cO 0 0 0 0 0 qo F2 G2) := appRD hD
    obtain ⟨u, hu⟩ := hp
    exact hu.elim
set_option maxHeartbeats 4000000 in
set_option maxRecDepth 100000 in
theorem h_nodeOf (l : Launch) (hfl : l.stackTraces = false) (D : va_G) (cI cJ cZ : ClassId) (cO : ClassId) (ad : Nat → Nat) (b : Nat → Int32) (F : Nat → Nat → Int32) (G : Nat → Nat → Int64) (ao : Nat) (g : Nat → Int64) (am : Nat → Nat) (qo : Nat) (F2 : Nat → Nat → Int32) (G2 : Nat → Nat → Int64) (k : Int32) : CW l D (TO cI cJ cZ cO) yL_nodeOf (.codeWith yL_nodeOf cL_nodeOf 4 (some Jvm.ClassFile.FieldType.int) [((0), (9), (12), (21))]) 8 1 6 (XW ad cI cJ 0 b F G ++ MW (ao, .inl (cJ, 1, .inr (.inl g))) am cI cJ cZ cO 0 0 0 0 0 qo F2 G2) [.ref (ad 0), .int k, .ref ao] (QI D (TO cI cJ cZ cO) (fun r u => r = 1 ∧ u = MW (ao, .inl (cJ, 1, .inr (.inl g))) am cI cJ cZ cO 0 0 0 0 0 qo F2 G2)) := by
  refine entW (by decide) (Nat.le_of_ble_eq_true rfl) ?_
  intro p e s m below meth c ls A hx hb hr hg hown hml hlocks hnm hP hK hD hS hA hN hl htab hST hSR hAw
  have hl : lv_has ls 4 [(0, .ref (ad 0)), (1, .int k), (2, .ref ao)] := hl
  refine lv_aload_n hx hb dL_nodeOf_0 rfl (lv_at hl 2 rfl) ?_
  refine lv_iconst (v := 0) hx hb dL_nodeOf_1 (by decide) ?_
  refine lv_aload_n hx hb dL_nodeOf_2 rfl (lv_at hl 0 rfl) ?_
  refine lv_iload_n hx hb dL_nodeOf_3 rfl (lv_at hl 1 rfl) ?_
  have hP0 : va_P D vwCl ((XW ad cI cJ 0 b F G ++ []) ++ MW (ao, .inl (cJ, 1, .inr (.inl g))) am cI cJ cZ cO 0 0 0 0 0 qo F2 G2) s.heap := by rw [List.append_nil]; exact hP
  have hD0 : va_D A ((XW ad cI cJ 0 b F G ++ []) ++ MW (ao, .inl (cJ, 1, .inr (.inl g))) am cI cJ cZ cO 0 0 0 0 0 qo F2 G2) := by rw [List.append_nil]; exact hD
  refine kXR (rXV (q0 := 0) (ci := 7) hx hb hml hown hg hN (hK.sub (tys' := TY cI cJ cZ) [0, 1, 2] rfl) (appLP hP0) (appLD hD0) hST hSR hS hA (p_nodeOf l hfl D cI cJ cZ ad b F G [] k) mw_619 mw_618 mw_620 mw_621 mw_110 pdv_X7_nodeOf ⟨Nat.le_of_ble_eq_true rfl, Nat.le_of_ble_eq_true rfl⟩ rfl rfl rfl hl.1 rfl (Nat.le_of_ble_eq_true rfl) dL_nodeOf_4 ⟨Nat.le_of_ble_eq_true rfl, Nat.le_of_ble_eq_true rfl⟩) hP0 hD0 hS hA (fun ce q9 H locs hpx hP hS h1 h2 h3 => ?_) (fun r9 H locs hp hP hS => ?_)
  · have hP : va_P D vwCl (MW (ao, .inl (cJ, 1, .inr (.inl g))) am cI cJ cZ cO 0 0 0 0 0 qo F2 G2) H := hP
    have hD : va_D A (MW (ao, .inl (cJ, 1, .inr (.inl g))) am cI cJ cZ cO 0 0 0 0 0 qo F2 G2) := appRD hD
    refine vx_catch (name := EIOB) (E := EIOB) hown [] ⟨0, 9, 12, 21⟩ (tableOf []) (by rw [htab]; rfl) (fun z hz => nomatch hz) (by decide) (by decide) (hg _ mw_549) (hN.use nw_107) h1 h2 h3 ?_
    refine lv_astore_n (lv' := [(3, .ref q9), (0, .ref (ad 0)), (1, .int k), (2, .ref ao)]) hx hb dL_nodeOf_12 rfl hl (by decide) rfl (fun ls hl => ?_)
    refine lv_iconst (v := 1) hx hb dL_nodeOf_13 (by decide) ?_
    exact W.iret (v := 1) hx hb hr (fun t ht hW => ⟨⟨1, (MW (ao, .inl (cJ, 1, .inr (.inl g))) am cI cJ cZ cO 0 0 0 0 0 qo F2 G2), rfl, ⟨rfl, rfl⟩, ⟨by rw [ht]; exact hP, va_K.moved hW.alike hK, hD⟩⟩, hS.F ht⟩) hS.2.2 dL_nodeOf_14
  · have hP : va_P D vwCl (MW (ao, .inl (cJ, 1, .inr (.inl g))) am cI cJ cZ cO 0 0 0 0 0 qo F2 G2) H := hP
    have hD : va_D A (MW (ao, .inl (cJ, 1, .inr (.inl g))) am cI cJ cZ cO 0 0 0 0 0 qo F2 G2) := appRD hD
    obtain ⟨u, hu⟩ := hp
    exact hu.elim
set_option maxHeartbeats 4000000 in
set_option maxRecDepth 100000 in
theorem h_endsIn (l : Launch) (hfl : l.stackTraces = false) (D : va_G) (cI cJ cZ : ClassId) (cO : ClassId) (ad : Nat → Nat) (b : Nat → Int32) (F : Nat → Nat → Int32) (G : Nat → Nat → Int64) (ao : Nat) (g : Nat → Int64) (am : Nat → Nat) (qo : Nat) (F2 : Nat → Nat → Int32) (G2 : Nat → Nat → Int64) (k : Int32) : CW l D (TO cI cJ cZ cO) yL_endsIn (.codeWith yL_endsIn cL_endsIn 4 (some Jvm.ClassFile.FieldType.int) [((0), (9), (12), (21))]) 8 1 6 (XW ad cI cJ 0 b F G ++ MW (ao, .inl (cJ, 1, .inr (.inl g))) am cI cJ cZ cO 0 0 0 0 0 qo F2 G2) [.ref (ad 0), .int k, .ref ao] (QI D (TO cI cJ cZ cO) (fun r u => r = 1 ∧ u = MW (ao, .inl (cJ, 1, .inr (.inl g))) am cI cJ cZ cO 0 0 0 0 0 qo F2 G2)) := by
  refine entW (by decide) (Nat.le_of_ble_eq_true rfl) ?_
  intro p e s m below meth c ls A hx hb hr hg hown hml hlocks hnm hP hK hD hS hA hN hl htab hST hSR hAw
  have hl : lv_has ls 4 [(0, .ref (ad 0)), (1, .int k), (2, .ref ao)] := hl
  refine lv_aload_n hx hb dL_endsIn_0 rfl (lv_at hl 2 rfl) ?_
  refine lv_iconst (v := 0) hx hb dL_endsIn_1 (by decide) ?_
  refine lv_aload_n hx hb dL_endsIn_2 rfl (lv_at hl 0 rfl) ?_
  refine lv_iload_n hx hb dL_endsIn_3 rfl (lv_at hl 1 rfl) ?_
  have hP0 : va_P D vwCl ((XW ad cI cJ 0 b F G ++ []) ++ MW (ao, .inl (cJ, 1, .inr (.inl g))) am cI cJ cZ cO 0 0 0 0 0 qo F2 G2) s.heap := by rw [List.append_nil]; exact hP
  have hD0 : va_D A ((XW ad cI cJ 0 b F G ++ []) ++ MW (ao, .inl (cJ, 1, .inr (.inl g))) am cI cJ cZ cO 0 0 0 0 0 qo F2 G2) := by rw [List.append_nil]; exact hD
  refine kXR (rXV (q0 := 0) (ci := 7) hx hb hml hown hg hN (hK.sub (tys' := TY cI cJ cZ) [0, 1, 2] rfl) (appLP hP0) (appLD hD0) hST hSR hS hA (p_endsIn l hfl D cI cJ cZ ad b F G [] k) mw_623 mw_622 mw_624 mw_625 mw_110 pdv_X7_endsIn ⟨Nat.le_of_ble_eq_true rfl, Nat.le_of_ble_eq_true rfl⟩ rfl rfl rfl hl.1 rfl (Nat.le_of_ble_eq_true rfl) dL_endsIn_4 ⟨Nat.le_of_ble_eq_true rfl, Nat.le_of_ble_eq_true rfl⟩) hP0 hD0 hS hA (fun ce q9 H locs hpx hP hS h1 h2 h3 => ?_) (fun r9 H locs hp hP hS => ?_)
  · have hP : va_P D vwCl (MW (ao, .inl (cJ, 1, .inr (.inl g))) am cI cJ cZ cO 0 0 0 0 0 qo F2 G2) H := hP
    have hD : va_D A (MW (ao, .inl (cJ, 1, .inr (.inl g))) am cI cJ cZ cO 0 0 0 0 0 qo F2 G2) := appRD hD
    refine vx_catch (name := EIOB) (E := EIOB) hown [] ⟨0, 9, 12, 21⟩ (tableOf []) (by rw [htab]; rfl) (fun z hz => nomatch hz) (by decide) (by decide) (hg _ mw_549) (hN.use nw_107) h1 h2 h3 ?_
    refine lv_astore_n (lv' := [(3, .ref q9), (0, .ref (ad 0)), (1, .int k), (2, .ref ao)]) hx hb dL_endsIn_12 rfl hl (by decide) rfl (fun ls hl => ?_)
    refine lv_iconst (v := 1) hx hb dL_endsIn_13 (by decide) ?_
    exact W.iret (v := 1) hx hb hr (fun t ht hW => ⟨⟨1, (MW (ao, .inl (cJ, 1, .inr (.inl g))) am cI cJ cZ cO 0 0 0 0 0 qo F2 G2), rfl, ⟨rfl, rfl⟩, ⟨by rw [ht]; exact hP, va_K.moved hW.alike hK, hD⟩⟩, hS.F ht⟩) hS.2.2 dL_endsIn_14
  · have hP : va_P D vwCl (MW (ao, .inl (cJ, 1, .inr (.inl g))) am cI cJ cZ cO 0 0 0 0 0 qo F2 G2) H := hP
    have hD : va_D A (MW (ao, .inl (cJ, 1, .inr (.inl g))) am cI cJ cZ cO 0 0 0 0 0 qo F2 G2) := appRD hD
    obtain ⟨u, hu⟩ := hp
    exact hu.elim
set_option maxHeartbeats 4000000 in
set_option maxRecDepth 100000 in
theorem h_layerOf (l : Launch) (hfl : l.stackTraces = false) (D : va_G) (cI cJ cZ : ClassId) (cO : ClassId) (ad : Nat → Nat) (b : Nat → Int32) (F : Nat → Nat → Int32) (G : Nat → Nat → Int64) (ao : Nat) (g : Nat → Int64) (am : Nat → Nat) (qo : Nat) (F2 : Nat → Nat → Int32) (G2 : Nat → Nat → Int64) (k : Int32) : CW l D (TO cI cJ cZ cO) yL_layerOf (.codeWith yL_layerOf cL_layerOf 4 (some Jvm.ClassFile.FieldType.int) [((0), (9), (12), (21))]) 8 1 6 (XW ad cI cJ 0 b F G ++ MW (ao, .inl (cJ, 1, .inr (.inl g))) am cI cJ cZ cO 0 0 0 0 0 qo F2 G2) [.ref (ad 0), .int k, .ref ao] (QI D (TO cI cJ cZ cO) (fun r u => r = 1 ∧ u = MW (ao, .inl (cJ, 1, .inr (.inl g))) am cI cJ cZ cO 0 0 0 0 0 qo F2 G2)) := by
  refine entW (by decide) (Nat.le_of_ble_eq_true rfl) ?_
  intro p e s m below meth c ls A hx hb hr hg hown hml hlocks hnm hP hK hD hS hA hN hl htab hST hSR hAw
  have hl : lv_has ls 4 [(0, .ref (ad 0)), (1, .int k), (2, .ref ao)] := hl
  refine lv_aload_n hx hb dL_layerOf_0 rfl (lv_at hl 2 rfl) ?_
  refine lv_iconst (v := 0) hx hb dL_layerOf_1 (by decide) ?_
  refine lv_aload_n hx hb dL_layerOf_2 rfl (lv_at hl 0 rfl) ?_
  refine lv_iload_n hx hb dL_layerOf_3 rfl (lv_at hl 1 rfl) ?_
  have hP0 : va_P D vwCl ((XW ad cI cJ 0 b F G ++ []) ++ MW (ao, .inl (cJ, 1, .inr (.inl g))) am cI cJ cZ cO 0 0 0 0 0 qo F2 G2) s.heap := by rw [List.append_nil]; exact hP
  have hD0 : va_D A ((XW ad cI cJ 0 b F G ++ []) ++ MW (ao, .inl (cJ, 1, .inr (.inl g))) am cI cJ cZ cO 0 0 0 0 0 qo F2 G2) := by rw [List.append_nil]; exact hD
  refine kXR (rXV (q0 := 0) (ci := 7) hx hb hml hown hg hN (hK.sub (tys' := TY cI cJ cZ) [0, 1, 2] rfl) (appLP hP0) (appLD hD0) hST hSR hS hA (p_layerOf l hfl D cI cJ cZ ad b F G [] k) mw_627 mw_626 mw_628 mw_629 mw_110 pdv_X7_layerOf ⟨Nat.le_of_ble_eq_true rfl, Nat.le_of_ble_eq_true rfl⟩ rfl rfl rfl hl.1 rfl (Nat.le_of_ble_eq_true rfl) dL_layerOf_4 ⟨Nat.le_of_ble_eq_true rfl, Nat.le_of_ble_eq_true rfl⟩) hP0 hD0 hS hA (fun ce q9 H locs hpx hP hS h1 h2 h3 => ?_) (fun r9 H locs hp hP hS => ?_)
  · have hP : va_P D vwCl (MW (ao, .inl (cJ, 1, .inr (.inl g))) am cI cJ cZ cO 0 0 0 0 0 qo F2 G2) H := hP
    have hD : va_D A (MW (ao, .inl (cJ, 1, .inr (.inl g))) am cI cJ cZ cO 0 0 0 0 0 qo F2 G2) := appRD hD
    refine vx_catch (name := EIOB) (E := EIOB) hown [] ⟨0, 9, 12, 21⟩ (tableOf []) (by rw [htab]; rfl) (fun z hz => nomatch hz) (by decide) (by decide) (hg _ mw_549) (hN.use nw_107) h1 h2 h3 ?_
    refine lv_astore_n (lv' := [(3, .ref q9), (0, .ref (ad 0)), (1, .int k), (2, .ref ao)]) hx hb dL_layerOf_12 rfl hl (by decide) rfl (fun ls hl => ?_)
    refine lv_iconst (v := 1) hx hb dL_layerOf_13 (by decide) ?_
    exact W.iret (v := 1) hx hb hr (fun t ht hW => ⟨⟨1, (MW (ao, .inl (cJ, 1, .inr (.inl g))) am cI cJ cZ cO 0 0 0 0 0 qo F2 G2), rfl, ⟨rfl, rfl⟩, ⟨by rw [ht]; exact hP, va_K.moved hW.alike hK, hD⟩⟩, hS.F ht⟩) hS.2.2 dL_layerOf_14
  · have hP : va_P D vwCl (MW (ao, .inl (cJ, 1, .inr (.inl g))) am cI cJ cZ cO 0 0 0 0 0 qo F2 G2) H := hP
    have hD : va_D A (MW (ao, .inl (cJ, 1, .inr (.inl g))) am cI cJ cZ cO 0 0 0 0 0 qo F2 G2) := appRD hD
    obtain ⟨u, hu⟩ := hp
    exact hu.elim
set_option maxHeartbeats 4000000 in
set_option maxRecDepth 100000 in
theorem h_isTurned (l : Launch) (hfl : l.stackTraces = false) (D : va_G) (cI cJ cZ : ClassId) (cO : ClassId) (ad : Nat → Nat) (b : Nat → Int32) (F : Nat → Nat → Int32) (G : Nat → Nat → Int64) (ao : Nat) (g : Nat → Int64) (am : Nat → Nat) (qo : Nat) (F2 : Nat → Nat → Int32) (G2 : Nat → Nat → Int64) (k : Int32) : CW l D (TO cI cJ cZ cO) yL_isTurned (.codeWith yL_isTurned cL_isTurned 4 (some Jvm.ClassFile.FieldType.int) [((0), (16), (19), (21))]) 8 1 6 (XW ad cI cJ 0 b F G ++ MW (ao, .inl (cJ, 1, .inr (.inl g))) am cI cJ cZ cO 0 0 0 0 0 qo F2 G2) [.ref (ad 0), .int k, .ref ao] (QI D (TO cI cJ cZ cO) (fun r u => r = 1 ∧ u = MW (ao, .inl (cJ, 1, .inr (.inl g))) am cI cJ cZ cO 0 0 0 0 0 qo F2 G2)) := by
  refine entW (by decide) (Nat.le_of_ble_eq_true rfl) ?_
  intro p e s m below meth c ls A hx hb hr hg hown hml hlocks hnm hP hK hD hS hA hN hl htab hST hSR hAw
  have hl : lv_has ls 4 [(0, .ref (ad 0)), (1, .int k), (2, .ref ao)] := hl
  refine lv_aload_n hx hb dL_isTurned_0 rfl (lv_at hl 2 rfl) ?_
  refine lv_iconst (v := 0) hx hb dL_isTurned_1 (by decide) ?_
  refine lv_aload_n hx hb dL_isTurned_2 rfl (lv_at hl 0 rfl) ?_
  refine lv_iload_n hx hb dL_isTurned_3 rfl (lv_at hl 1 rfl) ?_
  have hP0 : va_P D vwCl ((XW ad cI cJ 0 b F G ++ []) ++ MW (ao, .inl (cJ, 1, .inr (.inl g))) am cI cJ cZ cO 0 0 0 0 0 qo F2 G2) s.heap := by rw [List.append_nil]; exact hP
  have hD0 : va_D A ((XW ad cI cJ 0 b F G ++ []) ++ MW (ao, .inl (cJ, 1, .inr (.inl g))) am cI cJ cZ cO 0 0 0 0 0 qo F2 G2) := by rw [List.append_nil]; exact hD
  refine kXR (rXV (q0 := 0) (ci := 7) hx hb hml hown hg hN (hK.sub (tys' := TY cI cJ cZ) [0, 1, 2] rfl) (appLP hP0) (appLD hD0) hST hSR hS hA (p_isTurned l hfl D cI cJ cZ ad b F G [] k) mw_631 mw_630 mw_632 mw_633 mw_110 pdv_X7_isTurned ⟨Nat.le_of_ble_eq_true rfl, Nat.le_of_ble_eq_true rfl⟩ rfl rfl rfl hl.1 rfl (Nat.le_of_ble_eq_true rfl) dL_isTurned_4 ⟨Nat.le_of_ble_eq_true rfl, Nat.le_of_ble_eq_true rfl⟩) hP0 hD0 hS hA (fun ce q9 H locs hpx hP hS h1 h2 h3 => ?_) (fun r9 H locs hp hP hS => ?_)
  · have hP : va_P D vwCl (MW (ao, .inl (cJ, 1, .inr (.inl g))) am cI cJ cZ cO 0 0 0 0 0 qo F2 G2) H := hP
    have hD : va_D A (MW (ao, .inl (cJ, 1, .inr (.inl g))) am cI cJ cZ cO 0 0 0 0 0 qo F2 G2) := appRD hD
    refine vx_catch (name := EIOB) (E := EIOB) hown [] ⟨0, 16, 19, 21⟩ (tableOf []) (by rw [htab]; rfl) (fun z hz => nomatch hz) (by decide) (by decide) (hg _ mw_549) (hN.use nw_107) h1 h2 h3 ?_
    refine lv_astore_n (lv' := [(3, .ref q9), (0, .ref (ad 0)), (1, .int k), (2, .ref ao)]) hx hb dL_isTurned_19 rfl hl (by decide) rfl (fun ls hl => ?_)
    refine lv_iconst (v := 1) hx hb dL_isTurned_20 (by decide) ?_
    exact W.iret (v := 1) hx hb hr (fun t ht hW => ⟨⟨1, (MW (ao, .inl (cJ, 1, .inr (.inl g))) am cI cJ cZ cO 0 0 0 0 0 qo F2 G2), rfl, ⟨rfl, rfl⟩, ⟨by rw [ht]; exact hP, va_K.moved hW.alike hK, hD⟩⟩, hS.F ht⟩) hS.2.2 dL_isTurned_21
  · have hP : va_P D vwCl (MW (ao, .inl (cJ, 1, .inr (.inl g))) am cI cJ cZ cO 0 0 0 0 0 qo F2 G2) H := hP
    have hD : va_D A (MW (ao, .inl (cJ, 1, .inr (.inl g))) am cI cJ cZ cO 0 0 0 0 0 qo F2 G2) := appRD hD
    obtain ⟨u, hu⟩ := hp
    exact hu.elim
set_option maxHeartbeats 4000000 in
set_option maxRecDepth 100000 in
theorem h_points (l : Launch) (hfl : l.stackTraces = false) (D : va_G) (cI cJ cZ : ClassId) (cO : ClassId) (ad : Nat → Nat) (b : Nat → Int32) (F : Nat → Nat → Int32) (G : Nat → Nat → Int64) (ao : Nat) (g : Nat → Int64) (am : Nat → Nat) (qo : Nat) (F2 : Nat → Nat → Int32) (G2 : Nat → Nat → Int64) (k : Int32) : CW l D (TO cI cJ cZ cO) yL_points (.codeWith yL_points cL_points 4 (some Jvm.ClassFile.FieldType.int) [((0), (9), (12), (21))]) 8 1 6 (XW ad cI cJ 0 b F G ++ MW (ao, .inl (cJ, 1, .inr (.inl g))) am cI cJ cZ cO 0 0 0 0 0 qo F2 G2) [.ref (ad 0), .int k, .ref ao] (QI D (TO cI cJ cZ cO) (fun r u => r = 1 ∧ u = MW (ao, .inl (cJ, 1, .inr (.inl g))) am cI cJ cZ cO 0 0 0 0 0 qo F2 G2)) := by
  refine entW (by decide) (Nat.le_of_ble_eq_true rfl) ?_
  intro p e s m below meth c ls A hx hb hr hg hown hml hlocks hnm hP hK hD hS hA hN hl htab hST hSR hAw
  have hl : lv_has ls 4 [(0, .ref (ad 0)), (1, .int k), (2, .ref ao)] := hl
  refine lv_aload_n hx hb dL_points_0 rfl (lv_at hl 2 rfl) ?_
  refine lv_iconst (v := 0) hx hb dL_points_1 (by decide) ?_
  refine lv_aload_n hx hb dL_points_2 rfl (lv_at hl 0 rfl) ?_
  refine lv_iload_n hx hb dL_points_3 rfl (lv_at hl 1 rfl) ?_
  have hP0 : va_P D vwCl ((XW ad cI cJ 0 b F G ++ []) ++ MW (ao, .inl (cJ, 1, .inr (.inl g))) am cI cJ cZ cO 0 0 0 0 0 qo F2 G2) s.heap := by rw [List.append_nil]; exact hP
  have hD0 : va_D A ((XW ad cI cJ 0 b F G ++ []) ++ MW (ao, .inl (cJ, 1, .inr (.inl g))) am cI cJ cZ cO 0 0 0 0 0 qo F2 G2) := by rw [List.append_nil]; exact hD
  refine kXR (rXV (q0 := 0) (ci := 7) hx hb hml hown hg hN (hK.sub (tys' := TY cI cJ cZ) [0, 1, 2] rfl) (appLP hP0) (appLD hD0) hST hSR hS hA (p_points l hfl D cI cJ cZ ad b F G [] k) mw_635 mw_634 mw_636 mw_637 mw_110 pdv_X7_points ⟨Nat.le_of_ble_eq_true rfl, Nat.le_of_ble_eq_true rfl⟩ rfl rfl rfl hl.1 rfl (Nat.le_of_ble_eq_true rfl) dL_points_4 ⟨Nat.le_of_ble_eq_true rfl, Nat.le_of_ble_eq_true rfl⟩) hP0 hD0 hS hA (fun ce q9 H locs hpx hP hS h1 h2 h3 => ?_) (fun r9 H locs hp hP hS => ?_)
  · have hP : va_P D vwCl (MW (ao, .inl (cJ, 1, .inr (.inl g))) am cI cJ cZ cO 0 0 0 0 0 qo F2 G2) H := hP
    have hD : va_D A (MW (ao, .inl (cJ, 1, .inr (.inl g))) am cI cJ cZ cO 0 0 0 0 0 qo F2 G2) := appRD hD
    refine vx_catch (name := EIOB) (E := EIOB) hown [] ⟨0, 9, 12, 21⟩ (tableOf []) (by rw [htab]; rfl) (fun z hz => nomatch hz) (by decide) (by decide) (hg _ mw_549) (hN.use nw_107) h1 h2 h3 ?_
    refine lv_astore_n (lv' := [(3, .ref q9), (0, .ref (ad 0)), (1, .int k), (2, .ref ao)]) hx hb dL_points_12 rfl hl (by decide) rfl (fun ls hl => ?_)
    refine lv_iconst (v := 1) hx hb dL_points_13 (by decide) ?_
    exact W.iret (v := 1) hx hb hr (fun t ht hW => ⟨⟨1, (MW (ao, .inl (cJ, 1, .inr (.inl g))) am cI cJ cZ cO 0 0 0 0 0 qo F2 G2), rfl, ⟨rfl, rfl⟩, ⟨by rw [ht]; exact hP, va_K.moved hW.alike hK, hD⟩⟩, hS.F ht⟩) hS.2.2 dL_points_14
  · have hP : va_P D vwCl (MW (ao, .inl (cJ, 1, .inr (.inl g))) am cI cJ cZ cO 0 0 0 0 0 qo F2 G2) H := hP
    have hD : va_D A (MW (ao, .inl (cJ, 1, .inr (.inl g))) am cI cJ cZ cO 0 0 0 0 0 qo F2 G2) := appRD hD
    obtain ⟨u, hu⟩ := hp
    exact hu.elim
set_option maxHeartbeats 4000000 in
set_option maxRecDepth 100000 in
theorem h_pointAt (l : Launch) (hfl : l.stackTraces = false) (D : va_G) (cI cJ cZ : ClassId) (cO : ClassId) (ad : Nat → Nat) (b : Nat → Int32) (F : Nat → Nat → Int32) (G : Nat → Nat → Int64) (ao : Nat) (g : Nat → Int64) (am : Nat → Nat) (qo : Nat) (F2 : Nat → Nat → Int32) (G2 : Nat → Nat → Int64) (k : Int32) (k2 : Int32) : CW l D (TO cI cJ cZ cO) yL_pointAt (.codeWith yL_pointAt cL_pointAt 5 (some Jvm.ClassFile.FieldType.int) [((0), (10), (13), (21))]) 8 1 6 (XW ad cI cJ 0 b F G ++ MW (ao, .inl (cJ, 1, .inr (.inl g))) am cI cJ cZ cO 0 0 0 0 0 qo F2 G2) [.ref (ad 0), .int k, .int k2, .ref ao] (QI D (TO cI cJ cZ cO) (fun r u => r = 1 ∧ u = MW (ao, .inl (cJ, 1, .inr (.inl g))) am cI cJ cZ cO 0 0 0 0 0 qo F2 G2)) := by
  refine entW (by decide) (Nat.le_of_ble_eq_true rfl) ?_
  intro p e s m below meth c ls A hx hb hr hg hown hml hlocks hnm hP hK hD hS hA hN hl htab hST hSR hAw
  have hl : lv_has ls 5 [(0, .ref (ad 0)), (1, .int k), (2, .int k2), (3, .ref ao)] := hl
  refine lv_aload_n hx hb dL_pointAt_0 rfl (lv_at hl 3 rfl) ?_
  refine lv_iconst (v := 0) hx hb dL_pointAt_1 (by decide) ?_
  refine lv_aload_n hx hb dL_pointAt_2 rfl (lv_at hl 0 rfl) ?_
  refine lv_iload_n hx hb dL_pointAt_3 rfl (lv_at hl 1 rfl) ?_
  refine lv_iload_n hx hb dL_pointAt_4 rfl (lv_at hl 2 rfl) ?_
  have hP0 : va_P D vwCl ((XW ad cI cJ 0 b F G ++ []) ++ MW (ao, .inl (cJ, 1, .inr (.inl g))) am cI cJ cZ cO 0 0 0 0 0 qo F2 G2) s.heap := by rw [List.append_nil]; exact hP
  have hD0 : va_D A ((XW ad cI cJ 0 b F G ++ []) ++ MW (ao, .inl (cJ, 1, .inr (.inl g))) am cI cJ cZ cO 0 0 0 0 0 qo F2 G2) := by rw [List.append_nil]; exact hD
  refine kXR (rXV (q0 := 0) (ci := 7) hx hb hml hown hg hN (hK.sub (tys' := TY cI cJ cZ) [0, 1, 2] rfl) (appLP hP0) (appLD hD0) hST hSR hS hA (p_pointAt l hfl D cI cJ cZ ad b F G [] k k2) mw_639 mw_638 mw_640 mw_641 mw_110 pdv_X7_pointAt ⟨Nat.le_of_ble_eq_true rfl, Nat.le_of_ble_eq_true rfl⟩ rfl rfl rfl hl.1 rfl (Nat.le_of_ble_eq_true rfl) dL_pointAt_5 ⟨Nat.le_of_ble_eq_true rfl, Nat.le_of_ble_eq_true rfl⟩) hP0 hD0 hS hA (fun ce q9 H locs hpx hP hS h1 h2 h3 => ?_) (fun r9 H locs hp hP hS => ?_)
  · have hP : va_P D vwCl (MW (ao, .inl (cJ, 1, .inr (.inl g))) am cI cJ cZ cO 0 0 0 0 0 qo F2 G2) H := hP
    have hD : va_D A (MW (ao, .inl (cJ, 1, .inr (.inl g))) am cI cJ cZ cO 0 0 0 0 0 qo F2 G2) := appRD hD
    refine vx_catch (name := EIOB) (E := EIOB) hown [] ⟨0, 10, 13, 21⟩ (tableOf []) (by rw [htab]; rfl) (fun z hz => nomatch hz) (by decide) (by decide) (hg _ mw_549) (hN.use nw_107) h1 h2 h3 ?_
    refine lv_astore (lv' := [(4, .ref q9), (0, .ref (ad 0)), (1, .int k), (2, .int k2), (3, .ref ao)]) hx hb dL_pointAt_13 hl (by decide) rfl (fun ls hl => ?_)
    refine lv_iconst (v := 1) hx hb dL_pointAt_15 (by decide) ?_
    exact W.iret (v := 1) hx hb hr (fun t ht hW => ⟨⟨1, (MW (ao, .inl (cJ, 1, .inr (.inl g))) am cI cJ cZ cO 0 0 0 0 0 qo F2 G2), rfl, ⟨rfl, rfl⟩, ⟨by rw [ht]; exact hP, va_K.moved hW.alike hK, hD⟩⟩, hS.F ht⟩) hS.2.2 dL_pointAt_16
  · have hP : va_P D vwCl (MW (ao, .inl (cJ, 1, .inr (.inl g))) am cI cJ cZ cO 0 0 0 0 0 qo F2 G2) H := hP
    have hD : va_D A (MW (ao, .inl (cJ, 1, .inr (.inl g))) am cI cJ cZ cO 0 0 0 0 0 qo F2 G2) := appRD hD
    obtain ⟨u, hu⟩ := hp
    exact hu.elim
set_option maxHeartbeats 4000000 in
set_option maxRecDepth 100000 in
theorem h_placeOf (l : Launch) (hfl : l.stackTraces = false) (D : va_G) (cI cJ cZ : ClassId) (cO : ClassId) (ad : Nat → Nat) (b : Nat → Int32) (F : Nat → Nat → Int32) (G : Nat → Nat → Int64) (ao : Nat) (g : Nat → Int64) (am : Nat → Nat) (qo : Nat) (F2 : Nat → Nat → Int32) (G2 : Nat → Nat → Int64) (k : Int32) : CW l D (TO cI cJ cZ cO) yL_placeOf (.codeWith yL_placeOf cL_placeOf 4 (some Jvm.ClassFile.FieldType.int) [((0), (9), (12), (21))]) 8 1 6 (XW ad cI cJ 0 b F G ++ MW (ao, .inl (cJ, 1, .inr (.inl g))) am cI cJ cZ cO 0 0 0 0 0 qo F2 G2) [.ref (ad 0), .int k, .ref ao] (QI D (TO cI cJ cZ cO) (fun r u => r = 1 ∧ u = MW (ao, .inl (cJ, 1, .inr (.inl g))) am cI cJ cZ cO 0 0 0 0 0 qo F2 G2)) := by
  refine entW (by decide) (Nat.le_of_ble_eq_true rfl) ?_
  intro p e s m below meth c ls A hx hb hr hg hown hml hlocks hnm hP hK hD hS hA hN hl htab hST hSR hAw
  have hl : lv_has ls 4 [(0, .ref (ad 0)), (1, .int k), (2, .ref ao)] := hl
  refine lv_aload_n hx hb dL_placeOf_0 rfl (lv_at hl 2 rfl) ?_
  refine lv_iconst (v := 0) hx hb dL_placeOf_1 (by decide) ?_
  refine lv_aload_n hx hb dL_placeOf_2 rfl (lv_at hl 0 rfl) ?_
  refine lv_iload_n hx hb dL_placeOf_3 rfl (lv_at hl 1 rfl) ?_
  have hP0 : va_P D vwCl ((XW ad cI cJ 0 b F G ++ []) ++ MW (ao, .inl (cJ, 1, .inr (.inl g))) am cI cJ cZ cO 0 0 0 0 0 qo F2 G2) s.heap := by rw [List.append_nil]; exact hP
  have hD0 : va_D A ((XW ad cI cJ 0 b F G ++ []) ++ MW (ao, .inl (cJ, 1, .inr (.inl g))) am cI cJ cZ cO 0 0 0 0 0 qo F2 G2) := by rw [List.append_nil]; exact hD
  refine kXR (rXV (q0 := 0) (ci := 7) hx hb hml hown hg hN (hK.sub (tys' := TY cI cJ cZ) [0, 1, 2] rfl) (appLP hP0) (appLD hD0) hST hSR hS hA (p_placeOf l hfl D cI cJ cZ ad b F G [] k) mw_643 mw_642 mw_644 mw_645 mw_110 pdv_X7_placeOf ⟨Nat.le_of_ble_eq_true rfl, Nat.le_of_ble_eq_true rfl⟩ rfl rfl rfl hl.1 rfl (Nat.le_of_ble_eq_true rfl) dL_placeOf_4 ⟨Nat.le_of_ble_eq_true rfl, Nat.le_of_ble_eq_true rfl⟩) hP0 hD0 hS hA (fun ce q9 H locs hpx hP hS h1 h2 h3 => ?_) (fun r9 H locs hp hP hS => ?_)
  · have hP : va_P D vwCl (MW (ao, .inl (cJ, 1, .inr (.inl g))) am cI cJ cZ cO 0 0 0 0 0 qo F2 G2) H := hP
    have hD : va_D A (MW (ao, .inl (cJ, 1, .inr (.inl g))) am cI cJ cZ cO 0 0 0 0 0 qo F2 G2) := appRD hD
    refine vx_catch (name := EIOB) (E := EIOB) hown [] ⟨0, 9, 12, 21⟩ (tableOf []) (by rw [htab]; rfl) (fun z hz => nomatch hz) (by decide) (by decide) (hg _ mw_549) (hN.use nw_107) h1 h2 h3 ?_
    refine lv_astore_n (lv' := [(3, .ref q9), (0, .ref (ad 0)), (1, .int k), (2, .ref ao)]) hx hb dL_placeOf_12 rfl hl (by decide) rfl (fun ls hl => ?_)
    refine lv_iconst (v := 1) hx hb dL_placeOf_13 (by decide) ?_
    exact W.iret (v := 1) hx hb hr (fun t ht hW => ⟨⟨1, (MW (ao, .inl (cJ, 1, .inr (.inl g))) am cI cJ cZ cO 0 0 0 0 0 qo F2 G2), rfl, ⟨rfl, rfl⟩, ⟨by rw [ht]; exact hP, va_K.moved hW.alike hK, hD⟩⟩, hS.F ht⟩) hS.2.2 dL_placeOf_14
  · have hP : va_P D vwCl (MW (ao, .inl (cJ, 1, .inr (.inl g))) am cI cJ cZ cO 0 0 0 0 0 qo F2 G2) H := hP
    have hD : va_D A (MW (ao, .inl (cJ, 1, .inr (.inl g))) am cI cJ cZ cO 0 0 0 0 0 qo F2 G2) := appRD hD
    obtain ⟨u, hu⟩ := hp
    exact hu.elim
set_option maxHeartbeats 4000000 in
set_option maxRecDepth 100000 in
theorem h_bends (l : Launch) (hfl : l.stackTraces = false) (D : va_G) (cI cJ cZ : ClassId) (cO : ClassId) (ad : Nat → Nat) (b : Nat → Int32) (F : Nat → Nat → Int32) (G : Nat → Nat → Int64) (ao : Nat) (g : Nat → Int64) (am : Nat → Nat) (qo : Nat) (F2 : Nat → Nat → Int32) (G2 : Nat → Nat → Int64) (k : Int32) : CW l D (TO cI cJ cZ cO) yL_bends (.codeWith yL_bends cL_bends 4 (some Jvm.ClassFile.FieldType.int) [((0), (9), (12), (21))]) 8 1 6 (XW ad cI cJ 0 b F G ++ MW (ao, .inl (cJ, 1, .inr (.inl g))) am cI cJ cZ cO 0 0 0 0 0 qo F2 G2) [.ref (ad 0), .int k, .ref ao] (QI D (TO cI cJ cZ cO) (fun r u => r = 1 ∧ u = MW (ao, .inl (cJ, 1, .inr (.inl g))) am cI cJ cZ cO 0 0 0 0 0 qo F2 G2)) := by
  refine entW (by decide) (Nat.le_of_ble_eq_true rfl) ?_
  intro p e s m below meth c ls A hx hb hr hg hown hml hlocks hnm hP hK hD hS hA hN hl htab hST hSR hAw
  have hl : lv_has ls 4 [(0, .ref (ad 0)), (1, .int k), (2, .ref ao)] := hl
  refine lv_aload_n hx hb dL_bends_0 rfl (lv_at hl 2 rfl) ?_
  refine lv_iconst (v := 0) hx hb dL_bends_1 (by decide) ?_
  refine lv_aload_n hx hb dL_bends_2 rfl (lv_at hl 0 rfl) ?_
  refine lv_iload_n hx hb dL_bends_3 rfl (lv_at hl 1 rfl) ?_
  have hP0 : va_P D vwCl ((XW ad cI cJ 0 b F G ++ []) ++ MW (ao, .inl (cJ, 1, .inr (.inl g))) am cI cJ cZ cO 0 0 0 0 0 qo F2 G2) s.heap := by rw [List.append_nil]; exact hP
  have hD0 : va_D A ((XW ad cI cJ 0 b F G ++ []) ++ MW (ao, .inl (cJ, 1, .inr (.inl g))) am cI cJ cZ cO 0 0 0 0 0 qo F2 G2) := by rw [List.append_nil]; exact hD
  refine kXR (rXV (q0 := 0) (ci := 7) hx hb hml hown hg hN (hK.sub (tys' := TY cI cJ cZ) [0, 1, 2] rfl) (appLP hP0) (appLD hD0) hST hSR hS hA (p_bends l hfl D cI cJ cZ ad b F G [] k) mw_647 mw_646 mw_648 mw_649 mw_110 pdv_X7_bends ⟨Nat.le_of_ble_eq_true rfl, Nat.le_of_ble_eq_true rfl⟩ rfl rfl rfl hl.1 rfl (Nat.le_of_ble_eq_true rfl) dL_bends_4 ⟨Nat.le_of_ble_eq_true rfl, Nat.le_of_ble_eq_true rfl⟩) hP0 hD0 hS hA (fun ce q9 H locs hpx hP hS h1 h2 h3 => ?_) (fun r9 H locs hp hP hS => ?_)
  · have hP : va_P D vwCl (MW (ao, .inl (cJ, 1, .inr (.inl g))) am cI cJ cZ cO 0 0 0 0 0 qo F2 G2) H := hP
    have hD : va_D A (MW (ao, .inl (cJ, 1, .inr (.inl g))) am cI cJ cZ cO 0 0 0 0 0 qo F2 G2) := appRD hD
    refine vx_catch (name := EIOB) (E := EIOB) hown [] ⟨0, 9, 12, 21⟩ (tableOf []) (by rw [htab]; rfl) (fun z hz => nomatch hz) (by decide) (by decide) (hg _ mw_549) (hN.use nw_107) h1 h2 h3 ?_
    refine lv_astore_n (lv' := [(3, .ref q9), (0, .ref (ad 0)), (1, .int k), (2, .ref ao)]) hx hb dL_bends_12 rfl hl (by decide) rfl (fun ls hl => ?_)
    refine lv_iconst (v := 1) hx hb dL_bends_13 (by decide) ?_
    exact W.iret (v := 1) hx hb hr (fun t ht hW => ⟨⟨1, (MW (ao, .inl (cJ, 1, .inr (.inl g))) am cI cJ cZ cO 0 0 0 0 0 qo F2 G2), rfl, ⟨rfl, rfl⟩, ⟨by rw [ht]; exact hP, va_K.moved hW.alike hK, hD⟩⟩, hS.F ht⟩) hS.2.2 dL_bends_14
  · have hP : va_P D vwCl (MW (ao, .inl (cJ, 1, .inr (.inl g))) am cI cJ cZ cO 0 0 0 0 0 qo F2 G2) H := hP
    have hD : va_D A (MW (ao, .inl (cJ, 1, .inr (.inl g))) am cI cJ cZ cO 0 0 0 0 0 qo F2 G2) := appRD hD
    obtain ⟨u, hu⟩ := hp
    exact hu.elim
set_option maxHeartbeats 4000000 in
set_option maxRecDepth 100000 in
theorem h_bendAt (l : Launch) (hfl : l.stackTraces = false) (D : va_G) (cI cJ cZ : ClassId) (cO : ClassId) (ad : Nat → Nat) (b : Nat → Int32) (F : Nat → Nat → Int32) (G : Nat → Nat → Int64) (ao : Nat) (g : Nat → Int64) (am : Nat → Nat) (qo : Nat) (F2 : Nat → Nat → Int32) (G2 : Nat → Nat → Int64) (k : Int32) (k2 : Int32) : CW l D (TO cI cJ cZ cO) yL_bendAt (.codeWith yL_bendAt cL_bendAt 5 (some Jvm.ClassFile.FieldType.int) [((0), (10), (13), (21))]) 8 1 6 (XW ad cI cJ 0 b F G ++ MW (ao, .inl (cJ, 1, .inr (.inl g))) am cI cJ cZ cO 0 0 0 0 0 qo F2 G2) [.ref (ad 0), .int k, .int k2, .ref ao] (QI D (TO cI cJ cZ cO) (fun r u => r = 1 ∧ u = MW (ao, .inl (cJ, 1, .inr (.inl g))) am cI cJ cZ cO 0 0 0 0 0 qo F2 G2)) := by
  refine entW (by decide) (Nat.le_of_ble_eq_true rfl) ?_
  intro p e s m below meth c ls A hx hb hr hg hown hml hlocks hnm hP hK hD hS hA hN hl htab hST hSR hAw
  have hl : lv_has ls 5 [(0, .ref (ad 0)), (1, .int k), (2, .int k2), (3, .ref ao)] := hl
  refine lv_aload_n hx hb dL_bendAt_0 rfl (lv_at hl 3 rfl) ?_
  refine lv_iconst (v := 0) hx hb dL_bendAt_1 (by decide) ?_
  refine lv_aload_n hx hb dL_bendAt_2 rfl (lv_at hl 0 rfl) ?_
  refine lv_iload_n hx hb dL_bendAt_3 rfl (lv_at hl 1 rfl) ?_
  refine lv_iload_n hx hb dL_bendAt_4 rfl (lv_at hl 2 rfl) ?_
  have hP0 : va_P D vwCl ((XW ad cI cJ 0 b F G ++ []) ++ MW (ao, .inl (cJ, 1, .inr (.inl g))) am cI cJ cZ cO 0 0 0 0 0 qo F2 G2) s.heap := by rw [List.append_nil]; exact hP
  have hD0 : va_D A ((XW ad cI cJ 0 b F G ++ []) ++ MW (ao, .inl (cJ, 1, .inr (.inl g))) am cI cJ cZ cO 0 0 0 0 0 qo F2 G2) := by rw [List.append_nil]; exact hD
  refine kXR (rXV (q0 := 0) (ci := 7) hx hb hml hown hg hN (hK.sub (tys' := TY cI cJ cZ) [0, 1, 2] rfl) (appLP hP0) (appLD hD0) hST hSR hS hA (p_bendAt l hfl D cI cJ cZ ad b F G [] k k2) mw_651 mw_650 mw_652 mw_653 mw_110 pdv_X7_bendAt ⟨Nat.le_of_ble_eq_true rfl, Nat.le_of_ble_eq_true rfl⟩ rfl rfl rfl hl.1 rfl (Nat.le_of_ble_eq_true rfl) dL_bendAt_5 ⟨Nat.le_of_ble_eq_true rfl, Nat.le_of_ble_eq_true rfl⟩) hP0 hD0 hS hA (fun ce q9 H locs hpx hP hS h1 h2 h3 => ?_) (fun r9 H locs hp hP hS => ?_)
  · have hP : va_P D vwCl (MW (ao, .inl (cJ, 1, .inr (.inl g))) am cI cJ cZ cO 0 0 0 0 0 qo F2 G2) H := hP
    have hD : va_D A (MW (ao, .inl (cJ, 1, .inr (.inl g))) am cI cJ cZ cO 0 0 0 0 0 qo F2 G2) := appRD hD
    refine vx_catch (name := EIOB) (E := EIOB) hown [] ⟨0, 10, 13, 21⟩ (tableOf []) (by rw [htab]; rfl) (fun z hz => nomatch hz) (by decide) (by decide) (hg _ mw_549) (hN.use nw_107) h1 h2 h3 ?_
    refine lv_astore (lv' := [(4, .ref q9), (0, .ref (ad 0)), (1, .int k), (2, .int k2), (3, .ref ao)]) hx hb dL_bendAt_13 hl (by decide) rfl (fun ls hl => ?_)
    refine lv_iconst (v := 1) hx hb dL_bendAt_15 (by decide) ?_
    exact W.iret (v := 1) hx hb hr (fun t ht hW => ⟨⟨1, (MW (ao, .inl (cJ, 1, .inr (.inl g))) am cI cJ cZ cO 0 0 0 0 0 qo F2 G2), rfl, ⟨rfl, rfl⟩, ⟨by rw [ht]; exact hP, va_K.moved hW.alike hK, hD⟩⟩, hS.F ht⟩) hS.2.2 dL_bendAt_16
  · have hP : va_P D vwCl (MW (ao, .inl (cJ, 1, .inr (.inl g))) am cI cJ cZ cO 0 0 0 0 0 qo F2 G2) H := hP
    have hD : va_D A (MW (ao, .inl (cJ, 1, .inr (.inl g))) am cI cJ cZ cO 0 0 0 0 0 qo F2 G2) := appRD hD
    obtain ⟨u, hu⟩ := hp
    exact hu.elim
set_option maxHeartbeats 4000000 in
set_option maxRecDepth 100000 in
theorem h_sweep (l : Launch) (hfl : l.stackTraces = false) (D : va_G) (cI cJ cZ : ClassId) (cO : ClassId) (ad : Nat → Nat) (b : Nat → Int32) (F : Nat → Nat → Int32) (G : Nat → Nat → Int64) (ao : Nat) (g : Nat → Int64) (am : Nat → Nat) (qo : Nat) (F2 : Nat → Nat → Int32) (G2 : Nat → Nat → Int64) (hb0 : ∀ k, b k = 0) (k : Int32) : CW l D (TO cI cJ cZ cO) yL_sweep (.codeWith yL_sweep cL_sweep 4 (some Jvm.ClassFile.FieldType.int) [((0), (9), (12), (13))]) 8 1 6 (XW ad cI cJ 0 b F G ++ MW (ao, .inl (cJ, 1, .inr (.inl g))) am cI cJ cZ cO 0 0 0 0 0 qo F2 G2) [.ref (ad 0), .int k, .ref ao] (QI D (TO cI cJ cZ cO) (fun r u => ∃ g', (((¬ k < 1 ∧ k ≤ 20) ∧ r = 0 ∧ g' 0 = 0) ∨ ((k < 1 ∨ ¬ k ≤ 20) ∧ r = 1)) ∧ u = MW (ao, .inl (cJ, 1, .inr (.inl g'))) am cI cJ cZ cO 0 0 0 0 0 qo F2 G2)) := by
  refine entW (by decide) (Nat.le_of_ble_eq_true rfl) ?_
  intro p e s m below meth c ls A hx hb hr hg hown hml hlocks hnm hP hK hD hS hA hN hl htab hST hSR hAw
  have hl : lv_has ls 4 [(0, .ref (ad 0)), (1, .int k), (2, .ref ao)] := hl
  refine lv_aload_n hx hb dL_sweep_0 rfl (lv_at hl 2 rfl) ?_
  refine lv_iconst (v := 0) hx hb dL_sweep_1 (by decide) ?_
  refine lv_aload_n hx hb dL_sweep_2 rfl (lv_at hl 0 rfl) ?_
  refine lv_iload_n hx hb dL_sweep_3 rfl (lv_at hl 1 rfl) ?_
  have hP0 : va_P D vwCl ((XW ad cI cJ 0 b F G ++ []) ++ MW (ao, .inl (cJ, 1, .inr (.inl g))) am cI cJ cZ cO 0 0 0 0 0 qo F2 G2) s.heap := by rw [List.append_nil]; exact hP
  have hD0 : va_D A ((XW ad cI cJ 0 b F G ++ []) ++ MW (ao, .inl (cJ, 1, .inr (.inl g))) am cI cJ cZ cO 0 0 0 0 0 qo F2 G2) := by rw [List.append_nil]; exact hD
  refine kXR (rXV (q0 := 0) (ci := 7) hx hb hml hown hg hN (hK.sub (tys' := TY cI cJ cZ) [0, 1, 2] rfl) (appLP hP0) (appLD hD0) hST hSR hS hA (p_sweep l hfl D cI cJ cZ ad b F G [] hb0 k) mw_655 mw_654 mw_656 mw_657 mw_110 pdv_X7_sweep ⟨Nat.le_of_ble_eq_true rfl, Nat.le_of_ble_eq_true rfl⟩ rfl rfl rfl hl.1 rfl (Nat.le_of_ble_eq_true rfl) dL_sweep_4 ⟨Nat.le_of_ble_eq_true rfl, Nat.le_of_ble_eq_true rfl⟩) hP0 hD0 hS hA (fun ce q9 H locs hpx hP hS h1 h2 h3 => ?_) (fun r9 H locs hp hP hS => ?_)
  · have hP : va_P D vwCl (MW (ao, .inl (cJ, 1, .inr (.inl g))) am cI cJ cZ cO 0 0 0 0 0 qo F2 G2) H := hP
    have hD : va_D A (MW (ao, .inl (cJ, 1, .inr (.inl g))) am cI cJ cZ cO 0 0 0 0 0 qo F2 G2) := appRD hD
    refine vx_catch (name := EIAE) (E := EIAE) hown [] ⟨0, 9, 12, 13⟩ (tableOf []) (by rw [htab]; rfl) (fun z hz => nomatch hz) (by decide) (by decide) (hg _ mw_544) (hN.use nw_99) h1 h2 h3 ?_
    refine lv_astore_n (lv' := [(3, .ref q9), (0, .ref (ad 0)), (1, .int k), (2, .ref ao)]) hx hb dL_sweep_12 rfl hl (by decide) rfl (fun ls hl => ?_)
    refine lv_iconst (v := 1) hx hb dL_sweep_13 (by decide) ?_
    exact W.iret (v := 1) hx hb hr (fun t ht hW => ⟨⟨1, (MW (ao, .inl (cJ, 1, .inr (.inl g))) am cI cJ cZ cO 0 0 0 0 0 qo F2 G2), rfl, ⟨_, Or.inr ⟨hpx, rfl⟩, rfl⟩, ⟨by rw [ht]; exact hP, va_K.moved hW.alike hK, hD⟩⟩, hS.F ht⟩) hS.2.2 dL_sweep_14
  · have hP : va_P D vwCl (MW (ao, .inl (cJ, 1, .inr (.inl g))) am cI cJ cZ cO 0 0 0 0 0 qo F2 G2) H := hP
    have hD : va_D A (MW (ao, .inl (cJ, 1, .inr (.inl g))) am cI cJ cZ cO 0 0 0 0 0 qo F2 G2) := appRD hD
    obtain ⟨u, hr1, hr2, -⟩ := hp
    obtain rfl : r9 = 0 := hr1
    refine lv_i2l (v := 0) hx hb dL_sweep_7 (by decide) ?_
    refine va_last hx hb hK hP hD hS 0 1 rfl rfl (by unfold vp_in; decide) dL_sweep_8 (fun H locs hP hD hS => ?_)
    have hP : va_P D vwCl (MW (ao, .inl (cJ, 1, .inr (.inl (vp_updL g (0 : Int32).toNatClampNeg 0)))) am cI cJ cZ cO 0 0 0 0 0 qo F2 G2) H := hP
    have hD : va_D A (MW (ao, .inl (cJ, 1, .inr (.inl (vp_updL g (0 : Int32).toNatClampNeg 0)))) am cI cJ cZ cO 0 0 0 0 0 qo F2 G2) := hD
    refine lv_goto (tgt := 15) hx hb dL_sweep_9 (by decide) ?_
    refine lv_iconst (v := 0) hx hb dL_sweep_15 (by decide) ?_
    exact W.iret (v := 0) hx hb hr (fun t ht hW => ⟨⟨0, (MW (ao, .inl (cJ, 1, .inr (.inl (vp_updL g (0 : Int32).toNatClampNeg 0)))) am cI cJ cZ cO 0 0 0 0 0 qo F2 G2), rfl, ⟨_, Or.inl ⟨hr2, rfl, rfl⟩, rfl⟩, ⟨by rw [ht]; exact hP, va_K.moved hW.alike hK, hD⟩⟩, hS.F ht⟩) hS.2.2 dL_sweep_16
set_option maxHeartbeats 4000000 in
set_option maxRecDepth 100000 in
theorem h_wouldCross (l : Launch) (hfl : l.stackTraces = false) (D : va_G) (cI cJ cZ : ClassId) (cO : ClassId) (ad : Nat → Nat) (b : Nat → Int32) (F : Nat → Nat → Int32) (G : Nat → Nat → Int64) (ao : Nat) (g : Nat → Int64) (am : Nat → Nat) (qo : Nat) (F2 : Nat → Nat → Int32) (G2 : Nat → Nat → Int64) (hb0 : ∀ k, b k = 0) (k : Int32) : CW l D (TO cI cJ cZ cO) yL_wouldCross (.codeWith yL_wouldCross cL_wouldCross 4 (some Jvm.ClassFile.FieldType.int) [((0), (9), (12), (13))]) 8 1 6 (XW ad cI cJ 0 b F G ++ MW (ao, .inl (cJ, 1, .inr (.inl g))) am cI cJ cZ cO 0 0 0 0 0 qo F2 G2) [.ref (ad 0), .int k, .ref ao] (QI D (TO cI cJ cZ cO) (fun r u => ∃ g', (((¬ k < 1 ∧ k ≤ 20) ∧ r = 0 ∧ g' 0 = 0) ∨ ((k < 1 ∨ ¬ k ≤ 20) ∧ r = 1)) ∧ u = MW (ao, .inl (cJ, 1, .inr (.inl g'))) am cI cJ cZ cO 0 0 0 0 0 qo F2 G2)) := by
  refine entW (by decide) (Nat.le_of_ble_eq_true rfl) ?_
  intro p e s m below meth c ls A hx hb hr hg hown hml hlocks hnm hP hK hD hS hA hN hl htab hST hSR hAw
  have hl : lv_has ls 4 [(0, .ref (ad 0)), (1, .int k), (2, .ref ao)] := hl
  refine lv_aload_n hx hb dL_wouldCross_0 rfl (lv_at hl 2 rfl) ?_
  refine lv_iconst (v := 0) hx hb dL_wouldCross_1 (by decide) ?_
  refine lv_aload_n hx hb dL_wouldCross_2 rfl (lv_at hl 0 rfl) ?_
  refine lv_iload_n hx hb dL_wouldCross_3 rfl (lv_at hl 1 rfl) ?_
  have hP0 : va_P D vwCl ((XW ad cI cJ 0 b F G ++ []) ++ MW (ao, .inl (cJ, 1, .inr (.inl g))) am cI cJ cZ cO 0 0 0 0 0 qo F2 G2) s.heap := by rw [List.append_nil]; exact hP
  have hD0 : va_D A ((XW ad cI cJ 0 b F G ++ []) ++ MW (ao, .inl (cJ, 1, .inr (.inl g))) am cI cJ cZ cO 0 0 0 0 0 qo F2 G2) := by rw [List.append_nil]; exact hD
  refine kXR (rXV (q0 := 0) (ci := 7) hx hb hml hown hg hN (hK.sub (tys' := TY cI cJ cZ) [0, 1, 2] rfl) (appLP hP0) (appLD hD0) hST hSR hS hA (p_wouldCross l hfl D cI cJ cZ ad b F G [] hb0 k) mw_659 mw_658 mw_660 mw_661 mw_110 pdv_X7_wouldCross ⟨Nat.le_of_ble_eq_true rfl, Nat.le_of_ble_eq_true rfl⟩ rfl rfl rfl hl.1 rfl (Nat.le_of_ble_eq_true rfl) dL_wouldCross_4 ⟨Nat.le_of_ble_eq_true rfl, Nat.le_of_ble_eq_true rfl⟩) hP0 hD0 hS hA (fun ce q9 H locs hpx hP hS h1 h2 h3 => ?_) (fun r9 H locs hp hP hS => ?_)
  · have hP : va_P D vwCl (MW (ao, .inl (cJ, 1, .inr (.inl g))) am cI cJ cZ cO 0 0 0 0 0 qo F2 G2) H := hP
    have hD : va_D A (MW (ao, .inl (cJ, 1, .inr (.inl g))) am cI cJ cZ cO 0 0 0 0 0 qo F2 G2) := appRD hD
    refine vx_catch (name := EIAE) (E := EIAE) hown [] ⟨0, 9, 12, 13⟩ (tableOf []) (by rw [htab]; rfl) (fun z hz => nomatch hz) (by decide) (by decide) (hg _ mw_544) (hN.use nw_99) h1 h2 h3 ?_
    refine lv_astore_n (lv' := [(3, .ref q9), (0, .ref (ad 0)), (1, .int k), (2, .ref ao)]) hx hb dL_wouldCross_12 rfl hl (by decide) rfl (fun ls hl => ?_)
    refine lv_iconst (v := 1) hx hb dL_wouldCross_13 (by decide) ?_
    exact W.iret (v := 1) hx hb hr (fun t ht hW => ⟨⟨1, (MW (ao, .inl (cJ, 1, .inr (.inl g))) am cI cJ cZ cO 0 0 0 0 0 qo F2 G2), rfl, ⟨_, Or.inr ⟨hpx, rfl⟩, rfl⟩, ⟨by rw [ht]; exact hP, va_K.moved hW.alike hK, hD⟩⟩, hS.F ht⟩) hS.2.2 dL_wouldCross_14
  · have hP : va_P D vwCl (MW (ao, .inl (cJ, 1, .inr (.inl g))) am cI cJ cZ cO 0 0 0 0 0 qo F2 G2) H := hP
    have hD : va_D A (MW (ao, .inl (cJ, 1, .inr (.inl g))) am cI cJ cZ cO 0 0 0 0 0 qo F2 G2) := appRD hD
    obtain ⟨u, hr1, hr2, -⟩ := hp
    obtain rfl : r9 = 0 := hr1
    refine lv_i2l (v := 0) hx hb dL_wouldCross_7 (by decide) ?_
    refine va_last hx hb hK hP hD hS 0 1 rfl rfl (by unfold vp_in; decide) dL_wouldCross_8 (fun H locs hP hD hS => ?_)
    have hP : va_P D vwCl (MW (ao, .inl (cJ, 1, .inr (.inl (vp_updL g (0 : Int32).toNatClampNeg 0)))) am cI cJ cZ cO 0 0 0 0 0 qo F2 G2) H := hP
    have hD : va_D A (MW (ao, .inl (cJ, 1, .inr (.inl (vp_updL g (0 : Int32).toNatClampNeg 0)))) am cI cJ cZ cO 0 0 0 0 0 qo F2 G2) := hD
    refine lv_goto (tgt := 15) hx hb dL_wouldCross_9 (by decide) ?_
    refine lv_iconst (v := 0) hx hb dL_wouldCross_15 (by decide) ?_
    exact W.iret (v := 0) hx hb hr (fun t ht hW => ⟨⟨0, (MW (ao, .inl (cJ, 1, .inr (.inl (vp_updL g (0 : Int32).toNatClampNeg 0)))) am cI cJ cZ cO 0 0 0 0 0 qo F2 G2), rfl, ⟨_, Or.inl ⟨hr2, rfl, rfl⟩, rfl⟩, ⟨by rw [ht]; exact hP, va_K.moved hW.alike hK, hD⟩⟩, hS.F ht⟩) hS.2.2 dL_wouldCross_16
