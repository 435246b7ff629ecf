theorem dX8_has_0 : decode cX8_has 0 = .ok (.lload_n 0, 1) := by decide +kernel
theorem dX8_has_1 : decode cX8_has 1 = .ok (.iload_n 2, 1) := by decide +kernel
theorem dX8_has_2 : decode cX8_has 2 = .ok (.lshr, 1) := by decide +kernel
theorem dX8_has_3 : decode cX8_has 3 = .ok (.lconst 1, 1) := by decide +kernel
theorem dX8_has_4 : decode cX8_has 4 = .ok (.land, 1) := by decide +kernel
theorem dX8_has_5 : decode cX8_has 5 = .ok (.lconst 0, 1) := by decide +kernel
theorem dX8_has_6 : decode cX8_has 6 = .ok (.lcmp, 1) := by decide +kernel
theorem dX8_has_7 : decode cX8_has 7 = .ok (.ifCond .eq 7, 3) := by decide +kernel
theorem dX8_has_14 : decode cX8_has 14 = .ok (.iconst 0, 1) := by decide +kernel
theorem dX8_has_15 : decode cX8_has 15 = .ok (.ireturn, 1) := by decide +kernel
theorem dX8_is_0 : decode cX8_is 0 = .ok (.iload_n 0, 1) := by decide +kernel
theorem dX8_is_1 : decode cX8_is 1 = .ok (.iload_n 1, 1) := by decide +kernel
theorem dX8_is_2 : decode cX8_is 2 = .ok (.if_icmp .lt 12, 3) := by decide +kernel
theorem dX8_is_5 : decode cX8_is 5 = .ok (.iload_n 0, 1) := by decide +kernel
theorem dX8_is_6 : decode cX8_is 6 = .ok (.iload_n 2, 1) := by decide +kernel
theorem dX8_is_7 : decode cX8_is 7 = .ok (.if_icmp .gt 7, 3) := by decide +kernel
theorem dX8_is_10 : decode cX8_is 10 = .ok (.iconst 1, 1) := by decide +kernel
theorem dX8_is_11 : decode cX8_is 11 = .ok (.goto 4, 3) := by decide +kernel
theorem dX8_is_14 : decode cX8_is 14 = .ok (.iconst 0, 1) := by decide +kernel
theorem dX8_is_15 : decode cX8_is 15 = .ok (.ireturn, 1) := by decide +kernel
theorem dX8_isJump_0 : decode cX8_isJump 0 = .ok (.iload_n 0, 1) := by decide +kernel
theorem dX8_isJump_1 : decode cX8_isJump 1 = .ok (.iconst 1, 1) := by decide +kernel
theorem dX8_isJump_2 : decode cX8_isJump 2 = .ok (.if_icmp .eq 8, 3) := by decide +kernel
theorem dX8_isJump_5 : decode cX8_isJump 5 = .ok (.iload_n 0, 1) := by decide +kernel
theorem dX8_isJump_6 : decode cX8_isJump 6 = .ok (.iconst 2, 1) := by decide +kernel
theorem dX8_isJump_7 : decode cX8_isJump 7 = .ok (.if_icmp .ne 7, 3) := by decide +kernel
theorem dX8_isJump_10 : decode cX8_isJump 10 = .ok (.iconst 1, 1) := by decide +kernel
theorem dX8_isJump_11 : decode cX8_isJump 11 = .ok (.goto 4, 3) := by decide +kernel
theorem dX8_isJump_14 : decode cX8_isJump 14 = .ok (.iconst 0, 1) := by decide +kernel
theorem dX8_isJump_15 : decode cX8_isJump 15 = .ok (.ireturn, 1) := by decide +kernel
theorem dX8_refuse_0 : decode cX8_refuse 0 = .ok (.aload_n 0, 1) := by decide +kernel
theorem dX8_refuse_1 : decode cX8_refuse 1 = .ok (.iload_n 1, 1) := by decide +kernel
theorem dX8_refuse_2 : decode cX8_refuse 2 = .ok (.putfield 74, 3) := by decide +kernel
theorem dX8_refuse_5 : decode cX8_refuse 5 = .ok (.iconst 0, 1) := by decide +kernel
theorem dX8_refuse_6 : decode cX8_refuse 6 = .ok (.ireturn, 1) := by decide +kernel
theorem dX8_thrown_0 : decode cX8_thrown 0 = .ok (.aload_n 0, 1) := by decide +kernel
theorem dX8_thrown_1 : decode cX8_thrown 1 = .ok (.getfield 74, 3) := by decide +kernel
theorem dX8_thrown_4 : decode cX8_thrown 4 = .ok (.ireturn, 1) := by decide +kernel
theorem dX8_isInstruction_0 : decode cX8_isInstruction 0 = .ok (.iload_n 1, 1) := by decide +kernel
theorem dX8_isInstruction_1 : decode cX8_isInstruction 1 = .ok (.iconst 0, 1) := by decide +kernel
theorem dX8_isInstruction_2 : decode cX8_isInstruction 2 = .ok (.aload_n 0, 1) := by decide +kernel
theorem dX8_isInstruction_3 : decode cX8_isInstruction 3 = .ok (.getfield 78, 3) := by decide +kernel
theorem dX8_isInstruction_6 : decode cX8_isInstruction 6 = .ok (.iconst 1, 1) := by decide +kernel
theorem dX8_isInstruction_7 : decode cX8_isInstruction 7 = .ok (.isub, 1) := by decide +kernel
theorem dX8_isInstruction_8 : decode cX8_isInstruction 8 = .ok (.invokestatic 261, 3) := by decide +kernel
theorem dX8_isInstruction_11 : decode cX8_isInstruction 11 = .ok (.ireturn, 1) := by decide +kernel
theorem dX8_beginAnew_0 : decode cX8_beginAnew 0 = .ok (.aload_n 0, 1) := by decide +kernel
theorem dX8_beginAnew_1 : decode cX8_beginAnew 1 = .ok (.iconst 0, 1) := by decide +kernel
theorem dX8_beginAnew_2 : decode cX8_beginAnew 2 = .ok (.putfield 84, 3) := by decide +kernel
theorem dX8_beginAnew_5 : decode cX8_beginAnew 5 = .ok (.aload_n 0, 1) := by decide +kernel
theorem dX8_beginAnew_6 : decode cX8_beginAnew 6 = .ok (.iconst 0, 1) := by decide +kernel
theorem dX8_beginAnew_7 : decode cX8_beginAnew 7 = .ok (.putfield 228, 3) := by decide +kernel
theorem dX8_beginAnew_10 : decode cX8_beginAnew 10 = .ok (.return_, 1) := by decide +kernel
theorem dX8_layLive_0 : decode cX8_layLive 0 = .ok (.aload_n 0, 1) := by decide +kernel
theorem dX8_layLive_1 : decode cX8_layLive 1 = .ok (.getfield 41, 3) := by decide +kernel
theorem dX8_layLive_4 : decode cX8_layLive 4 = .ok (.iconst 0, 1) := by decide +kernel
theorem dX8_layLive_5 : decode cX8_layLive 5 = .ok (.invokestatic 143, 3) := by decide +kernel
theorem dX8_layLive_8 : decode cX8_layLive 8 = .ok (.iconst 1, 1) := by decide +kernel
theorem dX8_layLive_9 : decode cX8_layLive 9 = .ok (.istore_n 1, 1) := by decide +kernel
theorem dX8_layLive_10 : decode cX8_layLive 10 = .ok (.iload_n 1, 1) := by decide +kernel
theorem dX8_layLive_11 : decode cX8_layLive 11 = .ok (.ifCond .eq 92, 3) := by decide +kernel
theorem dX8_layLive_14 : decode cX8_layLive 14 = .ok (.iconst 0, 1) := by decide +kernel
theorem dX8_layLive_15 : decode cX8_layLive 15 = .ok (.istore_n 1, 1) := by decide +kernel
theorem dX8_layLive_16 : decode cX8_layLive 16 = .ok (.iconst 0, 1) := by decide +kernel
theorem dX8_layLive_17 : decode cX8_layLive 17 = .ok (.istore_n 2, 1) := by decide +kernel
theorem dX8_layLive_18 : decode cX8_layLive 18 = .ok (.iload_n 2, 1) := by decide +kernel
theorem dX8_layLive_19 : decode cX8_layLive 19 = .ok (.aload_n 0, 1) := by decide +kernel
theorem dX8_layLive_20 : decode cX8_layLive 20 = .ok (.getfield 88, 3) := by decide +kernel
theorem dX8_layLive_23 : decode cX8_layLive 23 = .ok (.if_icmp .ge 77, 3) := by decide +kernel
theorem dX8_layLive_100 : decode cX8_layLive 100 = .ok (.goto (-90), 3) := by decide +kernel
theorem dX8_layLive_103 : decode cX8_layLive 103 = .ok (.return_, 1) := by decide +kernel
theorem dX8_reduce_0 : decode cX8_reduce 0 = .ok (.aload_n 0, 1) := by decide +kernel
theorem dX8_reduce_1 : decode cX8_reduce 1 = .ok (.getfield 44, 3) := by decide +kernel
theorem dX8_reduce_4 : decode cX8_reduce 4 = .ok (.lconst 0, 1) := by decide +kernel
theorem dX8_reduce_5 : decode cX8_reduce 5 = .ok (.invokestatic 162, 3) := by decide +kernel
theorem dX8_reduce_8 : decode cX8_reduce 8 = .ok (.iconst 0, 1) := by decide +kernel
theorem dX8_reduce_9 : decode cX8_reduce 9 = .ok (.istore_n 1, 1) := by decide +kernel
theorem dX8_reduce_10 : decode cX8_reduce 10 = .ok (.iload_n 1, 1) := by decide +kernel
theorem dX8_reduce_11 : decode cX8_reduce 11 = .ok (.aload_n 0, 1) := by decide +kernel
theorem dX8_reduce_12 : decode cX8_reduce 12 = .ok (.getfield 81, 3) := by decide +kernel
theorem dX8_reduce_15 : decode cX8_reduce 15 = .ok (.if_icmp .ge 54, 3) := by decide +kernel
theorem dX8_reduce_69 : decode cX8_reduce 69 = .ok (.iconst 0, 1) := by decide +kernel
theorem dX8_reduce_70 : decode cX8_reduce 70 = .ok (.istore_n 1, 1) := by decide +kernel
theorem dX8_reduce_71 : decode cX8_reduce 71 = .ok (.iload_n 1, 1) := by decide +kernel
theorem dX8_reduce_72 : decode cX8_reduce 72 = .ok (.aload_n 0, 1) := by decide +kernel
theorem dX8_reduce_73 : decode cX8_reduce 73 = .ok (.getfield 88, 3) := by decide +kernel
theorem dX8_reduce_76 : decode cX8_reduce 76 = .ok (.if_icmp .ge 28, 3) := by decide +kernel
theorem dX8_reduce_104 : decode cX8_reduce 104 = .ok (.aload_n 0, 1) := by decide +kernel
theorem dX8_reduce_105 : decode cX8_reduce 105 = .ok (.aload_n 0, 1) := by decide +kernel
theorem dX8_reduce_106 : decode cX8_reduce 106 = .ok (.getfield 107, 3) := by decide +kernel
theorem dX8_reduce_109 : decode cX8_reduce 109 = .ok (.putfield 165, 3) := by decide +kernel
theorem dX8_reduce_112 : decode cX8_reduce 112 = .ok (.aload_n 0, 1) := by decide +kernel
theorem dX8_reduce_113 : decode cX8_reduce 113 = .ok (.iconst 0, 1) := by decide +kernel
theorem dX8_reduce_114 : decode cX8_reduce 114 = .ok (.putfield 168, 3) := by decide +kernel
theorem dX8_reduce_117 : decode cX8_reduce 117 = .ok (.iconst 1, 1) := by decide +kernel
theorem dX8_reduce_118 : decode cX8_reduce 118 = .ok (.istore_n 1, 1) := by decide +kernel
theorem dX8_reduce_119 : decode cX8_reduce 119 = .ok (.iload_n 1, 1) := by decide +kernel
theorem dX8_reduce_120 : decode cX8_reduce 120 = .ok (.ifCond .eq 53, 3) := by decide +kernel
theorem dX8_reduce_123 : decode cX8_reduce 123 = .ok (.iconst 0, 1) := by decide +kernel
theorem dX8_reduce_124 : decode cX8_reduce 124 = .ok (.istore_n 1, 1) := by decide +kernel
theorem dX8_reduce_125 : decode cX8_reduce 125 = .ok (.iconst 0, 1) := by decide +kernel
theorem dX8_reduce_126 : decode cX8_reduce 126 = .ok (.istore_n 2, 1) := by decide +kernel
theorem dX8_reduce_127 : decode cX8_reduce 127 = .ok (.iload_n 2, 1) := by decide +kernel
theorem dX8_reduce_128 : decode cX8_reduce 128 = .ok (.aload_n 0, 1) := by decide +kernel
theorem dX8_reduce_129 : decode cX8_reduce 129 = .ok (.getfield 88, 3) := by decide +kernel
theorem dX8_reduce_132 : decode cX8_reduce 132 = .ok (.if_icmp .ge 38, 3) := by decide +kernel
theorem dX8_reduce_170 : decode cX8_reduce 170 = .ok (.goto (-51), 3) := by decide +kernel
theorem dX8_reduce_173 : decode cX8_reduce 173 = .ok (.return_, 1) := by decide +kernel
theorem dX8_layLayers_0 : decode cX8_layLayers 0 = .ok (.aload_n 0, 1) := by decide +kernel
theorem dX8_layLayers_1 : decode cX8_layLayers 1 = .ok (.getfield 56, 3) := by decide +kernel
theorem dX8_layLayers_4 : decode cX8_layLayers 4 = .ok (.iconst 0, 1) := by decide +kernel
theorem dX8_layLayers_5 : decode cX8_layLayers 5 = .ok (.invokestatic 143, 3) := by decide +kernel
theorem dX8_layLayers_8 : decode cX8_layLayers 8 = .ok (.aload_n 0, 1) := by decide +kernel
theorem dX8_layLayers_9 : decode cX8_layLayers 9 = .ok (.getfield 62, 3) := by decide +kernel
theorem dX8_layLayers_12 : decode cX8_layLayers 12 = .ok (.iconst 0, 1) := by decide +kernel
theorem dX8_layLayers_13 : decode cX8_layLayers 13 = .ok (.invokestatic 213, 3) := by decide +kernel
theorem dX8_layLayers_16 : decode cX8_layLayers 16 = .ok (.aload_n 0, 1) := by decide +kernel
theorem dX8_layLayers_17 : decode cX8_layLayers 17 = .ok (.getfield 66, 3) := by decide +kernel
theorem dX8_layLayers_20 : decode cX8_layLayers 20 = .ok (.iconst 0, 1) := by decide +kernel
theorem dX8_layLayers_21 : decode cX8_layLayers 21 = .ok (.invokestatic 143, 3) := by decide +kernel
theorem dX8_layLayers_24 : decode cX8_layLayers 24 = .ok (.aload_n 0, 1) := by decide +kernel
theorem dX8_layLayers_25 : decode cX8_layLayers 25 = .ok (.iconst 0, 1) := by decide +kernel
theorem dX8_layLayers_26 : decode cX8_layLayers 26 = .ok (.putfield 206, 3) := by decide +kernel
theorem dX8_layLayers_29 : decode cX8_layLayers 29 = .ok (.aload_n 0, 1) := by decide +kernel
theorem dX8_layLayers_30 : decode cX8_layLayers 30 = .ok (.iconst 0, 1) := by decide +kernel
theorem dX8_layLayers_31 : decode cX8_layLayers 31 = .ok (.putfield 216, 3) := by decide +kernel
theorem dX8_layLayers_34 : decode cX8_layLayers 34 = .ok (.aload_n 0, 1) := by decide +kernel
theorem dX8_layLayers_35 : decode cX8_layLayers 35 = .ok (.getfield 78, 3) := by decide +kernel
theorem dX8_layLayers_38 : decode cX8_layLayers 38 = .ok (.ifCond .le 8, 3) := by decide +kernel
theorem dX8_layLayers_46 : decode cX8_layLayers 46 = .ok (.iconst 1, 1) := by decide +kernel
theorem dX8_layLayers_47 : decode cX8_layLayers 47 = .ok (.istore_n 1, 1) := by decide +kernel
theorem dX8_layLayers_48 : decode cX8_layLayers 48 = .ok (.iload_n 1, 1) := by decide +kernel
theorem dX8_layLayers_49 : decode cX8_layLayers 49 = .ok (.ifCond .eq 82, 3) := by decide +kernel
theorem dX8_layLayers_52 : decode cX8_layLayers 52 = .ok (.iconst 0, 1) := by decide +kernel
theorem dX8_layLayers_53 : decode cX8_layLayers 53 = .ok (.istore_n 1, 1) := by decide +kernel
theorem dX8_layLayers_54 : decode cX8_layLayers 54 = .ok (.iconst 0, 1) := by decide +kernel
theorem dX8_layLayers_55 : decode cX8_layLayers 55 = .ok (.istore_n 2, 1) := by decide +kernel
theorem dX8_layLayers_56 : decode cX8_layLayers 56 = .ok (.iload_n 2, 1) := by decide +kernel
theorem dX8_layLayers_57 : decode cX8_layLayers 57 = .ok (.aload_n 0, 1) := by decide +kernel
theorem dX8_layLayers_58 : decode cX8_layLayers 58 = .ok (.getfield 81, 3) := by decide +kernel
theorem dX8_layLayers_61 : decode cX8_layLayers 61 = .ok (.if_icmp .ge 67, 3) := by decide +kernel
theorem dX8_layLayers_128 : decode cX8_layLayers 128 = .ok (.goto (-80), 3) := by decide +kernel
theorem dX8_layLayers_131 : decode cX8_layLayers 131 = .ok (.iconst 0, 1) := by decide +kernel
theorem dX8_layLayers_132 : decode cX8_layLayers 132 = .ok (.istore_n 2, 1) := by decide +kernel
theorem dX8_layLayers_133 : decode cX8_layLayers 133 = .ok (.iload_n 2, 1) := by decide +kernel
theorem dX8_layLayers_134 : decode cX8_layLayers 134 = .ok (.aload_n 0, 1) := by decide +kernel
theorem dX8_layLayers_135 : decode cX8_layLayers 135 = .ok (.getfield 206, 3) := by decide +kernel
theorem dX8_layLayers_138 : decode cX8_layLayers 138 = .ok (.if_icmp .ge 33, 3) := by decide +kernel
theorem dX8_layLayers_171 : decode cX8_layLayers 171 = .ok (.aload_n 0, 1) := by decide +kernel
theorem dX8_layLayers_172 : decode cX8_layLayers 172 = .ok (.getfield 228, 3) := by decide +kernel
theorem dX8_layLayers_175 : decode cX8_layLayers 175 = .ok (.ifCond .le 4, 3) := by decide +kernel
theorem dX8_layLayers_179 : decode cX8_layLayers 179 = .ok (.aload_n 0, 1) := by decide +kernel
theorem dX8_layLayers_180 : decode cX8_layLayers 180 = .ok (.aload_n 0, 1) := by decide +kernel
theorem dX8_layLayers_181 : decode cX8_layLayers 181 = .ok (.getfield 216, 3) := by decide +kernel
theorem dX8_layLayers_184 : decode cX8_layLayers 184 = .ok (.anewarray 69, 3) := by decide +kernel
theorem dX8_layLayers_187 : decode cX8_layLayers 187 = .ok (.putfield 70, 3) := by decide +kernel
theorem dX8_layLayers_190 : decode cX8_layLayers 190 = .ok (.iconst 0, 1) := by decide +kernel
theorem dX8_layLayers_191 : decode cX8_layLayers 191 = .ok (.istore_n 2, 1) := by decide +kernel
theorem dX8_layLayers_192 : decode cX8_layLayers 192 = .ok (.iload_n 2, 1) := by decide +kernel
theorem dX8_layLayers_193 : decode cX8_layLayers 193 = .ok (.aload_n 0, 1) := by decide +kernel
theorem dX8_layLayers_194 : decode cX8_layLayers 194 = .ok (.getfield 216, 3) := by decide +kernel
theorem dX8_layLayers_197 : decode cX8_layLayers 197 = .ok (.if_icmp .ge 20, 3) := by decide +kernel
theorem dX8_layLayers_217 : decode cX8_layLayers 217 = .ok (.return_, 1) := by decide +kernel
theorem dX8_lay_0 : decode cX8_lay 0 = .ok (.aload_n 0, 1) := by decide +kernel
theorem dX8_lay_1 : decode cX8_lay 1 = .ok (.getfield 84, 3) := by decide +kernel
theorem dX8_lay_4 : decode cX8_lay 4 = .ok (.ifCond .eq 4, 3) := by decide +kernel
theorem dX8_lay_8 : decode cX8_lay 8 = .ok (.aload_n 0, 1) := by decide +kernel
theorem dX8_lay_9 : decode cX8_lay 9 = .ok (.iconst 1, 1) := by decide +kernel
theorem dX8_lay_10 : decode cX8_lay 10 = .ok (.putfield 84, 3) := by decide +kernel
theorem dX8_lay_13 : decode cX8_lay 13 = .ok (.aload_n 0, 1) := by decide +kernel
theorem dX8_lay_14 : decode cX8_lay 14 = .ok (.iconst 0, 1) := by decide +kernel
theorem dX8_lay_15 : decode cX8_lay 15 = .ok (.putfield 88, 3) := by decide +kernel
theorem dX8_lay_18 : decode cX8_lay 18 = .ok (.aload_n 0, 1) := by decide +kernel
theorem dX8_lay_19 : decode cX8_lay 19 = .ok (.iconst 0, 1) := by decide +kernel
theorem dX8_lay_20 : decode cX8_lay 20 = .ok (.putfield 81, 3) := by decide +kernel
theorem dX8_lay_23 : decode cX8_lay 23 = .ok (.iconst 0, 1) := by decide +kernel
theorem dX8_lay_24 : decode cX8_lay 24 = .ok (.istore_n 1, 1) := by decide +kernel
theorem dX8_lay_25 : decode cX8_lay 25 = .ok (.iload_n 1, 1) := by decide +kernel
theorem dX8_lay_26 : decode cX8_lay 26 = .ok (.aload_n 0, 1) := by decide +kernel
theorem dX8_lay_27 : decode cX8_lay 27 = .ok (.getfield 78, 3) := by decide +kernel
theorem dX8_lay_30 : decode cX8_lay 30 = .ok (.if_icmp .ge 49, 3) := by decide +kernel
theorem dX8_lay_79 : decode cX8_lay 79 = .ok (.aload_n 0, 1) := by decide +kernel
theorem dX8_lay_80 : decode cX8_lay 80 = .ok (.getfield 25, 3) := by decide +kernel
theorem dX8_lay_83 : decode cX8_lay 83 = .ok (.aload_n 0, 1) := by decide +kernel
theorem dX8_lay_84 : decode cX8_lay 84 = .ok (.getfield 88, 3) := by decide +kernel
theorem dX8_lay_87 : decode cX8_lay 87 = .ok (.aload_n 0, 1) := by decide +kernel
theorem dX8_lay_88 : decode cX8_lay 88 = .ok (.getfield 78, 3) := by decide +kernel
theorem dX8_lay_91 : decode cX8_lay 91 = .ok (.iastore, 1) := by decide +kernel
theorem dX8_lay_92 : decode cX8_lay 92 = .ok (.iconst 0, 1) := by decide +kernel
theorem dX8_lay_93 : decode cX8_lay 93 = .ok (.istore_n 1, 1) := by decide +kernel
theorem dX8_lay_94 : decode cX8_lay 94 = .ok (.iload_n 1, 1) := by decide +kernel
theorem dX8_lay_95 : decode cX8_lay 95 = .ok (.aload_n 0, 1) := by decide +kernel
theorem dX8_lay_96 : decode cX8_lay 96 = .ok (.getfield 88, 3) := by decide +kernel
theorem dX8_lay_99 : decode cX8_lay 99 = .ok (.if_icmp .ge 159, 3) := by decide +kernel
theorem dX8_lay_258 : decode cX8_lay 258 = .ok (.aload_n 0, 1) := by decide +kernel
theorem dX8_lay_259 : decode cX8_lay 259 = .ok (.aload_n 0, 1) := by decide +kernel
theorem dX8_lay_260 : decode cX8_lay 260 = .ok (.getfield 78, 3) := by decide +kernel
theorem dX8_lay_263 : decode cX8_lay 263 = .ok (.ifCond .ne 7, 3) := by decide +kernel
theorem dX8_lay_266 : decode cX8_lay 266 = .ok (.lconst 0, 1) := by decide +kernel
theorem dX8_lay_267 : decode cX8_lay 267 = .ok (.goto 9, 3) := by decide +kernel
theorem dX8_lay_276 : decode cX8_lay 276 = .ok (.putfield 107, 3) := by decide +kernel
theorem dX8_lay_279 : decode cX8_lay 279 = .ok (.iconst 0, 1) := by decide +kernel
theorem dX8_lay_280 : decode cX8_lay 280 = .ok (.istore_n 1, 1) := by decide +kernel
theorem dX8_lay_281 : decode cX8_lay 281 = .ok (.iload_n 1, 1) := by decide +kernel
theorem dX8_lay_282 : decode cX8_lay 282 = .ok (.aload_n 0, 1) := by decide +kernel
theorem dX8_lay_283 : decode cX8_lay 283 = .ok (.getfield 88, 3) := by decide +kernel
theorem dX8_lay_286 : decode cX8_lay 286 = .ok (.if_icmp .ge 23, 3) := by decide +kernel
theorem dX8_lay_309 : decode cX8_lay 309 = .ok (.iconst 0, 1) := by decide +kernel
theorem dX8_lay_310 : decode cX8_lay 310 = .ok (.istore_n 1, 1) := by decide +kernel
theorem dX8_lay_311 : decode cX8_lay 311 = .ok (.iload_n 1, 1) := by decide +kernel
theorem dX8_lay_312 : decode cX8_lay 312 = .ok (.aload_n 0, 1) := by decide +kernel
theorem dX8_lay_313 : decode cX8_lay 313 = .ok (.getfield 88, 3) := by decide +kernel
theorem dX8_lay_316 : decode cX8_lay 316 = .ok (.if_icmp .ge 20, 3) := by decide +kernel
theorem dX8_lay_336 : decode cX8_lay 336 = .ok (.aload_n 0, 1) := by decide +kernel
theorem dX8_lay_337 : decode cX8_lay 337 = .ok (.invokevirtual 115, 3) := by decide +kernel
theorem dX8_lay_340 : decode cX8_lay 340 = .ok (.aload_n 0, 1) := by decide +kernel
theorem dX8_lay_341 : decode cX8_lay 341 = .ok (.invokevirtual 118, 3) := by decide +kernel
theorem dX8_lay_344 : decode cX8_lay 344 = .ok (.aload_n 0, 1) := by decide +kernel
theorem dX8_lay_345 : decode cX8_lay 345 = .ok (.invokevirtual 121, 3) := by decide +kernel
theorem dX8_lay_348 : decode cX8_lay 348 = .ok (.return_, 1) := by decide +kernel
theorem mw_343 : Cond.fieldLink RX8 74 "OrielChartModel" "thrown" "I" ∈ GW := gw_mem (inT5 _ (List.mem_of_getElem? (i := 162) rfl)) rfl
theorem mw_344 : Cond.fieldLink RX8 78 "OrielChartModel" "many" "I" ∈ GW := gw_mem (inT5 _ (List.mem_of_getElem? (i := 163) rfl)) rfl
theorem mw_345 : Cond.code yX8_is cX8_is 3 (some Jvm.ClassFile.FieldType.boolean) ∈ GW := gw_mem (inT6 _ (List.mem_of_getElem? (i := 30) rfl)) rfl
theorem mw_346 : Cond.methodLink RX8 261 yX8_is ∈ GW := gw_mem (inT6 _ (List.mem_of_getElem? (i := 28) rfl)) rfl
theorem mw_347 : Cond.static yX8_is ∈ GW := gw_mem (inT6 _ (List.mem_of_getElem? (i := 29) rfl)) rfl
theorem mw_348 : Cond.initialized RX8 ∈ GW := gw_mem (inT1 _ (List.mem_of_getElem? (i := 9) rfl)) rfl
theorem mw_349 : Cond.fieldLink RX8 84 "OrielChartModel" "isLaid" "Z" ∈ GW := gw_mem (inT5 _ (List.mem_of_getElem? (i := 168) rfl)) rfl
theorem mw_350 : Cond.fieldLink RX8 228 "OrielChartModel" "swept" "I" ∈ GW := gw_mem (inT5 _ (List.mem_of_getElem? (i := 192) rfl)) rfl
theorem mw_351 : Cond.fieldLink RX8 41 "OrielChartModel" "live" "[I" ∈ GW := gw_mem (inT5 _ (List.mem_of_getElem? (i := 178) rfl)) rfl
theorem mw_352 : Cond.code yJ7_fill_53178 cJ7_fill_53178 4 (none : Option FieldType) ∈ GW := gw_mem (inT6 _ (List.mem_of_getElem? (i := 127) rfl)) rfl
theorem mw_353 : Cond.methodLink RX8 143 yJ7_fill_53178 ∈ GW := gw_mem (inT6 _ (List.mem_of_getElem? (i := 125) rfl)) rfl
theorem mw_354 : Cond.static yJ7_fill_53178 ∈ GW := gw_mem (inT6 _ (List.mem_of_getElem? (i := 126) rfl)) rfl
theorem mw_355 : Cond.initialized RJ7 ∈ GW := gw_mem (inT1 _ (List.mem_of_getElem? (i := 19) rfl)) rfl
theorem mw_356 : Cond.fieldLink RX8 88 "OrielChartModel" "blocks" "I" ∈ GW := gw_mem (inT5 _ (List.mem_of_getElem? (i := 169) rfl)) rfl
theorem mw_357 : Cond.fieldLink RX8 44 "OrielChartModel" "goes" "[J" ∈ GW := gw_mem (inT5 _ (List.mem_of_getElem? (i := 179) rfl)) rfl
theorem mw_358 : Cond.code yJ7_fill_d0a16 cJ7_fill_d0a16 5 (none : Option FieldType) ∈ GW := gw_mem (inT6 _ (List.mem_of_getElem? (i := 142) rfl)) rfl
theorem mw_359 : Cond.methodLink RX8 162 yJ7_fill_d0a16 ∈ GW := gw_mem (inT6 _ (List.mem_of_getElem? (i := 140) rfl)) rfl
theorem mw_360 : Cond.static yJ7_fill_d0a16 ∈ GW := gw_mem (inT6 _ (List.mem_of_getElem? (i := 141) rfl)) rfl
theorem mw_361 : Cond.fieldLink RX8 81 "OrielChartModel" "edges" "I" ∈ GW := gw_mem (inT5 _ (List.mem_of_getElem? (i := 170) rfl)) rfl
theorem mw_362 : Cond.fieldLink RX8 107 "OrielChartModel" "reached" "J" ∈ GW := gw_mem (inT5 _ (List.mem_of_getElem? (i := 175) rfl)) rfl
theorem mw_363 : Cond.fieldLink RX8 165 "OrielChartModel" "nodes" "J" ∈ GW := gw_mem (inT5 _ (List.mem_of_getElem? (i := 184) rfl)) rfl
theorem mw_364 : Cond.fieldLink RX8 168 "OrielChartModel" "steps" "I" ∈ GW := gw_mem (inT5 _ (List.mem_of_getElem? (i := 183) rfl)) rfl
theorem mw_365 : Cond.fieldLink RX8 56 "OrielChartModel" "state" "[I" ∈ GW := gw_mem (inT5 _ (List.mem_of_getElem? (i := 185) rfl)) rfl
theorem mw_366 : Cond.fieldLink RX8 62 "OrielChartModel" "isTurned" "[Z" ∈ GW := gw_mem (inT5 _ (List.mem_of_getElem? (i := 188) rfl)) rfl
theorem mw_367 : Cond.code yJ7_fill_49daa cJ7_fill_49daa 4 (none : Option FieldType) ∈ GW := gw_mem (inT6 _ (List.mem_of_getElem? (i := 191) rfl)) rfl
theorem mw_368 : Cond.methodLink RX8 213 yJ7_fill_49daa ∈ GW := gw_mem (inT6 _ (List.mem_of_getElem? (i := 189) rfl)) rfl
theorem mw_369 : Cond.static yJ7_fill_49daa ∈ GW := gw_mem (inT6 _ (List.mem_of_getElem? (i := 190) rfl)) rfl
theorem mw_370 : Cond.fieldLink RX8 66 "OrielChartModel" "layer" "[I" ∈ GW := gw_mem (inT5 _ (List.mem_of_getElem? (i := 189) rfl)) rfl
theorem mw_371 : Cond.fieldLink RX8 206 "OrielChartModel" "met" "I" ∈ GW := gw_mem (inT5 _ (List.mem_of_getElem? (i := 187) rfl)) rfl
theorem mw_372 : Cond.fieldLink RX8 216 "OrielChartModel" "layers" "I" ∈ GW := gw_mem (inT5 _ (List.mem_of_getElem? (i := 190) rfl)) rfl
theorem mw_373 : Cond.classLink RX8 69 "[I" ∈ GW := gw_mem (inT5 _ (List.mem_of_getElem? (i := 160) rfl)) rfl
theorem mw_374 : Cond.fieldLink RX8 70 "OrielChartModel" "order" "[[I" ∈ GW := gw_mem (inT5 _ (List.mem_of_getElem? (i := 191) rfl)) rfl
theorem mw_375 : Cond.fieldLink RX8 25 "OrielChartModel" "first" "[I" ∈ GW := gw_mem (inT5 _ (List.mem_of_getElem? (i := 172) rfl)) rfl
theorem mw_376 : Cond.code yX8_layLive cX8_layLive 5 (none : Option FieldType) ∈ GW := gw_mem (inT6 _ (List.mem_of_getElem? (i := 124) rfl)) rfl
theorem mw_377 : Cond.methodLink RX8 115 yX8_layLive ∈ GW := gw_mem (inT6 _ (List.mem_of_getElem? (i := 121) rfl)) rfl
theorem mw_378 : Cond.instanceMethod yX8_layLive ∈ GW := gw_mem (inT6 _ (List.mem_of_getElem? (i := 123) rfl)) rfl
theorem mw_379 : Cond.selects RX8 yX8_layLive yX8_layLive ∈ GW := gw_mem (inTp (q := (yX8_layLive, 32)) (List.mem_of_getElem? (i := 63) rfl)) rfl
theorem mw_380 : Cond.code yX8_reduce cX8_reduce 3 (none : Option FieldType) ∈ GW := gw_mem (inT6 _ (List.mem_of_getElem? (i := 139) rfl)) rfl
theorem mw_381 : Cond.methodLink RX8 118 yX8_reduce ∈ GW := gw_mem (inT6 _ (List.mem_of_getElem? (i := 136) rfl)) rfl
theorem mw_382 : Cond.instanceMethod yX8_reduce ∈ GW := gw_mem (inT6 _ (List.mem_of_getElem? (i := 138) rfl)) rfl
theorem mw_383 : Cond.selects RX8 yX8_reduce yX8_reduce ∈ GW := gw_mem (inTp (q := (yX8_reduce, 32)) (List.mem_of_getElem? (i := 66) rfl)) rfl
theorem mw_384 : Cond.code yX8_layLayers cX8_layLayers 3 (none : Option FieldType) ∈ GW := gw_mem (inT6 _ (List.mem_of_getElem? (i := 188) rfl)) rfl
theorem mw_385 : Cond.methodLink RX8 121 yX8_layLayers ∈ GW := gw_mem (inT6 _ (List.mem_of_getElem? (i := 185) rfl)) rfl
theorem mw_386 : Cond.instanceMethod yX8_layLayers ∈ GW := gw_mem (inT6 _ (List.mem_of_getElem? (i := 187) rfl)) rfl
theorem mw_387 : Cond.selects RX8 yX8_layLayers yX8_layLayers ∈ GW := gw_mem (inTp (q := (yX8_layLayers, 32)) (List.mem_of_getElem? (i := 74) rfl)) rfl
theorem pd_X8_is : yX8_is.cls ≠ "java/lang/invoke/MethodHandle" ∧ yX8_is.cls ≠ "java/lang/invoke/VarHandle" ∧ (parseMethodDescriptor yX8_is.desc).map (fun d => d.parameters.length) = some 3 := by decide +kernel
theorem pd_J7_fill_53178 : yJ7_fill_53178.cls ≠ "java/lang/invoke/MethodHandle" ∧ yJ7_fill_53178.cls ≠ "java/lang/invoke/VarHandle" ∧ (parseMethodDescriptor yJ7_fill_53178.desc).map (fun d => d.parameters.length) = some 2 := by decide +kernel
theorem pd_J7_fill_d0a16 : yJ7_fill_d0a16.cls ≠ "java/lang/invoke/MethodHandle" ∧ yJ7_fill_d0a16.cls ≠ "java/lang/invoke/VarHandle" ∧ (parseMethodDescriptor yJ7_fill_d0a16.desc).map (fun d => d.parameters.length) = some 2 := by decide +kernel
theorem pd_J7_fill_49daa : yJ7_fill_49daa.cls ≠ "java/lang/invoke/MethodHandle" ∧ yJ7_fill_49daa.cls ≠ "java/lang/invoke/VarHandle" ∧ (parseMethodDescriptor yJ7_fill_49daa.desc).map (fun d => d.parameters.length) = some 2 := by decide +kernel
theorem pdv_X8_layLive : yX8_layLive.cls = RX8 ∧ yX8_layLive.cls ≠ "java/lang/invoke/MethodHandle" ∧ yX8_layLive.cls ≠ "java/lang/invoke/VarHandle" ∧ (parseMethodDescriptor yX8_layLive.desc).map (fun d => d.parameters.length) = some 0 := by decide +kernel
theorem pdv_X8_reduce : yX8_reduce.cls = RX8 ∧ yX8_reduce.cls ≠ "java/lang/invoke/MethodHandle" ∧ yX8_reduce.cls ≠ "java/lang/invoke/VarHandle" ∧ (parseMethodDescriptor yX8_reduce.desc).map (fun d => d.parameters.length) = some 0 := by decide +kernel
theorem pdv_X8_layLayers : yX8_layLayers.cls = RX8 ∧ yX8_layLayers.cls ≠ "java/lang/invoke/MethodHandle" ∧ yX8_layLayers.cls ≠ "java/lang/invoke/VarHandle" ∧ (parseMethodDescriptor yX8_layLayers.desc).map (fun d => d.parameters.length) = some 0 := by decide +kernel
theorem is_t {v lo hi r : Int32} (h : r = 1 ∧ ¬ v < lo ∧ ¬ hi < v ∨ r = 0 ∧ (v < lo ∨ hi < v)) (c : ¬ r = 0) : ¬ v < lo ∧ ¬ hi < v := by
  rcases h with ⟨-, h⟩ | ⟨h, -⟩
  · exact h
  · exact absurd h c
theorem is_f {v lo hi r : Int32} (h : r = 1 ∧ ¬ v < lo ∧ ¬ hi < v ∨ r = 0 ∧ (v < lo ∨ hi < v)) (c : r = 0) : v < lo ∨ hi < v := by
  rcases h with ⟨h, -⟩ | ⟨-, h⟩
  · rw [h] at c; exact absurd c (by decide)
  · exact h
theorem leI {a b : Int32} (h : ¬ b < a) : a ≤ b := Int32.not_lt.mp h
theorem oki_n1 {a b c : Int32} (h : a < 0 ∨ 0 < a) : ¬ OKI a b c := fun z => by
  rcases h with h | h
  · exact z.1 h
  · exact absurd h (Int32.not_lt.mpr z.2.1)
theorem oki_n2 {a b c : Int32} (h : b < 0 ∨ 3 < b) : ¬ OKI a b c := fun z => by
  rcases h with h | h
  · exact z.2.2.1 h
  · exact absurd h (Int32.not_lt.mpr z.2.2.2.1)
theorem oki_n3 {a b c r : Int32} (hj : r = 1 ∧ (b = 1 ∨ b = 2) ∨ r = 0 ∧ ¬ b = 1 ∧ ¬ b = 2) (c1 : ¬ r = 0) (h : c < 0 ∨ 40 < c) : ¬ OKI a b c := fun z => by
  rcases hj with ⟨-, hj⟩ | ⟨hj, -⟩
  · rcases h with h | h
    · exact (z.2.2.2.2 hj).1 h
    · exact (z.2.2.2.2 hj).2 h
  · exact c1 hj
theorem eq0 {a : Int32} (h : ¬ a < 0 ∧ ¬ 0 < a) : a = 0 := by
  have h1 := h.1
  have h2 := h.2
  rw [Int32.lt_iff_toInt_lt] at h1 h2
  have h0 : (0 : Int32).toInt = 0 := rfl
  exact Int32.toInt_inj.mp (by omega)
set_option maxHeartbeats 4000000 in
set_option maxRecDepth 100000 in
theorem m_bitCount0 (l : Launch) (D : va_G) (cI cJ cZ : ClassId) (cO : ClassId) (w : va_W) : CT l D (TO cI cJ cZ cO) yJ13_bitCount_95d88 (.code yJ13_bitCount_95d88 cJ13_bitCount_95d88 2 (some Jvm.ClassFile.FieldType.int)) 0 0 0 w [.long 0] (QI D (TO cI cJ cZ cO) (fun r u => r = 0 ∧ u = w)) := by
  refine ent (by decide) (Nat.le_of_ble_eq_true rfl) ?_
  intro p e s m below meth c ls A hx hb hr hg hown hml hlocks hnm hP hK hD hS hA hN hl
  have hl : lv_has ls 2 [(0, .long 0)] := hl
  refine lv_lload_n hx hb dJ13_bitCount_95d88_0 rfl (lv_at hl 0 rfl) ?_
  refine lv_lload_n hx hb dJ13_bitCount_95d88_1 rfl (lv_at hl 0 rfl) ?_
  refine lv_iconst (v := 1) hx hb dJ13_bitCount_95d88_2 (by decide) ?_
  refine lv_lushr (v := 0) hx hb dJ13_bitCount_95d88_3 (lushr0 _) ?_
  refine lv_ldc2 (v := 6148914691236517205) hx hb hown (hg _ mw_231) dJ13_bitCount_95d88_4 ?_
  refine lv_land hx hb dJ13_bitCount_95d88_7 ?_
  refine lv_topl (fun v_1 ev_1 => ?_)
  obtain rfl : v_1 = (0 : Int64) := ev_1.trans (by decide)
  refine lv_lsub hx hb dJ13_bitCount_95d88_8 ?_
  refine lv_topl (fun v_2 ev_2 => ?_)
  obtain rfl : v_2 = (0 : Int64) := ev_2.trans (by decide)
  refine lv_lstore_n (lv' := [(0, .long 0)]) hx hb dJ13_bitCount_95d88_9 rfl hl (by decide) rfl (fun ls hl => ?_)
  refine lv_lload_n hx hb dJ13_bitCount_95d88_10 rfl (lv_at hl 0 rfl) ?_
  refine lv_ldc2 (v := 3689348814741910323) hx hb hown (hg _ mw_232) dJ13_bitCount_95d88_11 ?_
  refine lv_land hx hb dJ13_bitCount_95d88_14 ?_
  refine lv_topl (fun v_3 ev_3 => ?_)
  obtain rfl : v_3 = (0 : Int64) := ev_3.trans (by decide)
  refine lv_lload_n hx hb dJ13_bitCount_95d88_15 rfl (lv_at hl 0 rfl) ?_
  refine lv_iconst (v := 2) hx hb dJ13_bitCount_95d88_16 (by decide) ?_
  refine lv_lushr (v := 0) hx hb dJ13_bitCount_95d88_17 (lushr0 _) ?_
  refine lv_ldc2 (v := 3689348814741910323) hx hb hown (hg _ mw_232) dJ13_bitCount_95d88_18 ?_
  refine lv_land hx hb dJ13_bitCount_95d88_21 ?_
  refine lv_topl (fun v_4 ev_4 => ?_)
  obtain rfl : v_4 = (0 : Int64) := ev_4.trans (by decide)
  refine lv_ladd hx hb dJ13_bitCount_95d88_22 ?_
  refine lv_topl (fun v_5 ev_5 => ?_)
  obtain rfl : v_5 = (0 : Int64) := ev_5.trans (by decide)
  refine lv_lstore_n (lv' := [(0, .long 0)]) hx hb dJ13_bitCount_95d88_23 rfl hl (by decide) rfl (fun ls hl => ?_)
  refine lv_lload_n hx hb dJ13_bitCount_95d88_24 rfl (lv_at hl 0 rfl) ?_
  refine lv_lload_n hx hb dJ13_bitCount_95d88_25 rfl (lv_at hl 0 rfl) ?_
  refine lv_iconst (v := 4) hx hb dJ13_bitCount_95d88_26 (by decide) ?_
  refine lv_lushr (v := 0) hx hb dJ13_bitCount_95d88_27 (lushr0 _) ?_
  refine lv_ladd hx hb dJ13_bitCount_95d88_28 ?_
  refine lv_topl (fun v_6 ev_6 => ?_)
  obtain rfl : v_6 = (0 : Int64) := ev_6.trans (by decide)
  refine lv_ldc2 (v := 1085102592571150095) hx hb hown (hg _ mw_233) dJ13_bitCount_95d88_29 ?_
  refine lv_land hx hb dJ13_bitCount_95d88_32 ?_
  refine lv_topl (fun v_7 ev_7 => ?_)
  obtain rfl : v_7 = (0 : Int64) := ev_7.trans (by decide)
  refine lv_lstore_n (lv' := [(0, .long 0)]) hx hb dJ13_bitCount_95d88_33 rfl hl (by decide) rfl (fun ls hl => ?_)
  refine lv_lload_n hx hb dJ13_bitCount_95d88_34 rfl (lv_at hl 0 rfl) ?_
  refine lv_lload_n hx hb dJ13_bitCount_95d88_35 rfl (lv_at hl 0 rfl) ?_
  refine lv_bipush (v := 8) hx hb dJ13_bitCount_95d88_36 (by decide) ?_
  refine lv_lushr (v := 0) hx hb dJ13_bitCount_95d88_38 (lushr0 _) ?_
  refine lv_ladd hx hb dJ13_bitCount_95d88_39 ?_
  refine lv_topl (fun v_8 ev_8 => ?_)
  obtain rfl : v_8 = (0 : Int64) := ev_8.trans (by decide)
  refine lv_lstore_n (lv' := [(0, .long 0)]) hx hb dJ13_bitCount_95d88_40 rfl hl (by decide) rfl (fun ls hl => ?_)
  refine lv_lload_n hx hb dJ13_bitCount_95d88_41 rfl (lv_at hl 0 rfl) ?_
  refine lv_lload_n hx hb dJ13_bitCount_95d88_42 rfl (lv_at hl 0 rfl) ?_
  refine lv_bipush (v := 16) hx hb dJ13_bitCount_95d88_43 (by decide) ?_
  refine lv_lushr (v := 0) hx hb dJ13_bitCount_95d88_45 (lushr0 _) ?_
  refine lv_ladd hx hb dJ13_bitCount_95d88_46 ?_
  refine lv_topl (fun v_9 ev_9 => ?_)
  obtain rfl : v_9 = (0 : Int64) := ev_9.trans (by decide)
  refine lv_lstore_n (lv' := [(0, .long 0)]) hx hb dJ13_bitCount_95d88_47 rfl hl (by decide) rfl (fun ls hl => ?_)
  refine lv_lload_n hx hb dJ13_bitCount_95d88_48 rfl (lv_at hl 0 rfl) ?_
  refine lv_lload_n hx hb dJ13_bitCount_95d88_49 rfl (lv_at hl 0 rfl) ?_
  refine lv_bipush (v := 32) hx hb dJ13_bitCount_95d88_50 (by decide) ?_
  refine lv_lushr (v := 0) hx hb dJ13_bitCount_95d88_52 (lushr0 _) ?_
  refine lv_ladd hx hb dJ13_bitCount_95d88_53 ?_
  refine lv_topl (fun v_10 ev_10 => ?_)
  obtain rfl : v_10 = (0 : Int64) := ev_10.trans (by decide)
  refine lv_lstore_n (lv' := [(0, .long 0)]) hx hb dJ13_bitCount_95d88_54 rfl hl (by decide) rfl (fun ls hl => ?_)
  refine lv_lload_n hx hb dJ13_bitCount_95d88_55 rfl (lv_at hl 0 rfl) ?_
  refine lv_l2i (v := 0) hx hb dJ13_bitCount_95d88_56 (by decide) ?_
  refine lv_bipush (v := 127) hx hb dJ13_bitCount_95d88_57 (by decide) ?_
  refine lv_iand hx hb dJ13_bitCount_95d88_59 ?_
  refine lv_topi (fun v_11 ev_11 => ?_)
  obtain rfl : v_11 = (0 : Int32) := ev_11.trans (by decide)
  exact W.iret (v := 0) hx hb hr (fun t ht hW => ⟨⟨0, w, rfl, ⟨rfl, rfl⟩, ⟨by rw [ht]; exact hP, va_K.moved hW.alike hK, hD⟩⟩, hS.F ht⟩) hS.2.2 dJ13_bitCount_95d88_60
set_option maxHeartbeats 4000000 in
set_option maxRecDepth 100000 in
theorem m_has0 (l : Launch) (D : va_G) (cI cJ cZ : ClassId) (cO : ClassId) (w : va_W) (k : Int32) : CT l D (TO cI cJ cZ cO) yX8_has (.code yX8_has cX8_has 3 (some Jvm.ClassFile.FieldType.boolean)) 0 0 0 w [.long 0, .int k] (QI D (TO cI cJ cZ cO) (fun r u => r = 0 ∧ u = w)) := by
  refine ent (by decide) (Nat.le_of_ble_eq_true rfl) ?_
  intro p e s m below meth c ls A hx hb hr hg hown hml hlocks hnm hP hK hD hS hA hN hl
  have hl : lv_has ls 3 [(0, .long 0), (2, .int k)] := hl
  refine lv_lload_n hx hb dX8_has_0 rfl (lv_at hl 0 rfl) ?_
  refine lv_iload_n hx hb dX8_has_1 rfl (lv_at hl 1 rfl) ?_
  refine lv_lshr (v := 0) hx hb dX8_has_2 (lshr0 _) ?_
  refine lv_lconst (v := 1) hx hb dX8_has_3 (by decide) ?_
  refine lv_land hx hb dX8_has_4 ?_
  refine lv_topl (fun v_1 ev_1 => ?_)
  obtain rfl : v_1 = (0 : Int64) := ev_1.trans (by decide)
  refine lv_lconst (v := 0) hx hb dX8_has_5 (by decide) ?_
  refine W.lcmp hx hb dX8_has_6 ?_
  refine lv_topi (fun v_2 ev_2 => ?_)
  obtain rfl : v_2 = (0 : Int32) := ev_2.trans (by decide)
  refine lv_if_eq (tgt := 14) hx hb dX8_has_7 (by decide) (fun c_7 => ?_) (fun c_7 => absurd (by decide) c_7)
  refine lv_iconst (v := 0) hx hb dX8_has_14 (by decide) ?_
  exact W.zret (v := 0) hx hb hr rfl (fun t ht hW => ⟨⟨0, w, rfl, ⟨rfl, rfl⟩, ⟨by rw [ht]; exact hP, va_K.moved hW.alike hK, hD⟩⟩, hS.F ht⟩) hS.2.2 dX8_has_15
set_option maxHeartbeats 4000000 in
set_option maxRecDepth 100000 in
theorem m_is (l : Launch) (D : va_G) (cI cJ cZ : ClassId) (cO : ClassId) (w : va_W) (v lo hi : Int32) : CT l D (TO cI cJ cZ cO) yX8_is (.code yX8_is cX8_is 3 (some Jvm.ClassFile.FieldType.boolean)) 0 0 0 w [.int v, .int lo, .int hi] (QI D (TO cI cJ cZ cO) (fun r u => (r = 1 ∧ ¬ v < lo ∧ ¬ hi < v ∨ r = 0 ∧ (v < lo ∨ hi < v)) ∧ u = w)) := by
  refine ent (by decide) (Nat.le_of_ble_eq_true rfl) ?_
  intro p e s m below meth c ls A hx hb hr hg hown hml hlocks hnm hP hK hD hS hA hN hl
  have hl : lv_has ls 3 [(0, .int v), (1, .int lo), (2, .int hi)] := hl
  refine lv_iload_n hx hb dX8_is_0 rfl (lv_at hl 0 rfl) ?_
  refine lv_iload_n hx hb dX8_is_1 rfl (lv_at hl 1 rfl) ?_
  refine lv_icmp_lt (tgt := 14) hx hb dX8_is_2 (by decide) (fun c_2 => ?_) (fun c_2 => ?_)
  · refine lv_iconst (v := 0) hx hb dX8_is_14 (by decide) ?_
    exact W.zret (v := 0) hx hb hr rfl (fun t ht hW => ⟨⟨0, w, rfl, ⟨by first | exact Or.inr ⟨rfl, Or.inl c_2⟩ | exact Or.inr ⟨rfl, Or.inr c_7⟩ | exact Or.inl ⟨rfl, c_2, c_7⟩, rfl⟩, ⟨by rw [ht]; exact hP, va_K.moved hW.alike hK, hD⟩⟩, hS.F ht⟩) hS.2.2 dX8_is_15
  · refine lv_iload_n hx hb dX8_is_5 rfl (lv_at hl 0 rfl) ?_
    refine lv_iload_n hx hb dX8_is_6 rfl (lv_at hl 2 rfl) ?_
    refine lv_icmp_gt (tgt := 14) hx hb dX8_is_7 (by decide) (fun c_7 => ?_) (fun c_7 => ?_)
    · refine lv_iconst (v := 0) hx hb dX8_is_14 (by decide) ?_
      exact W.zret (v := 0) hx hb hr rfl (fun t ht hW => ⟨⟨0, w, rfl, ⟨by first | exact Or.inr ⟨rfl, Or.inl c_2⟩ | exact Or.inr ⟨rfl, Or.inr c_7⟩ | exact Or.inl ⟨rfl, c_2, c_7⟩, rfl⟩, ⟨by rw [ht]; exact hP, va_K.moved hW.alike hK, hD⟩⟩, hS.F ht⟩) hS.2.2 dX8_is_15
    · refine lv_iconst (v := 1) hx hb dX8_is_10 (by decide) ?_
      refine lv_goto (tgt := 15) hx hb dX8_is_11 (by decide) ?_
      exact W.zret (v := 1) hx hb hr rfl (fun t ht hW => ⟨⟨1, w, rfl, ⟨by first | exact Or.inr ⟨rfl, Or.inl c_2⟩ | exact Or.inr ⟨rfl, Or.inr c_7⟩ | exact Or.inl ⟨rfl, c_2, c_7⟩, rfl⟩, ⟨by rw [ht]; exact hP, va_K.moved hW.alike hK, hD⟩⟩, hS.F ht⟩) hS.2.2 dX8_is_15
set_option maxHeartbeats 4000000 in
set_option maxRecDepth 100000 in
theorem m_isJump (l : Launch) (D : va_G) (cI cJ cZ : ClassId) (cO : ClassId) (w : va_W) (k : Int32) : CT l D (TO cI cJ cZ cO) yX8_isJump (.code yX8_isJump cX8_isJump 1 (some Jvm.ClassFile.FieldType.boolean)) 0 0 0 w [.int k] (QI D (TO cI cJ cZ cO) (fun r u => (r = 1 ∧ (k = 1 ∨ k = 2) ∨ r = 0 ∧ ¬ k = 1 ∧ ¬ k = 2) ∧ u = w)) := by
  refine ent (by decide) (Nat.le_of_ble_eq_true rfl) ?_
  intro p e s m below meth c ls A hx hb hr hg hown hml hlocks hnm hP hK hD hS hA hN hl
  have hl : lv_has ls 1 [(0, .int k)] := hl
  refine lv_iload_n hx hb dX8_isJump_0 rfl (lv_at hl 0 rfl) ?_
  refine lv_iconst (v := 1) hx hb dX8_isJump_1 (by decide) ?_
  refine lv_icmp_eq (tgt := 10) hx hb dX8_isJump_2 (by decide) (fun c_2 => ?_) (fun c_2 => ?_)
  · refine lv_iconst (v := 1) hx hb dX8_isJump_10 (by decide) ?_
    refine lv_goto (tgt := 15) hx hb dX8_isJump_11 (by decide) ?_
    exact W.zret (v := 1) hx hb hr rfl (fun t ht hW => ⟨⟨1, w, rfl, ⟨by first | exact Or.inl ⟨rfl, Or.inl c_2⟩ | exact Or.inl ⟨rfl, Or.inl (Classical.not_not.mp c_2)⟩ | exact Or.inl ⟨rfl, Or.inr (Classical.not_not.mp c_7)⟩ | exact Or.inl ⟨rfl, Or.inr c_7⟩ | exact Or.inr ⟨rfl, c_2, c_7⟩, rfl⟩, ⟨by rw [ht]; exact hP, va_K.moved hW.alike hK, hD⟩⟩, hS.F ht⟩) hS.2.2 dX8_isJump_15
  · refine lv_iload_n hx hb dX8_isJump_5 rfl (lv_at hl 0 rfl) ?_
    refine lv_iconst (v := 2) hx hb dX8_isJump_6 (by decide) ?_
    refine lv_icmp_ne (tgt := 14) hx hb dX8_isJump_7 (by decide) (fun c_7 => ?_) (fun c_7 => ?_)
    · refine lv_iconst (v := 0) hx hb dX8_isJump_14 (by decide) ?_
      exact W.zret (v := 0) hx hb hr rfl (fun t ht hW => ⟨⟨0, w, rfl, ⟨by first | exact Or.inl ⟨rfl, Or.inl c_2⟩ | exact Or.inl ⟨rfl, Or.inl (Classical.not_not.mp c_2)⟩ | exact Or.inl ⟨rfl, Or.inr (Classical.not_not.mp c_7)⟩ | exact Or.inl ⟨rfl, Or.inr c_7⟩ | exact Or.inr ⟨rfl, c_2, c_7⟩, rfl⟩, ⟨by rw [ht]; exact hP, va_K.moved hW.alike hK, hD⟩⟩, hS.F ht⟩) hS.2.2 dX8_isJump_15
    · refine lv_iconst (v := 1) hx hb dX8_isJump_10 (by decide) ?_
      refine lv_goto (tgt := 15) hx hb dX8_isJump_11 (by decide) ?_
      exact W.zret (v := 1) hx hb hr rfl (fun t ht hW => ⟨⟨1, w, rfl, ⟨by first | exact Or.inl ⟨rfl, Or.inl c_2⟩ | exact Or.inl ⟨rfl, Or.inl (Classical.not_not.mp c_2)⟩ | exact Or.inl ⟨rfl, Or.inr (Classical.not_not.mp c_7)⟩ | exact Or.inl ⟨rfl, Or.inr c_7⟩ | exact Or.inr ⟨rfl, c_2, c_7⟩, rfl⟩, ⟨by rw [ht]; exact hP, va_K.moved hW.alike hK, hD⟩⟩, hS.F ht⟩) hS.2.2 dX8_isJump_15
set_option maxHeartbeats 4000000 in
set_option maxRecDepth 100000 in
theorem m_refuse (l : Launch) (D : va_G) (cI cJ cZ : ClassId) (cO : ClassId) (oc : Nat × va_E) (am : Nat → Nat) (qo : Nat) (F : Nat → Nat → Int32) (G : Nat → Nat → Int64) (th mn ld sw : Int32) (sm : Int64) (k : Int32) : CT l D (TO cI cJ cZ cO) yX8_refuse (.code yX8_refuse cX8_refuse 2 (some Jvm.ClassFile.FieldType.int)) 0 0 0 (MW oc am cI cJ cZ cO th mn ld sw sm qo F G) [.ref (am 1), .int k] (QI D (TO cI cJ cZ cO) (fun r u => r = 0 ∧ u = MW oc am cI cJ cZ cO k mn ld sw sm qo F G)) := by
  refine ent (by decide) (Nat.le_of_ble_eq_true rfl) ?_
  intro p e s m below meth c ls A hx hb hr hg hown hml hlocks hnm hP hK hD hS hA hN hl
  have hl : lv_has ls 2 [(0, .ref (am 1)), (1, .int k)] := hl
  refine lv_aload_n hx hb dX8_refuse_0 rfl (lv_at hl 0 rfl) ?_
  refine lv_iload_n hx hb dX8_refuse_1 rfl (lv_at hl 1 rfl) ?_
  refine va_put (D := D) (ci := 8) (v := .int k) (C := RX8) (T := TX8) (N := 32) hx hb hg inGX8 tyX8 tyX8_ok nmX8 hown hK hP hD hS 1 rfl rfl 0 (by decide) (hg _ mw_343) (fun _ h9 => h9) rfl (tyX8_ok 0 (by decide)) rfl rfl (Nat.le_of_ble_eq_true rfl) dX8_refuse_2 (fun H locs hP hD hS => ?_)
  have hP : va_P D vwCl (MW oc am cI cJ cZ cO k mn ld sw sm qo F G) H := hP
  have hD : va_D A (MW oc am cI cJ cZ cO k mn ld sw sm qo F G) := hD
  refine lv_iconst (v := 0) hx hb dX8_refuse_5 (by decide) ?_
  exact W.iret (v := 0) hx hb hr (fun t ht hW => ⟨⟨0, (MW oc am cI cJ cZ cO k mn ld sw sm qo F G), rfl, ⟨rfl, rfl⟩, ⟨by rw [ht]; exact hP, va_K.moved hW.alike hK, hD⟩⟩, hS.F ht⟩) hS.2.2 dX8_refuse_6
set_option maxHeartbeats 4000000 in
set_option maxRecDepth 100000 in
theorem m_thrown (l : Launch) (D : va_G) (cI cJ cZ : ClassId) (cO : ClassId) (oc : Nat × va_E) (am : Nat → Nat) (qo : Nat) (F : Nat → Nat → Int32) (G : Nat → Nat → Int64) (th mn ld sw : Int32) (sm : Int64) : CT l D (TO cI cJ cZ cO) yX8_thrown (.code yX8_thrown cX8_thrown 1 (some Jvm.ClassFile.FieldType.int)) 0 0 0 (MW oc am cI cJ cZ cO th mn ld sw sm qo F G) [.ref (am 1)] (QI D (TO cI cJ cZ cO) (fun r u => r = th ∧ u = MW oc am cI cJ cZ cO th mn ld sw sm qo F G)) := by
  refine ent (by decide) (Nat.le_of_ble_eq_true rfl) ?_
  intro p e s m below meth c ls A hx hb hr hg hown hml hlocks hnm hP hK hD hS hA hN hl
  have hl : lv_has ls 1 [(0, .ref (am 1))] := hl
  refine lv_aload_n hx hb dX8_thrown_0 rfl (lv_at hl 0 rfl) ?_
  refine va_get (D := D) (ci := 8) (v := .int th) (C := RX8) (T := TX8) (N := 32) hx hb hg inGX8 hown hK hP 1 rfl rfl 0 (by decide) (hg _ mw_343) (fun _ h9 => h9) rfl dX8_thrown_1 ?_
  exact W.iret (v := th) hx hb hr (fun t ht hW => ⟨⟨th, (MW oc am cI cJ cZ cO th mn ld sw sm qo F G), rfl, ⟨rfl, rfl⟩, ⟨by rw [ht]; exact hP, va_K.moved hW.alike hK, hD⟩⟩, hS.F ht⟩) hS.2.2 dX8_thrown_4
set_option maxHeartbeats 4000000 in
set_option maxRecDepth 100000 in
theorem m_isInstruction (l : Launch) (D : va_G) (cI cJ cZ : ClassId) (cO : ClassId) (oc : Nat × va_E) (am : Nat → Nat) (qo : Nat) (F : Nat → Nat → Int32) (G : Nat → Nat → Int64) (ld k : Int32) : CT l D (TO cI cJ cZ cO) yX8_isInstruction (.code yX8_isInstruction cX8_isInstruction 2 (some Jvm.ClassFile.FieldType.boolean)) 1 0 0 (MW oc am cI cJ cZ cO 0 0 ld 0 0 qo F G) [.ref (am 1), .int k] (QI D (TO cI cJ cZ cO) (fun r u => r = 0 ∧ u = MW oc am cI cJ cZ cO 0 0 ld 0 0 qo F G)) := by
  refine ent (by decide) (Nat.le_of_ble_eq_true rfl) ?_
  intro p e s m below meth c ls A hx hb hr hg hown hml hlocks hnm hP hK hD hS hA hN hl
  have hl : lv_has ls 2 [(0, .ref (am 1)), (1, .int k)] := hl
  refine lv_iload_n hx hb dX8_isInstruction_0 rfl (lv_at hl 1 rfl) ?_
  refine lv_iconst (v := 0) hx hb dX8_isInstruction_1 (by decide) ?_
  refine lv_aload_n hx hb dX8_isInstruction_2 rfl (lv_at hl 0 rfl) ?_
  refine va_get (D := D) (ci := 8) (v := .int 0) (C := RX8) (T := TX8) (N := 32) hx hb hg inGX8 hown hK hP 1 rfl rfl 1 (by decide) (hg _ mw_344) (fun _ h9 => h9) rfl dX8_isInstruction_3 ?_
  refine lv_iconst (v := 1) hx hb dX8_isInstruction_6 (by decide) ?_
  refine lv_isub hx hb dX8_isInstruction_7 ?_
  refine lv_topi (fun v_1 ev_1 => ?_)
  obtain rfl : v_1 = ((-1) : Int32) := ev_1.trans (by decide)
  refine kI (rS hx hb hml hown hg hN hK hP hD (m_is l D cI cJ cZ cO (MW oc am cI cJ cZ cO 0 0 ld 0 0 qo F G) k 0 (-1)) mw_345 mw_346 mw_347 mw_348 pd_X8_is ⟨Nat.le_of_ble_eq_true rfl, Nat.le_of_ble_eq_true rfl⟩ rfl hl.1 rfl (Nat.le_of_ble_eq_true rfl) dX8_isInstruction_8 ⟨Nat.le_of_ble_eq_true rfl, Nat.le_of_ble_eq_true rfl⟩) hD hS hA (fun r_2 u_2 H locs hp hP hD hS => ?_)
  obtain ⟨hisr_2, rfl⟩ := hp
  obtain rfl : r_2 = 0 := is_m1 hisr_2
  exact W.zret (v := 0) hx hb hr rfl (fun t ht hW => ⟨⟨0, (MW oc am cI cJ cZ cO 0 0 ld 0 0 qo F G), rfl, ⟨rfl, rfl⟩, ⟨by rw [ht]; exact hP, va_K.moved hW.alike hK, hD⟩⟩, hS.F ht⟩) hS.2.2 dX8_isInstruction_11
set_option maxHeartbeats 4000000 in
set_option maxRecDepth 100000 in
theorem m_beginAnew (l : Launch) (D : va_G) (cI cJ cZ : ClassId) (cO : ClassId) (oc : Nat × va_E) (am : Nat → Nat) (qo : Nat) (F : Nat → Nat → Int32) (G : Nat → Nat → Int64) (th mn ld sw : Int32) (sm : Int64) : CT l D (TO cI cJ cZ cO) yX8_beginAnew (.code yX8_beginAnew cX8_beginAnew 1 (none : Option FieldType)) 0 0 0 (MW oc am cI cJ cZ cO th mn ld sw sm qo F G) [.ref (am 1)] (QV D (TO cI cJ cZ cO) (fun u => u = MW oc am cI cJ cZ cO th mn 0 0 sm qo F G)) := by
  refine ent (by decide) (Nat.le_of_ble_eq_true rfl) ?_
  intro p e s m below meth c ls A hx hb hr hg hown hml hlocks hnm hP hK hD hS hA hN hl
  have hl : lv_has ls 1 [(0, .ref (am 1))] := hl
  refine lv_aload_n hx hb dX8_beginAnew_0 rfl (lv_at hl 0 rfl) ?_
  refine lv_iconst (v := 0) hx hb dX8_beginAnew_1 (by decide) ?_
  refine va_put (D := D) (ci := 8) (v := .int 0) (C := RX8) (T := TX8) (N := 32) hx hb hg inGX8 tyX8 tyX8_ok nmX8 hown hK hP hD hS 1 rfl rfl 6 (by decide) (hg _ mw_349) (fun _ h9 => h9) rfl (tyX8_ok 6 (by decide)) rfl rfl (Nat.le_of_ble_eq_true rfl) dX8_beginAnew_2 (fun H locs hP hD hS => ?_)
  have hP : va_P D vwCl (MW oc am cI cJ cZ cO th mn 0 sw sm qo F G) H := hP
  have hD : va_D A (MW oc am cI cJ cZ cO th mn 0 sw sm qo F G) := hD
  refine lv_aload_n hx hb dX8_beginAnew_5 rfl (lv_at hl 0 rfl) ?_
  refine lv_iconst (v := 0) hx hb dX8_beginAnew_6 (by decide) ?_
  refine va_put (D := D) (ci := 8) (v := .int 0) (C := RX8) (T := TX8) (N := 32) hx hb hg inGX8 tyX8 tyX8_ok nmX8 hown hK hP hD hS 1 rfl rfl 30 (by decide) (hg _ mw_350) (fun _ h9 => h9) rfl (tyX8_ok 30 (by decide)) rfl rfl (Nat.le_of_ble_eq_true rfl) dX8_beginAnew_7 (fun H locs hP hD hS => ?_)
  have hP : va_P D vwCl (MW oc am cI cJ cZ cO th mn 0 0 sm qo F G) H := hP
  have hD : va_D A (MW oc am cI cJ cZ cO th mn 0 0 sm qo F G) := hD
  exact W.vret hx hb hr (fun t ht hW => ⟨⟨(MW oc am cI cJ cZ cO th mn 0 0 sm qo F G), rfl, rfl, ⟨by rw [ht]; exact hP, va_K.moved hW.alike hK, hD⟩⟩, hS.F ht⟩) hS.2.2 dX8_beginAnew_10
set_option maxHeartbeats 4000000 in
set_option maxRecDepth 100000 in
theorem m_layLive (l : Launch) (D : va_G) (cI cJ cZ : ClassId) (cO : ClassId) (oc : Nat × va_E) (am : Nat → Nat) (qo : Nat) (F : Nat → Nat → Int32) (G : Nat → Nat → Int64) : CT l D (TO cI cJ cZ cO) yX8_layLive (.code yX8_layLive cX8_layLive 5 (none : Option FieldType)) 1 0 0 (MW oc am cI cJ cZ cO 0 0 1 0 0 qo F G) [.ref (am 1)] (QV D (TO cI cJ cZ cO) (fun u => ∃ F' G', u = MW oc am cI cJ cZ cO 0 0 1 0 0 qo F' G')) := by
  refine ent (by decide) (Nat.le_of_ble_eq_true rfl) ?_
  intro p e s m below meth c ls A hx hb hr hg hown hml hlocks hnm hP hK hD hS hA hN hl
  have hl : lv_has ls 5 [(0, .ref (am 1))] := hl
  refine lv_aload_n hx hb dX8_layLive_0 rfl (lv_at hl 0 rfl) ?_
  refine va_get (D := D) (ci := 8) (v := .ref (am 12)) (C := RX8) (T := TX8) (N := 32) hx hb hg inGX8 hown hK hP 1 rfl rfl 16 (by decide) (hg _ mw_351) (fun _ h9 => h9) rfl dX8_layLive_1 ?_
  refine lv_iconst (v := 0) hx hb dX8_layLive_4 (by decide) ?_
  refine kV (rS hx hb hml hown hg hN hK hP hD (m_fillI l D cI cJ cZ cO (MW oc am cI cJ cZ cO 0 0 1 0 0 qo F G) 12 (am 12) 40 (F 12) 0 rfl (by decide)) mw_352 mw_353 mw_354 mw_355 pd_J7_fill_53178 ⟨Nat.le_of_ble_eq_true rfl, Nat.le_of_ble_eq_true rfl⟩ rfl hl.1 rfl (Nat.le_of_ble_eq_true rfl) dX8_layLive_5 ⟨Nat.le_of_ble_eq_true rfl, Nat.le_of_ble_eq_true rfl⟩) hD hS hA (fun u_1 H locs hp hP hD hS => ?_)
  obtain ⟨f_2, rfl⟩ := hp
  have hP : va_P D vwCl (MW oc am cI cJ cZ cO 0 0 1 0 0 qo (va_up F 12 f_2) G) H := hP
  have hD : va_D A (MW oc am cI cJ cZ cO 0 0 1 0 0 qo (va_up F 12 f_2) G) := hD
  refine lv_iconst (v := 1) hx hb dX8_layLive_8 (by decide) ?_
  refine lv_istore_n (lv' := [(1, .int 1), (0, .ref (am 1))]) hx hb dX8_layLive_9 rfl hl (by decide) rfl (fun ls hl => ?_)
  refine lv_iload_n hx hb dX8_layLive_10 rfl (lv_at hl 0 rfl) ?_
  refine lv_if_eq (tgt := 103) hx hb dX8_layLive_11 (by decide) (fun c_11 => absurd c_11 (by decide)) (fun c_11 => ?_)
  refine lv_iconst (v := 0) hx hb dX8_layLive_14 (by decide) ?_
  refine lv_istore_n (lv' := [(1, .int 0), (0, .ref (am 1))]) hx hb dX8_layLive_15 rfl hl (by decide) rfl (fun ls hl => ?_)
  refine lv_iconst (v := 0) hx hb dX8_layLive_16 (by decide) ?_
  refine lv_istore_n (lv' := [(2, .int 0), (1, .int 0), (0, .ref (am 1))]) hx hb dX8_layLive_17 rfl hl (by decide) rfl (fun ls hl => ?_)
  refine lv_iload_n hx hb dX8_layLive_18 rfl (lv_at hl 0 rfl) ?_
  refine lv_aload_n hx hb dX8_layLive_19 rfl (lv_at hl 2 rfl) ?_
  refine va_get (D := D) (ci := 8) (v := .int 0) (C := RX8) (T := TX8) (N := 32) hx hb hg inGX8 hown hK hP 1 rfl rfl 7 (by decide) (hg _ mw_356) (fun _ h9 => h9) rfl dX8_layLive_20 ?_
  refine lv_icmp_ge (tgt := 100) hx hb dX8_layLive_23 (by decide) (fun c_23 => ?_) (fun c_23 => absurd (by decide) c_23)
  refine lv_goto (tgt := 10) hx hb dX8_layLive_100 (by decide) ?_
  refine lv_iload_n hx hb dX8_layLive_10 rfl (lv_at hl 1 rfl) ?_
  refine lv_if_eq (tgt := 103) hx hb dX8_layLive_11 (by decide) (fun c_11 => ?_) (fun c_11 => absurd (by decide) c_11)
  exact W.vret hx hb hr (fun t ht hW => ⟨⟨(MW oc am cI cJ cZ cO 0 0 1 0 0 qo (va_up F 12 f_2) G), rfl, ⟨_, _, rfl⟩, ⟨by rw [ht]; exact hP, va_K.moved hW.alike hK, hD⟩⟩, hS.F ht⟩) hS.2.2 dX8_layLive_103
set_option maxHeartbeats 4000000 in
set_option maxRecDepth 100000 in
theorem m_reduce (l : Launch) (D : va_G) (cI cJ cZ : ClassId) (cO : ClassId) (oc : Nat × va_E) (am : Nat → Nat) (qo : Nat) (F : Nat → Nat → Int32) (G : Nat → Nat → Int64) : CT l D (TO cI cJ cZ cO) yX8_reduce (.code yX8_reduce cX8_reduce 3 (none : Option FieldType)) 1 0 0 (MW oc am cI cJ cZ cO 0 0 1 0 0 qo F G) [.ref (am 1)] (QV D (TO cI cJ cZ cO) (fun u => ∃ F' G', u = MW oc am cI cJ cZ cO 0 0 1 0 0 qo F' G')) := by
  refine ent (by decide) (Nat.le_of_ble_eq_true rfl) ?_
  intro p e s m below meth c ls A hx hb hr hg hown hml hlocks hnm hP hK hD hS hA hN hl
  have hl : lv_has ls 3 [(0, .ref (am 1))] := hl
  refine lv_aload_n hx hb dX8_reduce_0 rfl (lv_at hl 0 rfl) ?_
  refine va_get (D := D) (ci := 8) (v := .ref (am 13)) (C := RX8) (T := TX8) (N := 32) hx hb hg inGX8 hown hK hP 1 rfl rfl 17 (by decide) (hg _ mw_357) (fun _ h9 => h9) rfl dX8_reduce_1 ?_
  refine lv_lconst (v := 0) hx hb dX8_reduce_4 (by decide) ?_
  refine kV (rS hx hb hml hown hg hN hK hP hD (m_fillJ l D cI cJ cZ cO (MW oc am cI cJ cZ cO 0 0 1 0 0 qo F G) 13 (am 13) 40 (G 13) 0 rfl (by decide)) mw_358 mw_359 mw_360 mw_355 pd_J7_fill_d0a16 ⟨Nat.le_of_ble_eq_true rfl, Nat.le_of_ble_eq_true rfl⟩ rfl hl.1 rfl (Nat.le_of_ble_eq_true rfl) dX8_reduce_5 ⟨Nat.le_of_ble_eq_true rfl, Nat.le_of_ble_eq_true rfl⟩) hD hS hA (fun u_1 H locs hp hP hD hS => ?_)
  obtain ⟨f_2, rfl⟩ := hp
  have hP : va_P D vwCl (MW oc am cI cJ cZ cO 0 0 1 0 0 qo F (va_up G 13 f_2)) H := hP
  have hD : va_D A (MW oc am cI cJ cZ cO 0 0 1 0 0 qo F (va_up G 13 f_2)) := hD
  refine lv_iconst (v := 0) hx hb dX8_reduce_8 (by decide) ?_
  refine lv_istore_n (lv' := [(1, .int 0), (0, .ref (am 1))]) hx hb dX8_reduce_9 rfl hl (by decide) rfl (fun ls hl => ?_)
  refine lv_iload_n hx hb dX8_reduce_10 rfl (lv_at hl 0 rfl) ?_
  refine lv_aload_n hx hb dX8_reduce_11 rfl (lv_at hl 1 rfl) ?_
  refine va_get (D := D) (ci := 8) (v := .int 0) (C := RX8) (T := TX8) (N := 32) hx hb hg inGX8 hown hK hP 1 rfl rfl 8 (by decide) (hg _ mw_361) (fun _ h9 => h9) rfl dX8_reduce_12 ?_
  refine lv_icmp_ge (tgt := 69) hx hb dX8_reduce_15 (by decide) (fun c_15 => ?_) (fun c_15 => absurd (by decide) c_15)
  refine lv_iconst (v := 0) hx hb dX8_reduce_69 (by decide) ?_
  refine lv_istore_n (lv' := [(1, .int 0), (0, .ref (am 1))]) hx hb dX8_reduce_70 rfl hl (by decide) rfl (fun ls hl => ?_)
  refine lv_iload_n hx hb dX8_reduce_71 rfl (lv_at hl 0 rfl) ?_
  refine lv_aload_n hx hb dX8_reduce_72 rfl (lv_at hl 1 rfl) ?_
  refine va_get (D := D) (ci := 8) (v := .int 0) (C := RX8) (T := TX8) (N := 32) hx hb hg inGX8 hown hK hP 1 rfl rfl 7 (by decide) (hg _ mw_356) (fun _ h9 => h9) rfl dX8_reduce_73 ?_
  refine lv_icmp_ge (tgt := 104) hx hb dX8_reduce_76 (by decide) (fun c_76 => ?_) (fun c_76 => absurd (by decide) c_76)
  refine lv_aload_n hx hb dX8_reduce_104 rfl (lv_at hl 1 rfl) ?_
  refine lv_aload_n hx hb dX8_reduce_105 rfl (lv_at hl 1 rfl) ?_
  refine va_get (D := D) (ci := 8) (v := .long 0) (C := RX8) (T := TX8) (N := 32) hx hb hg inGX8 hown hK hP 1 rfl rfl 13 (by decide) (hg _ mw_362) (fun _ h9 => h9) rfl dX8_reduce_106 ?_
  refine va_put (D := D) (ci := 8) (v := .long 0) (C := RX8) (T := TX8) (N := 32) hx hb hg inGX8 tyX8 tyX8_ok nmX8 hown hK hP hD hS 1 rfl rfl 22 (by decide) (hg _ mw_363) (fun _ h9 => h9) rfl (tyX8_ok 22 (by decide)) rfl rfl (Nat.le_of_ble_eq_true rfl) dX8_reduce_109 (fun H locs hP hD hS => ?_)
  have hP : va_P D vwCl (MW oc am cI cJ cZ cO 0 0 1 0 0 qo F (va_up G 13 f_2)) H := hP
  have hD : va_D A (MW oc am cI cJ cZ cO 0 0 1 0 0 qo F (va_up G 13 f_2)) := hD
  refine lv_aload_n hx hb dX8_reduce_112 rfl (lv_at hl 1 rfl) ?_
  refine lv_iconst (v := 0) hx hb dX8_reduce_113 (by decide) ?_
  refine va_put (D := D) (ci := 8) (v := .int 0) (C := RX8) (T := TX8) (N := 32) hx hb hg inGX8 tyX8 tyX8_ok nmX8 hown hK hP hD hS 1 rfl rfl 21 (by decide) (hg _ mw_364) (fun _ h9 => h9) rfl (tyX8_ok 21 (by decide)) rfl rfl (Nat.le_of_ble_eq_true rfl) dX8_reduce_114 (fun H locs hP hD hS => ?_)
  have hP : va_P D vwCl (MW oc am cI cJ cZ cO 0 0 1 0 0 qo F (va_up G 13 f_2)) H := hP
  have hD : va_D A (MW oc am cI cJ cZ cO 0 0 1 0 0 qo F (va_up G 13 f_2)) := hD
  refine lv_iconst (v := 1) hx hb dX8_reduce_117 (by decide) ?_
  refine lv_istore_n (lv' := [(1, .int 1), (0, .ref (am 1))]) hx hb dX8_reduce_118 rfl hl (by decide) rfl (fun ls hl => ?_)
  refine lv_iload_n hx hb dX8_reduce_119 rfl (lv_at hl 0 rfl) ?_
  refine lv_if_eq (tgt := 173) hx hb dX8_reduce_120 (by decide) (fun c_120 => absurd c_120 (by decide)) (fun c_120 => ?_)
  refine lv_iconst (v := 0) hx hb dX8_reduce_123 (by decide) ?_
  refine lv_istore_n (lv' := [(1, .int 0), (0, .ref (am 1))]) hx hb dX8_reduce_124 rfl hl (by decide) rfl (fun ls hl => ?_)
  refine lv_iconst (v := 0) hx hb dX8_reduce_125 (by decide) ?_
  refine lv_istore_n (lv' := [(2, .int 0), (1, .int 0), (0, .ref (am 1))]) hx hb dX8_reduce_126 rfl hl (by decide) rfl (fun ls hl => ?_)
  refine lv_iload_n hx hb dX8_reduce_127 rfl (lv_at hl 0 rfl) ?_
  refine lv_aload_n hx hb dX8_reduce_128 rfl (lv_at hl 2 rfl) ?_
  refine va_get (D := D) (ci := 8) (v := .int 0) (C := RX8) (T := TX8) (N := 32) hx hb hg inGX8 hown hK hP 1 rfl rfl 7 (by decide) (hg _ mw_356) (fun _ h9 => h9) rfl dX8_reduce_129 ?_
  refine lv_icmp_ge (tgt := 170) hx hb dX8_reduce_132 (by decide) (fun c_132 => ?_) (fun c_132 => absurd (by decide) c_132)
  refine lv_goto (tgt := 119) hx hb dX8_reduce_170 (by decide) ?_
  refine lv_iload_n hx hb dX8_reduce_119 rfl (lv_at hl 1 rfl) ?_
  refine lv_if_eq (tgt := 173) hx hb dX8_reduce_120 (by decide) (fun c_120 => ?_) (fun c_120 => absurd (by decide) c_120)
  exact W.vret hx hb hr (fun t ht hW => ⟨⟨(MW oc am cI cJ cZ cO 0 0 1 0 0 qo F (va_up G 13 f_2)), rfl, ⟨_, _, rfl⟩, ⟨by rw [ht]; exact hP, va_K.moved hW.alike hK, hD⟩⟩, hS.F ht⟩) hS.2.2 dX8_reduce_173
set_option maxHeartbeats 4000000 in
set_option maxRecDepth 100000 in
theorem m_layLayers (l : Launch) (D : va_G) (cI cJ cZ : ClassId) (cO : ClassId) (oc : Nat × va_E) (am : Nat → Nat) (qo : Nat) (F : Nat → Nat → Int32) (G : Nat → Nat → Int64) : CT l D (TO cI cJ cZ cO) yX8_layLayers (.code yX8_layLayers cX8_layLayers 3 (none : Option FieldType)) 1 1 0 (MW oc am cI cJ cZ cO 0 0 1 0 0 qo F G) [.ref (am 1)] (QV D (TO cI cJ cZ cO) (fun u => ∃ qo' F' G', u = MW oc am cI cJ cZ cO 0 0 1 0 0 qo' F' G')) := by
  refine ent (by decide) (Nat.le_of_ble_eq_true rfl) ?_
  intro p e s m below meth c ls A hx hb hr hg hown hml hlocks hnm hP hK hD hS hA hN hl
  have hl : lv_has ls 3 [(0, .ref (am 1))] := hl
  refine lv_aload_n hx hb dX8_layLayers_0 rfl (lv_at hl 0 rfl) ?_
  refine va_get (D := D) (ci := 8) (v := .ref (am 17)) (C := RX8) (T := TX8) (N := 32) hx hb hg inGX8 hown hK hP 1 rfl rfl 23 (by decide) (hg _ mw_365) (fun _ h9 => h9) rfl dX8_layLayers_1 ?_
  refine lv_iconst (v := 0) hx hb dX8_layLayers_4 (by decide) ?_
  refine kV (rS hx hb hml hown hg hN hK hP hD (m_fillI l D cI cJ cZ cO (MW oc am cI cJ cZ cO 0 0 1 0 0 qo F G) 17 (am 17) 40 (F 17) 0 rfl (by decide)) mw_352 mw_353 mw_354 mw_355 pd_J7_fill_53178 ⟨Nat.le_of_ble_eq_true rfl, Nat.le_of_ble_eq_true rfl⟩ rfl hl.1 rfl (Nat.le_of_ble_eq_true rfl) dX8_layLayers_5 ⟨Nat.le_of_ble_eq_true rfl, Nat.le_of_ble_eq_true rfl⟩) hD hS hA (fun u_1 H locs hp hP hD hS => ?_)
  obtain ⟨f_2, rfl⟩ := hp
  have hP : va_P D vwCl (MW oc am cI cJ cZ cO 0 0 1 0 0 qo (va_up F 17 f_2) G) H := hP
  have hD : va_D A (MW oc am cI cJ cZ cO 0 0 1 0 0 qo (va_up F 17 f_2) G) := hD
  refine lv_aload_n hx hb dX8_layLayers_8 rfl (lv_at hl 0 rfl) ?_
  refine va_get (D := D) (ci := 8) (v := .ref (am 19)) (C := RX8) (T := TX8) (N := 32) hx hb hg inGX8 hown hK hP 1 rfl rfl 26 (by decide) (hg _ mw_366) (fun _ h9 => h9) rfl dX8_layLayers_9 ?_
  refine lv_iconst (v := 0) hx hb dX8_layLayers_12 (by decide) ?_
  refine kV (rS hx hb hml hown hg hN hK hP hD (m_fillZ l D cI cJ cZ cO (MW oc am cI cJ cZ cO 0 0 1 0 0 qo (va_up F 17 f_2) G) 19 (am 19) 80 ((va_up F 17 f_2) 19) rfl (by decide)) mw_367 mw_368 mw_369 mw_355 pd_J7_fill_49daa ⟨Nat.le_of_ble_eq_true rfl, Nat.le_of_ble_eq_true rfl⟩ rfl hl.1 rfl (Nat.le_of_ble_eq_true rfl) dX8_layLayers_13 ⟨Nat.le_of_ble_eq_true rfl, Nat.le_of_ble_eq_true rfl⟩) hD hS hA (fun u_3 H locs hp hP hD hS => ?_)
  obtain ⟨f_4, rfl⟩ := hp
  have hP : va_P D vwCl (MW oc am cI cJ cZ cO 0 0 1 0 0 qo (va_up (va_up F 17 f_2) 19 f_4) G) H := hP
  have hD : va_D A (MW oc am cI cJ cZ cO 0 0 1 0 0 qo (va_up (va_up F 17 f_2) 19 f_4) G) := hD
  refine lv_aload_n hx hb dX8_layLayers_16 rfl (lv_at hl 0 rfl) ?_
  refine va_get (D := D) (ci := 8) (v := .ref (am 20)) (C := RX8) (T := TX8) (N := 32) hx hb hg inGX8 hown hK hP 1 rfl rfl 27 (by decide) (hg _ mw_370) (fun _ h9 => h9) rfl dX8_layLayers_17 ?_
  refine lv_iconst (v := 0) hx hb dX8_layLayers_20 (by decide) ?_
  refine kV (rS hx hb hml hown hg hN hK hP hD (m_fillI l D cI cJ cZ cO (MW oc am cI cJ cZ cO 0 0 1 0 0 qo (va_up (va_up F 17 f_2) 19 f_4) G) 20 (am 20) 40 ((va_up (va_up F 17 f_2) 19 f_4) 20) 0 rfl (by decide)) mw_352 mw_353 mw_354 mw_355 pd_J7_fill_53178 ⟨Nat.le_of_ble_eq_true rfl, Nat.le_of_ble_eq_true rfl⟩ rfl hl.1 rfl (Nat.le_of_ble_eq_true rfl) dX8_layLayers_21 ⟨Nat.le_of_ble_eq_true rfl, Nat.le_of_ble_eq_true rfl⟩) hD hS hA (fun u_5 H locs hp hP hD hS => ?_)
  obtain ⟨f_6, rfl⟩ := hp
  have hP : va_P D vwCl (MW oc am cI cJ cZ cO 0 0 1 0 0 qo (va_up (va_up (va_up F 17 f_2) 19 f_4) 20 f_6) G) H := hP
  have hD : va_D A (MW oc am cI cJ cZ cO 0 0 1 0 0 qo (va_up (va_up (va_up F 17 f_2) 19 f_4) 20 f_6) G) := hD
  refine lv_aload_n hx hb dX8_layLayers_24 rfl (lv_at hl 0 rfl) ?_
  refine lv_iconst (v := 0) hx hb dX8_layLayers_25 (by decide) ?_
  refine va_put (D := D) (ci := 8) (v := .int 0) (C := RX8) (T := TX8) (N := 32) hx hb hg inGX8 tyX8 tyX8_ok nmX8 hown hK hP hD hS 1 rfl rfl 25 (by decide) (hg _ mw_371) (fun _ h9 => h9) rfl (tyX8_ok 25 (by decide)) rfl rfl (Nat.le_of_ble_eq_true rfl) dX8_layLayers_26 (fun H locs hP hD hS => ?_)
  have hP : va_P D vwCl (MW oc am cI cJ cZ cO 0 0 1 0 0 qo (va_up (va_up (va_up F 17 f_2) 19 f_4) 20 f_6) G) H := hP
  have hD : va_D A (MW oc am cI cJ cZ cO 0 0 1 0 0 qo (va_up (va_up (va_up F 17 f_2) 19 f_4) 20 f_6) G) := hD
  refine lv_aload_n hx hb dX8_layLayers_29 rfl (lv_at hl 0 rfl) ?_
  refine lv_iconst (v := 0) hx hb dX8_layLayers_30 (by decide) ?_
  refine va_put (D := D) (ci := 8) (v := .int 0) (C := RX8) (T := TX8) (N := 32) hx hb hg inGX8 tyX8 tyX8_ok nmX8 hown hK hP hD hS 1 rfl rfl 28 (by decide) (hg _ mw_372) (fun _ h9 => h9) rfl (tyX8_ok 28 (by decide)) rfl rfl (Nat.le_of_ble_eq_true rfl) dX8_layLayers_31 (fun H locs hP hD hS => ?_)
  have hP : va_P D vwCl (MW oc am cI cJ cZ cO 0 0 1 0 0 qo (va_up (va_up (va_up F 17 f_2) 19 f_4) 20 f_6) G) H := hP
  have hD : va_D A (MW oc am cI cJ cZ cO 0 0 1 0 0 qo (va_up (va_up (va_up F 17 f_2) 19 f_4) 20 f_6) G) := hD
  refine lv_aload_n hx hb dX8_layLayers_34 rfl (lv_at hl 0 rfl) ?_
  refine va_get (D := D) (ci := 8) (v := .int 0) (C := RX8) (T := TX8) (N := 32) hx hb hg inGX8 hown hK hP 1 rfl rfl 1 (by decide) (hg _ mw_344) (fun _ h9 => h9) rfl dX8_layLayers_35 ?_
  refine lv_if_le (tgt := 46) hx hb dX8_layLayers_38 (by decide) (fun c_38 => ?_) (fun c_38 => absurd (by decide) c_38)
  refine lv_iconst (v := 1) hx hb dX8_layLayers_46 (by decide) ?_
  refine lv_istore_n (lv' := [(1, .int 1), (0, .ref (am 1))]) hx hb dX8_layLayers_47 rfl hl (by decide) rfl (fun ls hl => ?_)
  refine lv_iload_n hx hb dX8_layLayers_48 rfl (lv_at hl 0 rfl) ?_
  refine lv_if_eq (tgt := 131) hx hb dX8_layLayers_49 (by decide) (fun c_49 => absurd c_49 (by decide)) (fun c_49 => ?_)
  refine lv_iconst (v := 0) hx hb dX8_layLayers_52 (by decide) ?_
  refine lv_istore_n (lv' := [(1, .int 0), (0, .ref (am 1))]) hx hb dX8_layLayers_53 rfl hl (by decide) rfl (fun ls hl => ?_)
  refine lv_iconst (v := 0) hx hb dX8_layLayers_54 (by decide) ?_
  refine lv_istore_n (lv' := [(2, .int 0), (1, .int 0), (0, .ref (am 1))]) hx hb dX8_layLayers_55 rfl hl (by decide) rfl (fun ls hl => ?_)
  refine lv_iload_n hx hb dX8_layLayers_56 rfl (lv_at hl 0 rfl) ?_
  refine lv_aload_n hx hb dX8_layLayers_57 rfl (lv_at hl 2 rfl) ?_
  refine va_get (D := D) (ci := 8) (v := .int 0) (C := RX8) (T := TX8) (N := 32) hx hb hg inGX8 hown hK hP 1 rfl rfl 8 (by decide) (hg _ mw_361) (fun _ h9 => h9) rfl dX8_layLayers_58 ?_
  refine lv_icmp_ge (tgt := 128) hx hb dX8_layLayers_61 (by decide) (fun c_61 => ?_) (fun c_61 => absurd (by decide) c_61)
  refine lv_goto (tgt := 48) hx hb dX8_layLayers_128 (by decide) ?_
  refine lv_iload_n hx hb dX8_layLayers_48 rfl (lv_at hl 1 rfl) ?_
  refine lv_if_eq (tgt := 131) hx hb dX8_layLayers_49 (by decide) (fun c_49 => ?_) (fun c_49 => absurd (by decide) c_49)
  refine lv_iconst (v := 0) hx hb dX8_layLayers_131 (by decide) ?_
  refine lv_istore_n (lv' := [(2, .int 0), (1, .int 0), (0, .ref (am 1))]) hx hb dX8_layLayers_132 rfl hl (by decide) rfl (fun ls hl => ?_)
  refine lv_iload_n hx hb dX8_layLayers_133 rfl (lv_at hl 0 rfl) ?_
  refine lv_aload_n hx hb dX8_layLayers_134 rfl (lv_at hl 2 rfl) ?_
  refine va_get (D := D) (ci := 8) (v := .int 0) (C := RX8) (T := TX8) (N := 32) hx hb hg inGX8 hown hK hP 1 rfl rfl 25 (by decide) (hg _ mw_371) (fun _ h9 => h9) rfl dX8_layLayers_135 ?_
  refine lv_icmp_ge (tgt := 171) hx hb dX8_layLayers_138 (by decide) (fun c_138 => ?_) (fun c_138 => absurd (by decide) c_138)
  refine lv_aload_n hx hb dX8_layLayers_171 rfl (lv_at hl 2 rfl) ?_
  refine va_get (D := D) (ci := 8) (v := .int 0) (C := RX8) (T := TX8) (N := 32) hx hb hg inGX8 hown hK hP 1 rfl rfl 30 (by decide) (hg _ mw_350) (fun _ h9 => h9) rfl dX8_layLayers_172 ?_
  refine lv_if_le (tgt := 179) hx hb dX8_layLayers_175 (by decide) (fun c_175 => ?_) (fun c_175 => absurd (by decide) c_175)
  refine lv_aload_n hx hb dX8_layLayers_179 rfl (lv_at hl 2 rfl) ?_
  refine lv_aload_n hx hb dX8_layLayers_180 rfl (lv_at hl 2 rfl) ?_
  refine va_get (D := D) (ci := 8) (v := .int 0) (C := RX8) (T := TX8) (N := 32) hx hb hg inGX8 hown hK hP 1 rfl rfl 28 (by decide) (hg _ mw_372) (fun _ h9 => h9) rfl dX8_layLayers_181 ?_
  refine my_newA (N' := 0) hx hb hown (hg _ mw_373) hN hK hP hD hS hA 3 rfl (by decide) (by decide) (Nat.le_of_ble_eq_true rfl) (Nat.le_of_ble_eq_true rfl) (Nat.le_of_ble_eq_true rfl) dX8_layLayers_184 (fun q_7 H hP hD hS => ?_)
  refine va_put (D := D) (ci := 8) (v := .ref q_7) (C := RX8) (T := TX8) (N := 32) hx hb hg inGX8 tyX8 tyX8_ok nmX8 hown hK hP hD hS 1 rfl rfl 29 (by decide) (hg _ mw_374) (fun _ h9 => h9) rfl (tyX8_ok 29 (by decide)) rfl rfl (Nat.le_of_ble_eq_true rfl) dX8_layLayers_187 (fun H locs hP hD hS => ?_)
  have hP : va_P D vwCl (MW oc am cI cJ cZ cO 0 0 1 0 0 q_7 (va_up (va_up (va_up F 17 f_2) 19 f_4) 20 f_6) G) H := hP.sub [0, 1, 2, 3, 4, 5, 6, 7, 8, 9, 10, 11, 12, 13, 14, 15, 16, 17, 18, 19, 20, 22] rfl
  have hD : va_D A (MW oc am cI cJ cZ cO 0 0 1 0 0 q_7 (va_up (va_up (va_up F 17 f_2) 19 f_4) 20 f_6) G) := hD.sub [0, 1, 2, 3, 4, 5, 6, 7, 8, 9, 10, 11, 12, 13, 14, 15, 16, 17, 18, 19, 20, 22] (by decide) rfl
  refine lv_iconst (v := 0) hx hb dX8_layLayers_190 (by decide) ?_
  refine lv_istore_n (lv' := [(2, .int 0), (1, .int 0), (0, .ref (am 1))]) hx hb dX8_layLayers_191 rfl hl (by decide) rfl (fun ls hl => ?_)
  refine lv_iload_n hx hb dX8_layLayers_192 rfl (lv_at hl 0 rfl) ?_
  refine lv_aload_n hx hb dX8_layLayers_193 rfl (lv_at hl 2 rfl) ?_
  refine va_get (D := D) (ci := 8) (v := .int 0) (C := RX8) (T := TX8) (N := 32) hx hb hg inGX8 hown hK hP 1 rfl rfl 28 (by decide) (hg _ mw_372) (fun _ h9 => h9) rfl dX8_layLayers_194 ?_
  refine lv_icmp_ge (tgt := 217) hx hb dX8_layLayers_197 (by decide) (fun c_197 => ?_) (fun c_197 => absurd (by decide) c_197)
  exact W.vret hx hb hr (fun t ht hW => ⟨⟨(MW oc am cI cJ cZ cO 0 0 1 0 0 q_7 (va_up (va_up (va_up F 17 f_2) 19 f_4) 20 f_6) G), rfl, ⟨_, _, _, rfl⟩, ⟨by rw [ht]; exact hP, va_K.moved hW.alike hK, hD⟩⟩, hS.F ht⟩) hS.2.2 dX8_layLayers_217
set_option maxHeartbeats 4000000 in
set_option maxRecDepth 100000 in
theorem m_lay (l : Launch) (D : va_G) (cI cJ cZ : ClassId) (cO : ClassId) (oc : Nat × va_E) (am : Nat → Nat) (qo : Nat) (F : Nat → Nat → Int32) (G : Nat → Nat → Int64) : CT l D (TO cI cJ cZ cO) yX8_lay (.code yX8_lay cX8_lay 5 (none : Option FieldType)) 2 1 0 (MW oc am cI cJ cZ cO 0 0 0 0 0 qo F G) [.ref (am 1)] (QV D (TO cI cJ cZ cO) (fun u => ∃ qo' F' G', u = MW oc am cI cJ cZ cO 0 0 1 0 0 qo' F' G')) := by
  refine ent (by decide) (Nat.le_of_ble_eq_true rfl) ?_
  intro p e s m below meth c ls A hx hb hr hg hown hml hlocks hnm hP hK hD hS hA hN hl
  have hl : lv_has ls 5 [(0, .ref (am 1))] := hl
  refine lv_aload_n hx hb dX8_lay_0 rfl (lv_at hl 0 rfl) ?_
  refine va_get (D := D) (ci := 8) (v := .int 0) (C := RX8) (T := TX8) (N := 32) hx hb hg inGX8 hown hK hP 1 rfl rfl 6 (by decide) (hg _ mw_349) (fun _ h9 => h9) rfl dX8_lay_1 ?_
  refine lv_if_eq (tgt := 8) hx hb dX8_lay_4 (by decide) (fun c_4 => ?_) (fun c_4 => absurd (by decide) c_4)
  refine lv_aload_n hx hb dX8_lay_8 rfl (lv_at hl 0 rfl) ?_
  refine lv_iconst (v := 1) hx hb dX8_lay_9 (by decide) ?_
  refine va_put (D := D) (ci := 8) (v := .int 1) (C := RX8) (T := TX8) (N := 32) hx hb hg inGX8 tyX8 tyX8_ok nmX8 hown hK hP hD hS 1 rfl rfl 6 (by decide) (hg _ mw_349) (fun _ h9 => h9) rfl (tyX8_ok 6 (by decide)) rfl rfl (Nat.le_of_ble_eq_true rfl) dX8_lay_10 (fun H locs hP hD hS => ?_)
  have hP : va_P D vwCl (MW oc am cI cJ cZ cO 0 0 1 0 0 qo F G) H := hP
  have hD : va_D A (MW oc am cI cJ cZ cO 0 0 1 0 0 qo F G) := hD
  refine lv_aload_n hx hb dX8_lay_13 rfl (lv_at hl 0 rfl) ?_
  refine lv_iconst (v := 0) hx hb dX8_lay_14 (by decide) ?_
  refine va_put (D := D) (ci := 8) (v := .int 0) (C := RX8) (T := TX8) (N := 32) hx hb hg inGX8 tyX8 tyX8_ok nmX8 hown hK hP hD hS 1 rfl rfl 7 (by decide) (hg _ mw_356) (fun _ h9 => h9) rfl (tyX8_ok 7 (by decide)) rfl rfl (Nat.le_of_ble_eq_true rfl) dX8_lay_15 (fun H locs hP hD hS => ?_)
  have hP : va_P D vwCl (MW oc am cI cJ cZ cO 0 0 1 0 0 qo F G) H := hP
  have hD : va_D A (MW oc am cI cJ cZ cO 0 0 1 0 0 qo F G) := hD
  refine lv_aload_n hx hb dX8_lay_18 rfl (lv_at hl 0 rfl) ?_
  refine lv_iconst (v := 0) hx hb dX8_lay_19 (by decide) ?_
  refine va_put (D := D) (ci := 8) (v := .int 0) (C := RX8) (T := TX8) (N := 32) hx hb hg inGX8 tyX8 tyX8_ok nmX8 hown hK hP hD hS 1 rfl rfl 8 (by decide) (hg _ mw_361) (fun _ h9 => h9) rfl (tyX8_ok 8 (by decide)) rfl rfl (Nat.le_of_ble_eq_true rfl) dX8_lay_20 (fun H locs hP hD hS => ?_)
  have hP : va_P D vwCl (MW oc am cI cJ cZ cO 0 0 1 0 0 qo F G) H := hP
  have hD : va_D A (MW oc am cI cJ cZ cO 0 0 1 0 0 qo F G) := hD
  refine lv_iconst (v := 0) hx hb dX8_lay_23 (by decide) ?_
  refine lv_istore_n (lv' := [(1, .int 0), (0, .ref (am 1))]) hx hb dX8_lay_24 rfl hl (by decide) rfl (fun ls hl => ?_)
  refine lv_iload_n hx hb dX8_lay_25 rfl (lv_at hl 0 rfl) ?_
  refine lv_aload_n hx hb dX8_lay_26 rfl (lv_at hl 1 rfl) ?_
  refine va_get (D := D) (ci := 8) (v := .int 0) (C := RX8) (T := TX8) (N := 32) hx hb hg inGX8 hown hK hP 1 rfl rfl 1 (by decide) (hg _ mw_344) (fun _ h9 => h9) rfl dX8_lay_27 ?_
  refine lv_icmp_ge (tgt := 79) hx hb dX8_lay_30 (by decide) (fun c_30 => ?_) (fun c_30 => absurd (by decide) c_30)
  refine lv_aload_n hx hb dX8_lay_79 rfl (lv_at hl 1 rfl) ?_
  refine va_get (D := D) (ci := 8) (v := .ref (am 7)) (C := RX8) (T := TX8) (N := 32) hx hb hg inGX8 hown hK hP 1 rfl rfl 10 (by decide) (hg _ mw_375) (fun _ h9 => h9) rfl dX8_lay_80 ?_
  refine lv_aload_n hx hb dX8_lay_83 rfl (lv_at hl 1 rfl) ?_
  refine va_get (D := D) (ci := 8) (v := .int 0) (C := RX8) (T := TX8) (N := 32) hx hb hg inGX8 hown hK hP 1 rfl rfl 7 (by decide) (hg _ mw_356) (fun _ h9 => h9) rfl dX8_lay_84 ?_
  refine lv_aload_n hx hb dX8_lay_87 rfl (lv_at hl 1 rfl) ?_
  refine va_get (D := D) (ci := 8) (v := .int 0) (C := RX8) (T := TX8) (N := 32) hx hb hg inGX8 hown hK hP 1 rfl rfl 1 (by decide) (hg _ mw_344) (fun _ h9 => h9) rfl dX8_lay_88 ?_
  refine va_iast hx hb hK hP hD hS 7 0 rfl rfl (by unfold vp_in; decide) dX8_lay_91 (fun H locs hP hD hS => ?_)
  have hP : va_P D vwCl (MW oc am cI cJ cZ cO 0 0 1 0 0 qo (va_up F 7 (upd (F 7) (0 : Int32).toNatClampNeg 0)) G) H := hP
  have hD : va_D A (MW oc am cI cJ cZ cO 0 0 1 0 0 qo (va_up F 7 (upd (F 7) (0 : Int32).toNatClampNeg 0)) G) := hD
  refine lv_iconst (v := 0) hx hb dX8_lay_92 (by decide) ?_
  refine lv_istore_n (lv' := [(1, .int 0), (0, .ref (am 1))]) hx hb dX8_lay_93 rfl hl (by decide) rfl (fun ls hl => ?_)
  refine lv_iload_n hx hb dX8_lay_94 rfl (lv_at hl 0 rfl) ?_
  refine lv_aload_n hx hb dX8_lay_95 rfl (lv_at hl 1 rfl) ?_
  refine va_get (D := D) (ci := 8) (v := .int 0) (C := RX8) (T := TX8) (N := 32) hx hb hg inGX8 hown hK hP 1 rfl rfl 7 (by decide) (hg _ mw_356) (fun _ h9 => h9) rfl dX8_lay_96 ?_
  refine lv_icmp_ge (tgt := 258) hx hb dX8_lay_99 (by decide) (fun c_99 => ?_) (fun c_99 => absurd (by decide) c_99)
  refine lv_aload_n hx hb dX8_lay_258 rfl (lv_at hl 1 rfl) ?_
  refine lv_aload_n hx hb dX8_lay_259 rfl (lv_at hl 1 rfl) ?_
  refine va_get (D := D) (ci := 8) (v := .int 0) (C := RX8) (T := TX8) (N := 32) hx hb hg inGX8 hown hK hP 1 rfl rfl 1 (by decide) (hg _ mw_344) (fun _ h9 => h9) rfl dX8_lay_260 ?_
  refine lv_if_ne (tgt := 270) hx hb dX8_lay_263 (by decide) (fun c_263 => absurd (by decide) c_263) (fun c_263 => ?_)
  refine lv_lconst (v := 0) hx hb dX8_lay_266 (by decide) ?_
  refine lv_goto (tgt := 276) hx hb dX8_lay_267 (by decide) ?_
  refine va_put (D := D) (ci := 8) (v := .long 0) (C := RX8) (T := TX8) (N := 32) hx hb hg inGX8 tyX8 tyX8_ok nmX8 hown hK hP hD hS 1 rfl rfl 13 (by decide) (hg _ mw_362) (fun _ h9 => h9) rfl (tyX8_ok 13 (by decide)) rfl rfl (Nat.le_of_ble_eq_true rfl) dX8_lay_276 (fun H locs hP hD hS => ?_)
  have hP : va_P D vwCl (MW oc am cI cJ cZ cO 0 0 1 0 0 qo (va_up F 7 (upd (F 7) (0 : Int32).toNatClampNeg 0)) G) H := hP
  have hD : va_D A (MW oc am cI cJ cZ cO 0 0 1 0 0 qo (va_up F 7 (upd (F 7) (0 : Int32).toNatClampNeg 0)) G) := hD
  refine lv_iconst (v := 0) hx hb dX8_lay_279 (by decide) ?_
  refine lv_istore_n (lv' := [(1, .int 0), (0, .ref (am 1))]) hx hb dX8_lay_280 rfl hl (by decide) rfl (fun ls hl => ?_)
  refine lv_iload_n hx hb dX8_lay_281 rfl (lv_at hl 0 rfl) ?_
  refine lv_aload_n hx hb dX8_lay_282 rfl (lv_at hl 1 rfl) ?_
  refine va_get (D := D) (ci := 8) (v := .int 0) (C := RX8) (T := TX8) (N := 32) hx hb hg inGX8 hown hK hP 1 rfl rfl 7 (by decide) (hg _ mw_356) (fun _ h9 => h9) rfl dX8_lay_283 ?_
  refine lv_icmp_ge (tgt := 309) hx hb dX8_lay_286 (by decide) (fun c_286 => ?_) (fun c_286 => absurd (by decide) c_286)
  refine lv_iconst (v := 0) hx hb dX8_lay_309 (by decide) ?_
  refine lv_istore_n (lv' := [(1, .int 0), (0, .ref (am 1))]) hx hb dX8_lay_310 rfl hl (by decide) rfl (fun ls hl => ?_)
  refine lv_iload_n hx hb dX8_lay_311 rfl (lv_at hl 0 rfl) ?_
  refine lv_aload_n hx hb dX8_lay_312 rfl (lv_at hl 1 rfl) ?_
  refine va_get (D := D) (ci := 8) (v := .int 0) (C := RX8) (T := TX8) (N := 32) hx hb hg inGX8 hown hK hP 1 rfl rfl 7 (by decide) (hg _ mw_356) (fun _ h9 => h9) rfl dX8_lay_313 ?_
  refine lv_icmp_ge (tgt := 336) hx hb dX8_lay_316 (by decide) (fun c_316 => ?_) (fun c_316 => absurd (by decide) c_316)
  refine lv_aload_n hx hb dX8_lay_336 rfl (lv_at hl 1 rfl) ?_
  refine kV (rV (q0 := 1) (ci := 8) hx hb hml hown hg hN hK hP hD (m_layLive l D cI cJ cZ cO oc am qo (va_up F 7 (upd (F 7) (0 : Int32).toNatClampNeg 0)) G) mw_376 mw_377 mw_378 mw_379 mw_348 pdv_X8_layLive ⟨Nat.le_of_ble_eq_true rfl, Nat.le_of_ble_eq_true rfl⟩ rfl rfl rfl hl.1 rfl (Nat.le_of_ble_eq_true rfl) dX8_lay_337 ⟨Nat.le_of_ble_eq_true rfl, Nat.le_of_ble_eq_true rfl⟩) hD hS hA (fun u_1 H locs hp hP hD hS => ?_)
  obtain ⟨F_2, G_3, rfl⟩ := hp
  refine lv_aload_n hx hb dX8_lay_340 rfl (lv_at hl 1 rfl) ?_
  refine kV (rV (q0 := 1) (ci := 8) hx hb hml hown hg hN hK hP hD (m_reduce l D cI cJ cZ cO oc am qo F_2 G_3) mw_380 mw_381 mw_382 mw_383 mw_348 pdv_X8_reduce ⟨Nat.le_of_ble_eq_true rfl, Nat.le_of_ble_eq_true rfl⟩ rfl rfl rfl hl.1 rfl (Nat.le_of_ble_eq_true rfl) dX8_lay_341 ⟨Nat.le_of_ble_eq_true rfl, Nat.le_of_ble_eq_true rfl⟩) hD hS hA (fun u_4 H locs hp hP hD hS => ?_)
  obtain ⟨F_5, G_6, rfl⟩ := hp
  refine lv_aload_n hx hb dX8_lay_344 rfl (lv_at hl 1 rfl) ?_
  refine kV (rV (q0 := 1) (ci := 8) hx hb hml hown hg hN hK hP hD (m_layLayers l D cI cJ cZ cO oc am qo F_5 G_6) mw_384 mw_385 mw_386 mw_387 mw_348 pdv_X8_layLayers ⟨Nat.le_of_ble_eq_true rfl, Nat.le_of_ble_eq_true rfl⟩ rfl rfl rfl hl.1 rfl (Nat.le_of_ble_eq_true rfl) dX8_lay_345 ⟨Nat.le_of_ble_eq_true rfl, Nat.le_of_ble_eq_true rfl⟩) hD hS hA (fun u_7 H locs hp hP hD hS => ?_)
  obtain ⟨q_8, F_9, G_10, rfl⟩ := hp
  exact W.vret hx hb hr (fun t ht hW => ⟨⟨(MW oc am cI cJ cZ cO 0 0 1 0 0 q_8 F_9 G_10), rfl, ⟨_, _, _, rfl⟩, ⟨by rw [ht]; exact hP, va_K.moved hW.alike hK, hD⟩⟩, hS.F ht⟩) hS.2.2 dX8_lay_348
