theorem inT1 : ∀ w ∈ tables_1_1, w ∈ lw_tbl := fun w h => List.mem_append_right _ (List.mem_append_left _ h)
theorem inT2 : ∀ w ∈ tables_1_2, w ∈ lw_tbl := fun w h => List.mem_append_right _ (List.mem_append_right _ (List.mem_append_left _ h))
theorem inT3 : ∀ w ∈ tables_1_3, w ∈ lw_tbl := fun w h => List.mem_append_right _ (List.mem_append_right _ (List.mem_append_right _ (List.mem_append_left _ h)))
theorem inT4 : ∀ w ∈ tables_1_4, w ∈ lw_tbl := fun w h => List.mem_append_right _ (List.mem_append_right _ (List.mem_append_right _ (List.mem_append_right _ (List.mem_append_left _ h))))
theorem inT5 : ∀ w ∈ tables_1_5, w ∈ lw_tbl := fun w h => List.mem_append_right _ (List.mem_append_right _ (List.mem_append_right _ (List.mem_append_right _ (List.mem_append_right _ (h)))))
theorem inTp {q : MethodName × Nat} (h : q ∈ lw_privs) : Cond.selects q.1.cls q.1 q.1 ∈ lw_tbl := List.mem_append_left _ (List.mem_map.mpr ⟨q, h, rfl⟩)
def NLm : List Cond := [Cond.methodLinkNest RX7 9 yX0_init "OrielChart", Cond.fieldLinkNest RX1 77 "OrielChart$Code" "kind" "[I" "OrielChart", Cond.fieldLinkNest RX7 92 "OrielChart$Code" "kind" "[I" "OrielChart", Cond.fieldLinkNest RX1 88 "OrielChart$Code" "target" "[I" "OrielChart", Cond.fieldLinkNest RX7 102 "OrielChart$Code" "target" "[I" "OrielChart", Cond.fieldLinkNest RX2 62 "OrielChart$Code" "sets" "[I" "OrielChart", Cond.fieldLinkNest RX7 116 "OrielChart$Code" "sets" "[I" "OrielChart", Cond.fieldLinkNest RX7 113 "OrielChart$Code" "uses" "[I" "OrielChart", Cond.fieldLinkNest RX2 74 "OrielChart$Code" "uses" "[I" "OrielChart", Cond.fieldLinkNest RX1 34 "OrielChart$Code" "count" "I" "OrielChart", Cond.fieldLinkNest RX7 51 "OrielChart$Code" "count" "I" "OrielChart", Cond.methodLinkNest RX7 18 yX1_init "OrielChart", Cond.fieldLinkNest RX7 130 "OrielChart$Flow" "home" "[I" "OrielChart", Cond.fieldLinkNest RX2 55 "OrielChart$Flow" "first" "[I" "OrielChart", Cond.fieldLinkNest RX7 136 "OrielChart$Flow" "first" "[I" "OrielChart", Cond.fieldLinkNest RX2 48 "OrielChart$Flow" "last" "[I" "OrielChart", Cond.fieldLinkNest RX4 81 "OrielChart$Flow" "from" "[I" "OrielChart", Cond.fieldLinkNest RX7 153 "OrielChart$Flow" "from" "[I" "OrielChart", Cond.fieldLinkNest RX4 88 "OrielChart$Flow" "to" "[I" "OrielChart", Cond.fieldLinkNest RX6 70 "OrielChart$Flow" "to" "[I" "OrielChart", Cond.fieldLinkNest RX7 156 "OrielChart$Flow" "to" "[I" "OrielChart", Cond.fieldLinkNest RX6 61 "OrielChart$Flow" "firstEdge" "[I" "OrielChart", Cond.fieldLinkNest RX5 45 "OrielChart$Flow" "next" "[J" "OrielChart", Cond.fieldLinkNest RX4 69 "OrielChart$Flow" "next" "[J" "OrielChart", Cond.fieldLinkNest RX2 67 "OrielChart$Flow" "next" "[J" "OrielChart", Cond.fieldLinkNest RX6 45 "OrielChart$Flow" "blockCount" "I" "OrielChart", Cond.fieldLinkNest RX2 27 "OrielChart$Flow" "blockCount" "I" "OrielChart", Cond.fieldLinkNest RX4 54 "OrielChart$Flow" "blockCount" "I" "OrielChart", Cond.fieldLinkNest RX7 127 "OrielChart$Flow" "blockCount" "I" "OrielChart", Cond.fieldLinkNest RX3 52 "OrielChart$Flow" "edgeCount" "I" "OrielChart", Cond.fieldLinkNest RX4 78 "OrielChart$Flow" "edgeCount" "I" "OrielChart", Cond.fieldLinkNest RX7 147 "OrielChart$Flow" "edgeCount" "I" "OrielChart", Cond.fieldLinkNest RX5 28 "OrielChart$Flow" "reached" "J" "OrielChart", Cond.fieldLinkNest RX4 24 "OrielChart$Flow" "reached" "J" "OrielChart", Cond.fieldLinkNest RX2 32 "OrielChart$Flow" "reached" "J" "OrielChart", Cond.fieldLinkNest RX7 139 "OrielChart$Flow" "reached" "J" "OrielChart", Cond.fieldLinkNest RX7 333 "OrielChart$Flow" "fresh" "Z" "OrielChart", Cond.methodLinkNest RX7 25 yX4_init "OrielChart", Cond.fieldLinkNest RX7 181 "OrielChart$Ranks" "loop" "[J" "OrielChart", Cond.fieldLinkNest RX7 178 "OrielChart$Ranks" "loopCount" "I" "OrielChart", Cond.fieldLinkNest RX7 197 "OrielChart$Ranks" "tame" "Z" "OrielChart", Cond.fieldLinkNest RX7 334 "OrielChart$Ranks" "fresh" "Z" "OrielChart", Cond.methodLinkNest RX7 32 yX2_init "OrielChart", Cond.fieldLinkNest RX7 204 "OrielChart$Lives" "live" "[I" "OrielChart", Cond.fieldLinkNest RX7 207 "OrielChart$Lives" "vainCount" "I" "OrielChart", Cond.fieldLinkNest RX7 119 "OrielChart$Lives" "fresh" "Z" "OrielChart", Cond.methodLinkNest RX7 39 yX5_init "OrielChart", Cond.fieldLinkNest RX7 233 "OrielChart$Reduction" "home" "[I" "OrielChart", Cond.fieldLinkNest RX7 224 "OrielChart$Reduction" "rule" "[I" "OrielChart", Cond.fieldLinkNest RX7 227 "OrielChart$Reduction" "node" "[I" "OrielChart", Cond.fieldLinkNest RX7 230 "OrielChart$Reduction" "nodes" "J" "OrielChart", Cond.fieldLinkNest RX7 218 "OrielChart$Reduction" "stepCount" "I" "OrielChart", Cond.fieldLinkNest RX7 335 "OrielChart$Reduction" "fresh" "Z" "OrielChart", Cond.methodLinkNest RX7 46 yX3_init "OrielChart", Cond.methodLinkNest RX3 11 yX6_init "OrielChart", Cond.fieldLinkNest RX3 124 "OrielChart$Walk" "came" "[I" "OrielChart", Cond.fieldLinkNest RX3 115 "OrielChart$Walk" "upper" "[I" "OrielChart", Cond.fieldLinkNest RX3 108 "OrielChart$Walk" "lower" "[I" "OrielChart", Cond.fieldLinkNest RX3 121 "OrielChart$Walk" "cameCount" "I" "OrielChart", Cond.fieldLinkNest RX3 83 "OrielChart$Walk" "seen" "J" "OrielChart", Cond.fieldLinkNest RX7 244 "OrielChart$Picture" "walk" "LOrielChart$Walk;" "OrielChart", Cond.fieldLinkNest RX7 241 "OrielChart$Picture" "layer" "[I" "OrielChart", Cond.fieldLinkNest RX7 238 "OrielChart$Picture" "layerCount" "I" "OrielChart", Cond.fieldLinkNest RX7 289 "OrielChart$Picture" "sweeps" "I" "OrielChart", Cond.fieldLinkNest RX7 336 "OrielChart$Picture" "fresh" "Z" "OrielChart", Cond.methodLinkNest RX1 80 yX7_at "OrielChart", Cond.methodLinkNest RX1 65 yX7_bit "OrielChart", Cond.methodLinkNest RX1 84 yX7_jumps "OrielChart", Cond.methodLinkNest RX1 91 yX7_has "OrielChart", Cond.methodLinkNest RX1 54 yX7_put "OrielChart", Cond.methodLinkNest RX1 58 yX7_put_ "OrielChart", Cond.methodLinkNest RX1 99 yX7_at_ "OrielChart", Cond.methodLinkNest RX1 69 yX7_spread "OrielChart", Cond.methodLinkNest RX4 30 yX7_has "OrielChart", Cond.methodLinkNest RX4 72 yX7_bit "OrielChart", Cond.methodLinkNest RX4 65 yX7_spread "OrielChart", Cond.methodLinkNest RX4 38 yX7_put_ "OrielChart", Cond.methodLinkNest RX4 85 yX7_at "OrielChart", Cond.methodLinkNest RX4 61 yX7_at_ "OrielChart", Cond.methodLinkNest RX2 15 yX7_put "OrielChart", Cond.methodLinkNest RX2 36 yX7_has "OrielChart", Cond.methodLinkNest RX2 71 yX7_at_ "OrielChart", Cond.methodLinkNest RX2 51 yX7_at "OrielChart", Cond.methodLinkNest RX5 41 yX7_has "OrielChart", Cond.methodLinkNest RX5 46 yX7_at_ "OrielChart", Cond.methodLinkNest RX5 50 yX7_put_ "OrielChart", Cond.methodLinkNest RX5 54 yX7_put "OrielChart", Cond.methodLinkNest RX5 72 yX7_bit "OrielChart", Cond.methodLinkNest RX5 84 yX7_lowest "OrielChart", Cond.methodLinkNest RX5 87 yX7_at "OrielChart", Cond.methodLinkNest RX6 41 yX7_put "OrielChart", Cond.methodLinkNest RX6 54 yX7_at "OrielChart", Cond.methodLinkNest RX6 64 yX7_bit "OrielChart", Cond.methodLinkNest RX6 73 yX7_has "OrielChart", Cond.methodLinkNest RX3 87 yX7_has "OrielChart", Cond.methodLinkNest RX3 75 yX7_put "OrielChart", Cond.methodLinkNest RX3 95 yX7_at "OrielChart", Cond.methodLinkNest RX0 39 yX7_at "OrielChart", Cond.methodLinkNest RX0 35 yX7_put "OrielChart", Cond.castable "java/lang/IllegalArgumentException" "java/lang/IllegalArgumentException", Cond.declares ⟨"java/lang/RuntimeException", "<init>", "()V"⟩, Cond.declares ⟨"java/lang/RuntimeException", "<init>", "(Ljava/lang/String;)V"⟩, Cond.declares ⟨"java/lang/Exception", "<init>", "()V"⟩, Cond.declares ⟨"java/lang/Exception", "<init>", "(Ljava/lang/String;)V"⟩, Cond.declares ⟨"java/lang/Throwable", "<init>", "()V"⟩, Cond.declares ⟨"java/lang/Throwable", "<init>", "(Ljava/lang/String;)V"⟩, Cond.castable "java/lang/IllegalStateException" "java/lang/IllegalStateException", Cond.castable "java/lang/IndexOutOfBoundsException" "java/lang/IndexOutOfBoundsException"]
theorem nw_0 : Cond.methodLinkNest RX7 9 yX0_init "OrielChart" ∈ NLm := List.mem_of_getElem? (i := 0) rfl
theorem nw_1 : Cond.fieldLinkNest RX1 77 "OrielChart$Code" "kind" "[I" "OrielChart" ∈ NLm := List.mem_of_getElem? (i := 1) rfl
theorem nw_2 : Cond.fieldLinkNest RX7 92 "OrielChart$Code" "kind" "[I" "OrielChart" ∈ NLm := List.mem_of_getElem? (i := 2) rfl
theorem nw_3 : Cond.fieldLinkNest RX1 88 "OrielChart$Code" "target" "[I" "OrielChart" ∈ NLm := List.mem_of_getElem? (i := 3) rfl
theorem nw_4 : Cond.fieldLinkNest RX7 102 "OrielChart$Code" "target" "[I" "OrielChart" ∈ NLm := List.mem_of_getElem? (i := 4) rfl
theorem nw_5 : Cond.fieldLinkNest RX2 62 "OrielChart$Code" "sets" "[I" "OrielChart" ∈ NLm := List.mem_of_getElem? (i := 5) rfl
theorem nw_6 : Cond.fieldLinkNest RX7 116 "OrielChart$Code" "sets" "[I" "OrielChart" ∈ NLm := List.mem_of_getElem? (i := 6) rfl
theorem nw_7 : Cond.fieldLinkNest RX7 113 "OrielChart$Code" "uses" "[I" "OrielChart" ∈ NLm := List.mem_of_getElem? (i := 7) rfl
theorem nw_8 : Cond.fieldLinkNest RX2 74 "OrielChart$Code" "uses" "[I" "OrielChart" ∈ NLm := List.mem_of_getElem? (i := 8) rfl
theorem nw_9 : Cond.fieldLinkNest RX1 34 "OrielChart$Code" "count" "I" "OrielChart" ∈ NLm := List.mem_of_getElem? (i := 9) rfl
theorem nw_10 : Cond.fieldLinkNest RX7 51 "OrielChart$Code" "count" "I" "OrielChart" ∈ NLm := List.mem_of_getElem? (i := 10) rfl
theorem nw_11 : Cond.methodLinkNest RX7 18 yX1_init "OrielChart" ∈ NLm := List.mem_of_getElem? (i := 11) rfl
theorem nw_12 : Cond.fieldLinkNest RX7 130 "OrielChart$Flow" "home" "[I" "OrielChart" ∈ NLm := List.mem_of_getElem? (i := 12) rfl
theorem nw_13 : Cond.fieldLinkNest RX2 55 "OrielChart$Flow" "first" "[I" "OrielChart" ∈ NLm := List.mem_of_getElem? (i := 13) rfl
theorem nw_14 : Cond.fieldLinkNest RX7 136 "OrielChart$Flow" "first" "[I" "OrielChart" ∈ NLm := List.mem_of_getElem? (i := 14) rfl
theorem nw_15 : Cond.fieldLinkNest RX2 48 "OrielChart$Flow" "last" "[I" "OrielChart" ∈ NLm := List.mem_of_getElem? (i := 15) rfl
theorem nw_16 : Cond.fieldLinkNest RX4 81 "OrielChart$Flow" "from" "[I" "OrielChart" ∈ NLm := List.mem_of_getElem? (i := 16) rfl
theorem nw_17 : Cond.fieldLinkNest RX7 153 "OrielChart$Flow" "from" "[I" "OrielChart" ∈ NLm := List.mem_of_getElem? (i := 17) rfl
theorem nw_18 : Cond.fieldLinkNest RX4 88 "OrielChart$Flow" "to" "[I" "OrielChart" ∈ NLm := List.mem_of_getElem? (i := 18) rfl
theorem nw_19 : Cond.fieldLinkNest RX6 70 "OrielChart$Flow" "to" "[I" "OrielChart" ∈ NLm := List.mem_of_getElem? (i := 19) rfl
theorem nw_20 : Cond.fieldLinkNest RX7 156 "OrielChart$Flow" "to" "[I" "OrielChart" ∈ NLm := List.mem_of_getElem? (i := 20) rfl
theorem nw_21 : Cond.fieldLinkNest RX6 61 "OrielChart$Flow" "firstEdge" "[I" "OrielChart" ∈ NLm := List.mem_of_getElem? (i := 21) rfl
theorem nw_22 : Cond.fieldLinkNest RX5 45 "OrielChart$Flow" "next" "[J" "OrielChart" ∈ NLm := List.mem_of_getElem? (i := 22) rfl
theorem nw_23 : Cond.fieldLinkNest RX4 69 "OrielChart$Flow" "next" "[J" "OrielChart" ∈ NLm := List.mem_of_getElem? (i := 23) rfl
theorem nw_24 : Cond.fieldLinkNest RX2 67 "OrielChart$Flow" "next" "[J" "OrielChart" ∈ NLm := List.mem_of_getElem? (i := 24) rfl
theorem nw_25 : Cond.fieldLinkNest RX6 45 "OrielChart$Flow" "blockCount" "I" "OrielChart" ∈ NLm := List.mem_of_getElem? (i := 25) rfl
theorem nw_26 : Cond.fieldLinkNest RX2 27 "OrielChart$Flow" "blockCount" "I" "OrielChart" ∈ NLm := List.mem_of_getElem? (i := 26) rfl
theorem nw_27 : Cond.fieldLinkNest RX4 54 "OrielChart$Flow" "blockCount" "I" "OrielChart" ∈ NLm := List.mem_of_getElem? (i := 27) rfl
theorem nw_28 : Cond.fieldLinkNest RX7 127 "OrielChart$Flow" "blockCount" "I" "OrielChart" ∈ NLm := List.mem_of_getElem? (i := 28) rfl
theorem nw_29 : Cond.fieldLinkNest RX3 52 "OrielChart$Flow" "edgeCount" "I" "OrielChart" ∈ NLm := List.mem_of_getElem? (i := 29) rfl
theorem nw_30 : Cond.fieldLinkNest RX4 78 "OrielChart$Flow" "edgeCount" "I" "OrielChart" ∈ NLm := List.mem_of_getElem? (i := 30) rfl
theorem nw_31 : Cond.fieldLinkNest RX7 147 "OrielChart$Flow" "edgeCount" "I" "OrielChart" ∈ NLm := List.mem_of_getElem? (i := 31) rfl
theorem nw_32 : Cond.fieldLinkNest RX5 28 "OrielChart$Flow" "reached" "J" "OrielChart" ∈ NLm := List.mem_of_getElem? (i := 32) rfl
theorem nw_33 : Cond.fieldLinkNest RX4 24 "OrielChart$Flow" "reached" "J" "OrielChart" ∈ NLm := List.mem_of_getElem? (i := 33) rfl
theorem nw_34 : Cond.fieldLinkNest RX2 32 "OrielChart$Flow" "reached" "J" "OrielChart" ∈ NLm := List.mem_of_getElem? (i := 34) rfl
theorem nw_35 : Cond.fieldLinkNest RX7 139 "OrielChart$Flow" "reached" "J" "OrielChart" ∈ NLm := List.mem_of_getElem? (i := 35) rfl
theorem nw_36 : Cond.fieldLinkNest RX7 333 "OrielChart$Flow" "fresh" "Z" "OrielChart" ∈ NLm := List.mem_of_getElem? (i := 36) rfl
theorem nw_37 : Cond.methodLinkNest RX7 25 yX4_init "OrielChart" ∈ NLm := List.mem_of_getElem? (i := 37) rfl
theorem nw_38 : Cond.fieldLinkNest RX7 181 "OrielChart$Ranks" "loop" "[J" "OrielChart" ∈ NLm := List.mem_of_getElem? (i := 38) rfl
theorem nw_39 : Cond.fieldLinkNest RX7 178 "OrielChart$Ranks" "loopCount" "I" "OrielChart" ∈ NLm := List.mem_of_getElem? (i := 39) rfl
theorem nw_40 : Cond.fieldLinkNest RX7 197 "OrielChart$Ranks" "tame" "Z" "OrielChart" ∈ NLm := List.mem_of_getElem? (i := 40) rfl
theorem nw_41 : Cond.fieldLinkNest RX7 334 "OrielChart$Ranks" "fresh" "Z" "OrielChart" ∈ NLm := List.mem_of_getElem? (i := 41) rfl
theorem nw_42 : Cond.methodLinkNest RX7 32 yX2_init "OrielChart" ∈ NLm := List.mem_of_getElem? (i := 42) rfl
theorem nw_43 : Cond.fieldLinkNest RX7 204 "OrielChart$Lives" "live" "[I" "OrielChart" ∈ NLm := List.mem_of_getElem? (i := 43) rfl
theorem nw_44 : Cond.fieldLinkNest RX7 207 "OrielChart$Lives" "vainCount" "I" "OrielChart" ∈ NLm := List.mem_of_getElem? (i := 44) rfl
theorem nw_45 : Cond.fieldLinkNest RX7 119 "OrielChart$Lives" "fresh" "Z" "OrielChart" ∈ NLm := List.mem_of_getElem? (i := 45) rfl
theorem nw_46 : Cond.methodLinkNest RX7 39 yX5_init "OrielChart" ∈ NLm := List.mem_of_getElem? (i := 46) rfl
theorem nw_47 : Cond.fieldLinkNest RX7 233 "OrielChart$Reduction" "home" "[I" "OrielChart" ∈ NLm := List.mem_of_getElem? (i := 47) rfl
theorem nw_48 : Cond.fieldLinkNest RX7 224 "OrielChart$Reduction" "rule" "[I" "OrielChart" ∈ NLm := List.mem_of_getElem? (i := 48) rfl
theorem nw_49 : Cond.fieldLinkNest RX7 227 "OrielChart$Reduction" "node" "[I" "OrielChart" ∈ NLm := List.mem_of_getElem? (i := 49) rfl
theorem nw_50 : Cond.fieldLinkNest RX7 230 "OrielChart$Reduction" "nodes" "J" "OrielChart" ∈ NLm := List.mem_of_getElem? (i := 50) rfl
theorem nw_51 : Cond.fieldLinkNest RX7 218 "OrielChart$Reduction" "stepCount" "I" "OrielChart" ∈ NLm := List.mem_of_getElem? (i := 51) rfl
theorem nw_52 : Cond.fieldLinkNest RX7 335 "OrielChart$Reduction" "fresh" "Z" "OrielChart" ∈ NLm := List.mem_of_getElem? (i := 52) rfl
theorem nw_53 : Cond.methodLinkNest RX7 46 yX3_init "OrielChart" ∈ NLm := List.mem_of_getElem? (i := 53) rfl
theorem nw_54 : Cond.methodLinkNest RX3 11 yX6_init "OrielChart" ∈ NLm := List.mem_of_getElem? (i := 54) rfl
theorem nw_55 : Cond.fieldLinkNest RX3 124 "OrielChart$Walk" "came" "[I" "OrielChart" ∈ NLm := List.mem_of_getElem? (i := 55) rfl
theorem nw_56 : Cond.fieldLinkNest RX3 115 "OrielChart$Walk" "upper" "[I" "OrielChart" ∈ NLm := List.mem_of_getElem? (i := 56) rfl
theorem nw_57 : Cond.fieldLinkNest RX3 108 "OrielChart$Walk" "lower" "[I" "OrielChart" ∈ NLm := List.mem_of_getElem? (i := 57) rfl
theorem nw_58 : Cond.fieldLinkNest RX3 121 "OrielChart$Walk" "cameCount" "I" "OrielChart" ∈ NLm := List.mem_of_getElem? (i := 58) rfl
theorem nw_59 : Cond.fieldLinkNest RX3 83 "OrielChart$Walk" "seen" "J" "OrielChart" ∈ NLm := List.mem_of_getElem? (i := 59) rfl
theorem nw_60 : Cond.fieldLinkNest RX7 244 "OrielChart$Picture" "walk" "LOrielChart$Walk;" "OrielChart" ∈ NLm := List.mem_of_getElem? (i := 60) rfl
theorem nw_61 : Cond.fieldLinkNest RX7 241 "OrielChart$Picture" "layer" "[I" "OrielChart" ∈ NLm := List.mem_of_getElem? (i := 61) rfl
theorem nw_62 : Cond.fieldLinkNest RX7 238 "OrielChart$Picture" "layerCount" "I" "OrielChart" ∈ NLm := List.mem_of_getElem? (i := 62) rfl
theorem nw_63 : Cond.fieldLinkNest RX7 289 "OrielChart$Picture" "sweeps" "I" "OrielChart" ∈ NLm := List.mem_of_getElem? (i := 63) rfl
theorem nw_64 : Cond.fieldLinkNest RX7 336 "OrielChart$Picture" "fresh" "Z" "OrielChart" ∈ NLm := List.mem_of_getElem? (i := 64) rfl
theorem nw_65 : Cond.methodLinkNest RX1 80 yX7_at "OrielChart" ∈ NLm := List.mem_of_getElem? (i := 65) rfl
theorem nw_66 : Cond.methodLinkNest RX1 65 yX7_bit "OrielChart" ∈ NLm := List.mem_of_getElem? (i := 66) rfl
theorem nw_67 : Cond.methodLinkNest RX1 84 yX7_jumps "OrielChart" ∈ NLm := List.mem_of_getElem? (i := 67) rfl
theorem nw_68 : Cond.methodLinkNest RX1 91 yX7_has "OrielChart" ∈ NLm := List.mem_of_getElem? (i := 68) rfl
theorem nw_69 : Cond.methodLinkNest RX1 54 yX7_put "OrielChart" ∈ NLm := List.mem_of_getElem? (i := 69) rfl
theorem nw_70 : Cond.methodLinkNest RX1 58 yX7_put_ "OrielChart" ∈ NLm := List.mem_of_getElem? (i := 70) rfl
theorem nw_71 : Cond.methodLinkNest RX1 99 yX7_at_ "OrielChart" ∈ NLm := List.mem_of_getElem? (i := 71) rfl
theorem nw_72 : Cond.methodLinkNest RX1 69 yX7_spread "OrielChart" ∈ NLm := List.mem_of_getElem? (i := 72) rfl
theorem nw_73 : Cond.methodLinkNest RX4 30 yX7_has "OrielChart" ∈ NLm := List.mem_of_getElem? (i := 73) rfl
theorem nw_74 : Cond.methodLinkNest RX4 72 yX7_bit "OrielChart" ∈ NLm := List.mem_of_getElem? (i := 74) rfl
theorem nw_75 : Cond.methodLinkNest RX4 65 yX7_spread "OrielChart" ∈ NLm := List.mem_of_getElem? (i := 75) rfl
theorem nw_76 : Cond.methodLinkNest RX4 38 yX7_put_ "OrielChart" ∈ NLm := List.mem_of_getElem? (i := 76) rfl
theorem nw_77 : Cond.methodLinkNest RX4 85 yX7_at "OrielChart" ∈ NLm := List.mem_of_getElem? (i := 77) rfl
theorem nw_78 : Cond.methodLinkNest RX4 61 yX7_at_ "OrielChart" ∈ NLm := List.mem_of_getElem? (i := 78) rfl
theorem nw_79 : Cond.methodLinkNest RX2 15 yX7_put "OrielChart" ∈ NLm := List.mem_of_getElem? (i := 79) rfl
theorem nw_80 : Cond.methodLinkNest RX2 36 yX7_has "OrielChart" ∈ NLm := List.mem_of_getElem? (i := 80) rfl
theorem nw_81 : Cond.methodLinkNest RX2 71 yX7_at_ "OrielChart" ∈ NLm := List.mem_of_getElem? (i := 81) rfl
theorem nw_82 : Cond.methodLinkNest RX2 51 yX7_at "OrielChart" ∈ NLm := List.mem_of_getElem? (i := 82) rfl
theorem nw_83 : Cond.methodLinkNest RX5 41 yX7_has "OrielChart" ∈ NLm := List.mem_of_getElem? (i := 83) rfl
theorem nw_84 : Cond.methodLinkNest RX5 46 yX7_at_ "OrielChart" ∈ NLm := List.mem_of_getElem? (i := 84) rfl
theorem nw_85 : Cond.methodLinkNest RX5 50 yX7_put_ "OrielChart" ∈ NLm := List.mem_of_getElem? (i := 85) rfl
theorem nw_86 : Cond.methodLinkNest RX5 54 yX7_put "OrielChart" ∈ NLm := List.mem_of_getElem? (i := 86) rfl
theorem nw_87 : Cond.methodLinkNest RX5 72 yX7_bit "OrielChart" ∈ NLm := List.mem_of_getElem? (i := 87) rfl
theorem nw_88 : Cond.methodLinkNest RX5 84 yX7_lowest "OrielChart" ∈ NLm := List.mem_of_getElem? (i := 88) rfl
theorem nw_89 : Cond.methodLinkNest RX5 87 yX7_at "OrielChart" ∈ NLm := List.mem_of_getElem? (i := 89) rfl
theorem nw_90 : Cond.methodLinkNest RX6 41 yX7_put "OrielChart" ∈ NLm := List.mem_of_getElem? (i := 90) rfl
theorem nw_91 : Cond.methodLinkNest RX6 54 yX7_at "OrielChart" ∈ NLm := List.mem_of_getElem? (i := 91) rfl
theorem nw_92 : Cond.methodLinkNest RX6 64 yX7_bit "OrielChart" ∈ NLm := List.mem_of_getElem? (i := 92) rfl
theorem nw_93 : Cond.methodLinkNest RX6 73 yX7_has "OrielChart" ∈ NLm := List.mem_of_getElem? (i := 93) rfl
theorem nw_94 : Cond.methodLinkNest RX3 87 yX7_has "OrielChart" ∈ NLm := List.mem_of_getElem? (i := 94) rfl
theorem nw_95 : Cond.methodLinkNest RX3 75 yX7_put "OrielChart" ∈ NLm := List.mem_of_getElem? (i := 95) rfl
theorem nw_96 : Cond.methodLinkNest RX3 95 yX7_at "OrielChart" ∈ NLm := List.mem_of_getElem? (i := 96) rfl
theorem nw_97 : Cond.methodLinkNest RX0 39 yX7_at "OrielChart" ∈ NLm := List.mem_of_getElem? (i := 97) rfl
theorem nw_98 : Cond.methodLinkNest RX0 35 yX7_put "OrielChart" ∈ NLm := List.mem_of_getElem? (i := 98) rfl
theorem nw_99 : Cond.castable "java/lang/IllegalArgumentException" "java/lang/IllegalArgumentException" ∈ NLm := List.mem_of_getElem? (i := 99) rfl
theorem nw_100 : Cond.declares ⟨"java/lang/RuntimeException", "<init>", "()V"⟩ ∈ NLm := List.mem_of_getElem? (i := 100) rfl
theorem nw_101 : Cond.declares ⟨"java/lang/RuntimeException", "<init>", "(Ljava/lang/String;)V"⟩ ∈ NLm := List.mem_of_getElem? (i := 101) rfl
theorem nw_102 : Cond.declares ⟨"java/lang/Exception", "<init>", "()V"⟩ ∈ NLm := List.mem_of_getElem? (i := 102) rfl
theorem nw_103 : Cond.declares ⟨"java/lang/Exception", "<init>", "(Ljava/lang/String;)V"⟩ ∈ NLm := List.mem_of_getElem? (i := 103) rfl
theorem nw_104 : Cond.declares ⟨"java/lang/Throwable", "<init>", "()V"⟩ ∈ NLm := List.mem_of_getElem? (i := 104) rfl
theorem nw_105 : Cond.declares ⟨"java/lang/Throwable", "<init>", "(Ljava/lang/String;)V"⟩ ∈ NLm := List.mem_of_getElem? (i := 105) rfl
theorem nw_106 : Cond.castable "java/lang/IllegalStateException" "java/lang/IllegalStateException" ∈ NLm := List.mem_of_getElem? (i := 106) rfl
theorem nw_107 : Cond.castable "java/lang/IndexOutOfBoundsException" "java/lang/IndexOutOfBoundsException" ∈ NLm := List.mem_of_getElem? (i := 107) rfl
theorem nt_0 : Cond.methodLinkNest RX7 9 yX0_init "OrielChart" ∈ lw_tbl := inT1 _ (List.mem_of_getElem? (i := 27) rfl)
theorem nt_1 : Cond.fieldLinkNest RX1 77 "OrielChart$Code" "kind" "[I" "OrielChart" ∈ lw_tbl := inT1 _ (List.mem_of_getElem? (i := 32) rfl)
theorem nt_2 : Cond.fieldLinkNest RX7 92 "OrielChart$Code" "kind" "[I" "OrielChart" ∈ lw_tbl := inT1 _ (List.mem_of_getElem? (i := 33) rfl)
theorem nt_3 : Cond.fieldLinkNest RX1 88 "OrielChart$Code" "target" "[I" "OrielChart" ∈ lw_tbl := inT1 _ (List.mem_of_getElem? (i := 35) rfl)
theorem nt_4 : Cond.fieldLinkNest RX7 102 "OrielChart$Code" "target" "[I" "OrielChart" ∈ lw_tbl := inT1 _ (List.mem_of_getElem? (i := 36) rfl)
theorem nt_5 : Cond.fieldLinkNest RX2 62 "OrielChart$Code" "sets" "[I" "OrielChart" ∈ lw_tbl := inT1 _ (List.mem_of_getElem? (i := 38) rfl)
theorem nt_6 : Cond.fieldLinkNest RX7 116 "OrielChart$Code" "sets" "[I" "OrielChart" ∈ lw_tbl := inT1 _ (List.mem_of_getElem? (i := 39) rfl)
theorem nt_7 : Cond.fieldLinkNest RX7 113 "OrielChart$Code" "uses" "[I" "OrielChart" ∈ lw_tbl := inT1 _ (List.mem_of_getElem? (i := 41) rfl)
theorem nt_8 : Cond.fieldLinkNest RX2 74 "OrielChart$Code" "uses" "[I" "OrielChart" ∈ lw_tbl := inT1 _ (List.mem_of_getElem? (i := 42) rfl)
theorem nt_9 : Cond.fieldLinkNest RX1 34 "OrielChart$Code" "count" "I" "OrielChart" ∈ lw_tbl := inT1 _ (List.mem_of_getElem? (i := 43) rfl)
theorem nt_10 : Cond.fieldLinkNest RX7 51 "OrielChart$Code" "count" "I" "OrielChart" ∈ lw_tbl := inT1 _ (List.mem_of_getElem? (i := 45) rfl)
theorem nt_11 : Cond.methodLinkNest RX7 18 yX1_init "OrielChart" ∈ lw_tbl := inT1 _ (List.mem_of_getElem? (i := 60) rfl)
theorem nt_12 : Cond.fieldLinkNest RX7 130 "OrielChart$Flow" "home" "[I" "OrielChart" ∈ lw_tbl := inT1 _ (List.mem_of_getElem? (i := 65) rfl)
theorem nt_13 : Cond.fieldLinkNest RX2 55 "OrielChart$Flow" "first" "[I" "OrielChart" ∈ lw_tbl := inT1 _ (List.mem_of_getElem? (i := 67) rfl)
theorem nt_14 : Cond.fieldLinkNest RX7 136 "OrielChart$Flow" "first" "[I" "OrielChart" ∈ lw_tbl := inT1 _ (List.mem_of_getElem? (i := 68) rfl)
theorem nt_15 : Cond.fieldLinkNest RX2 48 "OrielChart$Flow" "last" "[I" "OrielChart" ∈ lw_tbl := inT1 _ (List.mem_of_getElem? (i := 70) rfl)
theorem nt_16 : Cond.fieldLinkNest RX4 81 "OrielChart$Flow" "from" "[I" "OrielChart" ∈ lw_tbl := inT1 _ (List.mem_of_getElem? (i := 72) rfl)
theorem nt_17 : Cond.fieldLinkNest RX7 153 "OrielChart$Flow" "from" "[I" "OrielChart" ∈ lw_tbl := inT1 _ (List.mem_of_getElem? (i := 73) rfl)
theorem nt_18 : Cond.fieldLinkNest RX4 88 "OrielChart$Flow" "to" "[I" "OrielChart" ∈ lw_tbl := inT1 _ (List.mem_of_getElem? (i := 75) rfl)
theorem nt_19 : Cond.fieldLinkNest RX6 70 "OrielChart$Flow" "to" "[I" "OrielChart" ∈ lw_tbl := inT1 _ (List.mem_of_getElem? (i := 76) rfl)
theorem nt_20 : Cond.fieldLinkNest RX7 156 "OrielChart$Flow" "to" "[I" "OrielChart" ∈ lw_tbl := inT1 _ (List.mem_of_getElem? (i := 77) rfl)
theorem nt_21 : Cond.fieldLinkNest RX6 61 "OrielChart$Flow" "firstEdge" "[I" "OrielChart" ∈ lw_tbl := inT1 _ (List.mem_of_getElem? (i := 79) rfl)
theorem nt_22 : Cond.fieldLinkNest RX5 45 "OrielChart$Flow" "next" "[J" "OrielChart" ∈ lw_tbl := inT1 _ (List.mem_of_getElem? (i := 81) rfl)
theorem nt_23 : Cond.fieldLinkNest RX4 69 "OrielChart$Flow" "next" "[J" "OrielChart" ∈ lw_tbl := inT1 _ (List.mem_of_getElem? (i := 82) rfl)
theorem nt_24 : Cond.fieldLinkNest RX2 67 "OrielChart$Flow" "next" "[J" "OrielChart" ∈ lw_tbl := inT1 _ (List.mem_of_getElem? (i := 83) rfl)
theorem nt_25 : Cond.fieldLinkNest RX6 45 "OrielChart$Flow" "blockCount" "I" "OrielChart" ∈ lw_tbl := inT1 _ (List.mem_of_getElem? (i := 85) rfl)
theorem nt_26 : Cond.fieldLinkNest RX2 27 "OrielChart$Flow" "blockCount" "I" "OrielChart" ∈ lw_tbl := inT1 _ (List.mem_of_getElem? (i := 86) rfl)
theorem nt_27 : Cond.fieldLinkNest RX4 54 "OrielChart$Flow" "blockCount" "I" "OrielChart" ∈ lw_tbl := inT1 _ (List.mem_of_getElem? (i := 87) rfl)
theorem nt_28 : Cond.fieldLinkNest RX7 127 "OrielChart$Flow" "blockCount" "I" "OrielChart" ∈ lw_tbl := inT1 _ (List.mem_of_getElem? (i := 88) rfl)
theorem nt_29 : Cond.fieldLinkNest RX3 52 "OrielChart$Flow" "edgeCount" "I" "OrielChart" ∈ lw_tbl := inT1 _ (List.mem_of_getElem? (i := 89) rfl)
theorem nt_30 : Cond.fieldLinkNest RX4 78 "OrielChart$Flow" "edgeCount" "I" "OrielChart" ∈ lw_tbl := inT1 _ (List.mem_of_getElem? (i := 91) rfl)
theorem nt_31 : Cond.fieldLinkNest RX7 147 "OrielChart$Flow" "edgeCount" "I" "OrielChart" ∈ lw_tbl := inT1 _ (List.mem_of_getElem? (i := 92) rfl)
theorem nt_32 : Cond.fieldLinkNest RX5 28 "OrielChart$Flow" "reached" "J" "OrielChart" ∈ lw_tbl := inT1 _ (List.mem_of_getElem? (i := 93) rfl)
theorem nt_33 : Cond.fieldLinkNest RX4 24 "OrielChart$Flow" "reached" "J" "OrielChart" ∈ lw_tbl := inT1 _ (List.mem_of_getElem? (i := 94) rfl)
theorem nt_34 : Cond.fieldLinkNest RX2 32 "OrielChart$Flow" "reached" "J" "OrielChart" ∈ lw_tbl := inT1 _ (List.mem_of_getElem? (i := 95) rfl)
theorem nt_35 : Cond.fieldLinkNest RX7 139 "OrielChart$Flow" "reached" "J" "OrielChart" ∈ lw_tbl := inT1 _ (List.mem_of_getElem? (i := 97) rfl)
theorem nt_36 : Cond.fieldLinkNest RX7 333 "OrielChart$Flow" "fresh" "Z" "OrielChart" ∈ lw_tbl := inT1 _ (List.mem_of_getElem? (i := 98) rfl)
theorem nt_37 : Cond.methodLinkNest RX7 25 yX4_init "OrielChart" ∈ lw_tbl := inT1 _ (List.mem_of_getElem? (i := 125) rfl)
theorem nt_38 : Cond.fieldLinkNest RX7 181 "OrielChart$Ranks" "loop" "[J" "OrielChart" ∈ lw_tbl := inT1 _ (List.mem_of_getElem? (i := 131) rfl)
theorem nt_39 : Cond.fieldLinkNest RX7 178 "OrielChart$Ranks" "loopCount" "I" "OrielChart" ∈ lw_tbl := inT1 _ (List.mem_of_getElem? (i := 135) rfl)
theorem nt_40 : Cond.fieldLinkNest RX7 197 "OrielChart$Ranks" "tame" "Z" "OrielChart" ∈ lw_tbl := inT1 _ (List.mem_of_getElem? (i := 137) rfl)
theorem nt_41 : Cond.fieldLinkNest RX7 334 "OrielChart$Ranks" "fresh" "Z" "OrielChart" ∈ lw_tbl := inT1 _ (List.mem_of_getElem? (i := 138) rfl)
theorem nt_42 : Cond.methodLinkNest RX7 32 yX2_init "OrielChart" ∈ lw_tbl := inT1 _ (List.mem_of_getElem? (i := 156) rfl)
theorem nt_43 : Cond.fieldLinkNest RX7 204 "OrielChart$Lives" "live" "[I" "OrielChart" ∈ lw_tbl := inT1 _ (List.mem_of_getElem? (i := 161) rfl)
theorem nt_44 : Cond.fieldLinkNest RX7 207 "OrielChart$Lives" "vainCount" "I" "OrielChart" ∈ lw_tbl := inT1 _ (List.mem_of_getElem? (i := 163) rfl)
theorem nt_45 : Cond.fieldLinkNest RX7 119 "OrielChart$Lives" "fresh" "Z" "OrielChart" ∈ lw_tbl := inT1 _ (List.mem_of_getElem? (i := 164) rfl)
theorem nt_46 : Cond.methodLinkNest RX7 39 yX5_init "OrielChart" ∈ lw_tbl := inT1 _ (List.mem_of_getElem? (i := 174) rfl)
theorem nt_47 : Cond.fieldLinkNest RX7 233 "OrielChart$Reduction" "home" "[I" "OrielChart" ∈ lw_tbl := inT1 _ (List.mem_of_getElem? (i := 180) rfl)
theorem nt_48 : Cond.fieldLinkNest RX7 224 "OrielChart$Reduction" "rule" "[I" "OrielChart" ∈ lw_tbl := inT1 _ (List.mem_of_getElem? (i := 182) rfl)
theorem nt_49 : Cond.fieldLinkNest RX7 227 "OrielChart$Reduction" "node" "[I" "OrielChart" ∈ lw_tbl := inT1 _ (List.mem_of_getElem? (i := 184) rfl)
theorem nt_50 : Cond.fieldLinkNest RX7 230 "OrielChart$Reduction" "nodes" "J" "OrielChart" ∈ lw_tbl := inT1 _ (List.mem_of_getElem? (i := 187) rfl)
theorem nt_51 : Cond.fieldLinkNest RX7 218 "OrielChart$Reduction" "stepCount" "I" "OrielChart" ∈ lw_tbl := inT1 _ (List.mem_of_getElem? (i := 189) rfl)
theorem nt_52 : Cond.fieldLinkNest RX7 335 "OrielChart$Reduction" "fresh" "Z" "OrielChart" ∈ lw_tbl := inT1 _ (List.mem_of_getElem? (i := 190) rfl)
theorem nt_53 : Cond.methodLinkNest RX7 46 yX3_init "OrielChart" ∈ lw_tbl := inT1 _ (List.mem_of_getElem? (i := 210) rfl)
theorem nt_54 : Cond.methodLinkNest RX3 11 yX6_init "OrielChart" ∈ lw_tbl := inT1 _ (List.mem_of_getElem? (i := 216) rfl)
theorem nt_55 : Cond.fieldLinkNest RX3 124 "OrielChart$Walk" "came" "[I" "OrielChart" ∈ lw_tbl := inT1 _ (List.mem_of_getElem? (i := 221) rfl)
theorem nt_56 : Cond.fieldLinkNest RX3 115 "OrielChart$Walk" "upper" "[I" "OrielChart" ∈ lw_tbl := inT1 _ (List.mem_of_getElem? (i := 223) rfl)
theorem nt_57 : Cond.fieldLinkNest RX3 108 "OrielChart$Walk" "lower" "[I" "OrielChart" ∈ lw_tbl := inT1 _ (List.mem_of_getElem? (i := 225) rfl)
theorem nt_58 : Cond.fieldLinkNest RX3 121 "OrielChart$Walk" "cameCount" "I" "OrielChart" ∈ lw_tbl := inT1 _ (List.mem_of_getElem? (i := 229) rfl)
theorem nt_59 : Cond.fieldLinkNest RX3 83 "OrielChart$Walk" "seen" "J" "OrielChart" ∈ lw_tbl := inT1 _ (List.mem_of_getElem? (i := 232) rfl)
theorem nt_60 : Cond.fieldLinkNest RX7 244 "OrielChart$Picture" "walk" "LOrielChart$Walk;" "OrielChart" ∈ lw_tbl := inT2 _ (List.mem_of_getElem? (i := 14) rfl)
theorem nt_61 : Cond.fieldLinkNest RX7 241 "OrielChart$Picture" "layer" "[I" "OrielChart" ∈ lw_tbl := inT2 _ (List.mem_of_getElem? (i := 16) rfl)
theorem nt_62 : Cond.fieldLinkNest RX7 238 "OrielChart$Picture" "layerCount" "I" "OrielChart" ∈ lw_tbl := inT2 _ (List.mem_of_getElem? (i := 29) rfl)
theorem nt_63 : Cond.fieldLinkNest RX7 289 "OrielChart$Picture" "sweeps" "I" "OrielChart" ∈ lw_tbl := inT2 _ (List.mem_of_getElem? (i := 31) rfl)
theorem nt_64 : Cond.fieldLinkNest RX7 336 "OrielChart$Picture" "fresh" "Z" "OrielChart" ∈ lw_tbl := inT2 _ (List.mem_of_getElem? (i := 32) rfl)
theorem nt_65 : Cond.methodLinkNest RX1 80 yX7_at "OrielChart" ∈ lw_tbl := inT2 _ (List.mem_of_getElem? (i := 104) rfl)
theorem nt_66 : Cond.methodLinkNest RX1 65 yX7_bit "OrielChart" ∈ lw_tbl := inT2 _ (List.mem_of_getElem? (i := 107) rfl)
theorem nt_67 : Cond.methodLinkNest RX1 84 yX7_jumps "OrielChart" ∈ lw_tbl := inT2 _ (List.mem_of_getElem? (i := 110) rfl)
theorem nt_68 : Cond.methodLinkNest RX1 91 yX7_has "OrielChart" ∈ lw_tbl := inT2 _ (List.mem_of_getElem? (i := 117) rfl)
theorem nt_69 : Cond.methodLinkNest RX1 54 yX7_put "OrielChart" ∈ lw_tbl := inT2 _ (List.mem_of_getElem? (i := 120) rfl)
theorem nt_70 : Cond.methodLinkNest RX1 58 yX7_put_ "OrielChart" ∈ lw_tbl := inT2 _ (List.mem_of_getElem? (i := 123) rfl)
theorem nt_71 : Cond.methodLinkNest RX1 99 yX7_at_ "OrielChart" ∈ lw_tbl := inT2 _ (List.mem_of_getElem? (i := 134) rfl)
theorem nt_72 : Cond.methodLinkNest RX1 69 yX7_spread "OrielChart" ∈ lw_tbl := inT2 _ (List.mem_of_getElem? (i := 137) rfl)
theorem nt_73 : Cond.methodLinkNest RX4 30 yX7_has "OrielChart" ∈ lw_tbl := inT2 _ (List.mem_of_getElem? (i := 156) rfl)
theorem nt_74 : Cond.methodLinkNest RX4 72 yX7_bit "OrielChart" ∈ lw_tbl := inT2 _ (List.mem_of_getElem? (i := 160) rfl)
theorem nt_75 : Cond.methodLinkNest RX4 65 yX7_spread "OrielChart" ∈ lw_tbl := inT2 _ (List.mem_of_getElem? (i := 161) rfl)
theorem nt_76 : Cond.methodLinkNest RX4 38 yX7_put_ "OrielChart" ∈ lw_tbl := inT2 _ (List.mem_of_getElem? (i := 163) rfl)
theorem nt_77 : Cond.methodLinkNest RX4 85 yX7_at "OrielChart" ∈ lw_tbl := inT2 _ (List.mem_of_getElem? (i := 168) rfl)
theorem nt_78 : Cond.methodLinkNest RX4 61 yX7_at_ "OrielChart" ∈ lw_tbl := inT2 _ (List.mem_of_getElem? (i := 169) rfl)
theorem nt_79 : Cond.methodLinkNest RX2 15 yX7_put "OrielChart" ∈ lw_tbl := inT2 _ (List.mem_of_getElem? (i := 186) rfl)
theorem nt_80 : Cond.methodLinkNest RX2 36 yX7_has "OrielChart" ∈ lw_tbl := inT2 _ (List.mem_of_getElem? (i := 191) rfl)
theorem nt_81 : Cond.methodLinkNest RX2 71 yX7_at_ "OrielChart" ∈ lw_tbl := inT2 _ (List.mem_of_getElem? (i := 196) rfl)
theorem nt_82 : Cond.methodLinkNest RX2 51 yX7_at "OrielChart" ∈ lw_tbl := inT2 _ (List.mem_of_getElem? (i := 197) rfl)
theorem nt_83 : Cond.methodLinkNest RX5 41 yX7_has "OrielChart" ∈ lw_tbl := inT2 _ (List.mem_of_getElem? (i := 213) rfl)
theorem nt_84 : Cond.methodLinkNest RX5 46 yX7_at_ "OrielChart" ∈ lw_tbl := inT2 _ (List.mem_of_getElem? (i := 214) rfl)
theorem nt_85 : Cond.methodLinkNest RX5 50 yX7_put_ "OrielChart" ∈ lw_tbl := inT2 _ (List.mem_of_getElem? (i := 215) rfl)
theorem nt_86 : Cond.methodLinkNest RX5 54 yX7_put "OrielChart" ∈ lw_tbl := inT2 _ (List.mem_of_getElem? (i := 216) rfl)
theorem nt_87 : Cond.methodLinkNest RX5 72 yX7_bit "OrielChart" ∈ lw_tbl := inT2 _ (List.mem_of_getElem? (i := 225) rfl)
theorem nt_88 : Cond.methodLinkNest RX5 84 yX7_lowest "OrielChart" ∈ lw_tbl := inT2 _ (List.mem_of_getElem? (i := 232) rfl)
theorem nt_89 : Cond.methodLinkNest RX5 87 yX7_at "OrielChart" ∈ lw_tbl := inT2 _ (List.mem_of_getElem? (i := 233) rfl)
theorem nt_90 : Cond.methodLinkNest RX6 41 yX7_put "OrielChart" ∈ lw_tbl := inT3 _ (List.mem_of_getElem? (i := 22) rfl)
theorem nt_91 : Cond.methodLinkNest RX6 54 yX7_at "OrielChart" ∈ lw_tbl := inT3 _ (List.mem_of_getElem? (i := 27) rfl)
theorem nt_92 : Cond.methodLinkNest RX6 64 yX7_bit "OrielChart" ∈ lw_tbl := inT3 _ (List.mem_of_getElem? (i := 28) rfl)
theorem nt_93 : Cond.methodLinkNest RX6 73 yX7_has "OrielChart" ∈ lw_tbl := inT3 _ (List.mem_of_getElem? (i := 34) rfl)
theorem nt_94 : Cond.methodLinkNest RX3 87 yX7_has "OrielChart" ∈ lw_tbl := inT3 _ (List.mem_of_getElem? (i := 39) rfl)
theorem nt_95 : Cond.methodLinkNest RX3 75 yX7_put "OrielChart" ∈ lw_tbl := inT3 _ (List.mem_of_getElem? (i := 40) rfl)
theorem nt_96 : Cond.methodLinkNest RX3 95 yX7_at "OrielChart" ∈ lw_tbl := inT3 _ (List.mem_of_getElem? (i := 49) rfl)
theorem nt_97 : Cond.methodLinkNest RX0 39 yX7_at "OrielChart" ∈ lw_tbl := inT4 _ (List.mem_of_getElem? (i := 43) rfl)
theorem nt_98 : Cond.methodLinkNest RX0 35 yX7_put "OrielChart" ∈ lw_tbl := inT4 _ (List.mem_of_getElem? (i := 47) rfl)
theorem nt_99 : Cond.castable "java/lang/IllegalArgumentException" "java/lang/IllegalArgumentException" ∈ lw_tbl := inT3 _ (List.mem_of_getElem? (i := 187) rfl)
theorem nt_100 : Cond.declares ⟨"java/lang/RuntimeException", "<init>", "()V"⟩ ∈ lw_tbl := inT3 _ (List.mem_of_getElem? (i := 188) rfl)
theorem nt_101 : Cond.declares ⟨"java/lang/RuntimeException", "<init>", "(Ljava/lang/String;)V"⟩ ∈ lw_tbl := inT3 _ (List.mem_of_getElem? (i := 189) rfl)
theorem nt_102 : Cond.declares ⟨"java/lang/Exception", "<init>", "()V"⟩ ∈ lw_tbl := inT3 _ (List.mem_of_getElem? (i := 190) rfl)
theorem nt_103 : Cond.declares ⟨"java/lang/Exception", "<init>", "(Ljava/lang/String;)V"⟩ ∈ lw_tbl := inT3 _ (List.mem_of_getElem? (i := 191) rfl)
theorem nt_104 : Cond.declares ⟨"java/lang/Throwable", "<init>", "()V"⟩ ∈ lw_tbl := inT3 _ (List.mem_of_getElem? (i := 192) rfl)
theorem nt_105 : Cond.declares ⟨"java/lang/Throwable", "<init>", "(Ljava/lang/String;)V"⟩ ∈ lw_tbl := inT3 _ (List.mem_of_getElem? (i := 193) rfl)
theorem nt_106 : Cond.castable "java/lang/IllegalStateException" "java/lang/IllegalStateException" ∈ lw_tbl := inT4 _ (List.mem_of_getElem? (i := 21) rfl)
theorem nt_107 : Cond.castable "java/lang/IndexOutOfBoundsException" "java/lang/IndexOutOfBoundsException" ∈ lw_tbl := inT4 _ (List.mem_of_getElem? (i := 66) rfl)
theorem nl_tbl : ∀ w ∈ NLm, w ∈ lw_tbl := List.forall_mem_cons.mpr ⟨nt_0, List.forall_mem_cons.mpr ⟨nt_1, List.forall_mem_cons.mpr ⟨nt_2, List.forall_mem_cons.mpr ⟨nt_3, List.forall_mem_cons.mpr ⟨nt_4, List.forall_mem_cons.mpr ⟨nt_5, List.forall_mem_cons.mpr ⟨nt_6, List.forall_mem_cons.mpr ⟨nt_7, List.forall_mem_cons.mpr ⟨nt_8, List.forall_mem_cons.mpr ⟨nt_9, List.forall_mem_cons.mpr ⟨nt_10, List.forall_mem_cons.mpr ⟨nt_11, List.forall_mem_cons.mpr ⟨nt_12, List.forall_mem_cons.mpr ⟨nt_13, List.forall_mem_cons.mpr ⟨nt_14, List.forall_mem_cons.mpr ⟨nt_15, List.forall_mem_cons.mpr ⟨nt_16, List.forall_mem_cons.mpr ⟨nt_17, List.forall_mem_cons.mpr ⟨nt_18, List.forall_mem_cons.mpr ⟨nt_19, List.forall_mem_cons.mpr ⟨nt_20, List.forall_mem_cons.mpr ⟨nt_21, List.forall_mem_cons.mpr ⟨nt_22, List.forall_mem_cons.mpr ⟨nt_23, List.forall_mem_cons.mpr ⟨nt_24, List.forall_mem_cons.mpr ⟨nt_25, List.forall_mem_cons.mpr ⟨nt_26, List.forall_mem_cons.mpr ⟨nt_27, List.forall_mem_cons.mpr ⟨nt_28, List.forall_mem_cons.mpr ⟨nt_29, List.forall_mem_cons.mpr ⟨nt_30, List.forall_mem_cons.mpr ⟨nt_31, List.forall_mem_cons.mpr ⟨nt_32, List.forall_mem_cons.mpr ⟨nt_33, List.forall_mem_cons.mpr ⟨nt_34, List.forall_mem_cons.mpr ⟨nt_35, List.forall_mem_cons.mpr ⟨nt_36, List.forall_mem_cons.mpr ⟨nt_37, List.forall_mem_cons.mpr ⟨nt_38, List.forall_mem_cons.mpr ⟨nt_39, List.forall_mem_cons.mpr ⟨nt_40, List.forall_mem_cons.mpr ⟨nt_41, List.forall_mem_cons.mpr ⟨nt_42, List.forall_mem_cons.mpr ⟨nt_43, List.forall_mem_cons.mpr ⟨nt_44, List.forall_mem_cons.mpr ⟨nt_45, List.forall_mem_cons.mpr ⟨nt_46, List.forall_mem_cons.mpr ⟨nt_47, List.forall_mem_cons.mpr ⟨nt_48, List.forall_mem_cons.mpr ⟨nt_49, List.forall_mem_cons.mpr ⟨nt_50, List.forall_mem_cons.mpr ⟨nt_51, List.forall_mem_cons.mpr ⟨nt_52, List.forall_mem_cons.mpr ⟨nt_53, List.forall_mem_cons.mpr ⟨nt_54, List.forall_mem_cons.mpr ⟨nt_55, List.forall_mem_cons.mpr ⟨nt_56, List.forall_mem_cons.mpr ⟨nt_57, List.forall_mem_cons.mpr ⟨nt_58, List.forall_mem_cons.mpr ⟨nt_59, List.forall_mem_cons.mpr ⟨nt_60, List.forall_mem_cons.mpr ⟨nt_61, List.forall_mem_cons.mpr ⟨nt_62, List.forall_mem_cons.mpr ⟨nt_63, List.forall_mem_cons.mpr ⟨nt_64, List.forall_mem_cons.mpr ⟨nt_65, List.forall_mem_cons.mpr ⟨nt_66, List.forall_mem_cons.mpr ⟨nt_67, List.forall_mem_cons.mpr ⟨nt_68, List.forall_mem_cons.mpr ⟨nt_69, List.forall_mem_cons.mpr ⟨nt_70, List.forall_mem_cons.mpr ⟨nt_71, List.forall_mem_cons.mpr ⟨nt_72, List.forall_mem_cons.mpr ⟨nt_73, List.forall_mem_cons.mpr ⟨nt_74, List.forall_mem_cons.mpr ⟨nt_75, List.forall_mem_cons.mpr ⟨nt_76, List.forall_mem_cons.mpr ⟨nt_77, List.forall_mem_cons.mpr ⟨nt_78, List.forall_mem_cons.mpr ⟨nt_79, List.forall_mem_cons.mpr ⟨nt_80, List.forall_mem_cons.mpr ⟨nt_81, List.forall_mem_cons.mpr ⟨nt_82, List.forall_mem_cons.mpr ⟨nt_83, List.forall_mem_cons.mpr ⟨nt_84, List.forall_mem_cons.mpr ⟨nt_85, List.forall_mem_cons.mpr ⟨nt_86, List.forall_mem_cons.mpr ⟨nt_87, List.forall_mem_cons.mpr ⟨nt_88, List.forall_mem_cons.mpr ⟨nt_89, List.forall_mem_cons.mpr ⟨nt_90, List.forall_mem_cons.mpr ⟨nt_91, List.forall_mem_cons.mpr ⟨nt_92, List.forall_mem_cons.mpr ⟨nt_93, List.forall_mem_cons.mpr ⟨nt_94, List.forall_mem_cons.mpr ⟨nt_95, List.forall_mem_cons.mpr ⟨nt_96, List.forall_mem_cons.mpr ⟨nt_97, List.forall_mem_cons.mpr ⟨nt_98, List.forall_mem_cons.mpr ⟨nt_99, List.forall_mem_cons.mpr ⟨nt_100, List.forall_mem_cons.mpr ⟨nt_101, List.forall_mem_cons.mpr ⟨nt_102, List.forall_mem_cons.mpr ⟨nt_103, List.forall_mem_cons.mpr ⟨nt_104, List.forall_mem_cons.mpr ⟨nt_105, List.forall_mem_cons.mpr ⟨nt_106, List.forall_mem_cons.mpr ⟨nt_107, fun _ h => absurd h List.not_mem_nil⟩⟩⟩⟩⟩⟩⟩⟩⟩⟩⟩⟩⟩⟩⟩⟩⟩⟩⟩⟩⟩⟩⟩⟩⟩⟩⟩⟩⟩⟩⟩⟩⟩⟩⟩⟩⟩⟩⟩⟩⟩⟩⟩⟩⟩⟩⟩⟩⟩⟩⟩⟩⟩⟩⟩⟩⟩⟩⟩⟩⟩⟩⟩⟩⟩⟩⟩⟩⟩⟩⟩⟩⟩⟩⟩⟩⟩⟩⟩⟩⟩⟩⟩⟩⟩⟩⟩⟩⟩⟩⟩⟩⟩⟩⟩⟩⟩⟩⟩⟩⟩⟩⟩⟩⟩⟩⟩⟩
/-! ===== contracts in one form: the whole world goes in and comes back; one list of words for all methods ===== -/
def isNest : Cond → Bool
  | .fieldLinkNest _ _ _ _ _ _ => true
  | .methodLinkNest _ _ _ _ => true
  | .declares _ => true
  | .castable _ _ => true
  | _ => false
theorem nest_warm {w : Cond} {s U : State} (h1 : isNest w = true) (hW : s.WarmedH U.vm) (h : va_Nw w s) : va_Nw w U := by
  cases w <;> first | exact va_Nw.warmF hW h | exact va_Nw.warmM hW h | exact va_Nw.warmD hW h | exact va_Nw.warmC hW h | (simp [isNest] at h1)
theorem nest_same {w : Cond} {s U : State} (h1 : isNest w = true) (hv : s.vm = U.vm) (h : va_Nw w s) : va_Nw w U := by
  cases w <;> first | exact va_Nw.same rfl hv h | (simp [isNest] at h1)
theorem nest_use {w : Cond} {s : State} {args : Array Value} (h1 : isNest w = true) (h : va_Nw w s) : w.before args s = true := by
  cases w <;> first | exact va_Nw.use rfl h | (simp [isNest] at h1)
theorem nest_of {w : Cond} {s : State} {args : Array Value} (h1 : isNest w = true) (h : w.before args s = true) : va_Nw w s := by
  cases w <;> first | exact va_Nw.of rfl h | (simp [isNest] at h1)
theorem nl_all : NLm.all isNest = true := by decide +kernel
def NW (U : State) : Prop := ∀ w ∈ NLm, va_Nw w U
theorem NW.warm {s U : State} (h : NW s) (hW : s.WarmedH U.vm) : NW U := fun w hw => nest_warm (List.all_eq_true.mp nl_all w hw) hW (h w hw)
theorem NW.same {s U : State} (h : NW s) (hv : s.vm = U.vm) : NW U := fun w hw => nest_same (List.all_eq_true.mp nl_all w hw) hv (h w hw)
theorem NW.use {s : State} {args : Array Value} (h : NW s) {w : Cond} (hw : w ∈ NLm) : w.before args s = true := nest_use (List.all_eq_true.mp nl_all w hw) (h w hw)
def GW : List Cond := lw_tbl.filter goodWord
theorem gw_mem {w : Cond} (h : w ∈ lw_tbl) (hg : goodWord w = true) : w ∈ GW := List.mem_filter.mpr ⟨h, hg⟩
theorem gw_tbl {w : Cond} (h : w ∈ GW) : w ∈ lw_tbl := (List.mem_filter.mp h).1
theorem gw_ok {w : Cond} (h : w ∈ GW) : (w.onTables && w.keeps) = true ∨ ∃ ty, w = .arrayClass ty := good_of_word (List.mem_filter.mp h).2
theorem gw_in {ck : Cond} (h : ck ∈ GW) : GoodIn GW (ck :: GW) := fun w hw => by
  rcases List.mem_cons.mp hw with rfl | h9
  · exact ⟨h, gw_ok h⟩
  · exact ⟨h9, gw_ok h9⟩
theorem gw_V {ck : Cond} {own C : String} {idx : Nat} {y : MethodName} (h : ck ∈ GW) (h1 : Cond.methodLink own idx y ∈ GW) (h2 : Cond.instanceMethod y ∈ GW) (h3 : Cond.selects C y y ∈ GW) (h4 : Cond.initialized C ∈ GW) : GoodIn GW (wsV own idx C y (ck :: GW)) := fun w hw => by
  rcases List.mem_append.mp hw with h9 | h9
  · simp only [List.mem_cons, List.not_mem_nil, or_false] at h9
    rcases h9 with rfl | rfl | rfl | rfl
    · exact ⟨h1, gw_ok h1⟩
    · exact ⟨h2, gw_ok h2⟩
    · exact ⟨h3, gw_ok h3⟩
    · exact ⟨h4, gw_ok h4⟩
  · exact gw_in h w h9
theorem gw_S {ck : Cond} {own : String} {idx : Nat} {y : MethodName} (h : ck ∈ GW) (h1 : Cond.methodLink own idx y ∈ GW) (h2 : Cond.static y ∈ GW) (h4 : Cond.initialized y.cls ∈ GW) : GoodIn GW (va_wsS own idx y (ck :: GW)) := fun w hw => by
  rcases List.mem_append.mp hw with h9 | h9
  · simp only [List.mem_cons, List.not_mem_nil, or_false] at h9
    rcases h9 with rfl | rfl | rfl
    · exact ⟨h1, gw_ok h1⟩
    · exact ⟨h2, gw_ok h2⟩
    · exact ⟨h4, gw_ok h4⟩
  · exact gw_in h w h9
def PB (D : va_G) (tys : List (ClassId × FieldType)) (w : va_W) (sz : Nat) : State → Prop := fun U => U.heap.size = sz ∧ va_P D vwCl w U.heap ∧ va_K D vwCl tys U ∧ va_D (fun _ => True) w ∧ NW U
def BW (D : va_G) (tys : List (ClassId × FieldType)) (A : Nat → Prop) : va_W → State → Prop := fun u t => va_P D vwCl u t.heap ∧ va_K D vwCl tys t ∧ va_D A u
def rmf (d mc ms : Nat) : Room := { frames := d, cells := mc, slots := ms, locals := 48 * d }
abbrev CT (l : Launch) (D : va_G) (tys : List (ClassId × FieldType)) (y : MethodName) (ck : Cond) (d mc ms : Nat) (w : va_W) (As : List Value) (Qc : (Nat → Prop) → Array Value → State → Outcome → State → Prop) : Prop :=
  ∀ sz : Nat, Met l y (ck :: GW) (rmf d mc ms) (va_Pc As (PB D tys w sz)) (Qc (va_A w sz)) mc ms (va_A w sz)
abbrev QI (D : va_G) (tys : List (ClassId × FieldType)) (post : Int32 → va_W → Prop) : (Nat → Prop) → Array Value → State → Outcome → State → Prop := fun A => va_Qi post (BW D tys A) A
abbrev QL (D : va_G) (tys : List (ClassId × FieldType)) (post : Int64 → va_W → Prop) : (Nat → Prop) → Array Value → State → Outcome → State → Prop := fun A => va_Ql post (BW D tys A) A
abbrev QD (D : va_G) (tys : List (ClassId × FieldType)) (post : UInt64 → va_W → Prop) : (Nat → Prop) → Array Value → State → Outcome → State → Prop := fun A => va_Qd post (BW D tys A) A
abbrev QV (D : va_G) (tys : List (ClassId × FieldType)) (post : va_W → Prop) : (Nat → Prop) → Array Value → State → Outcome → State → Prop := fun A => va_Qv post (BW D tys A) A
abbrev QR (D : va_G) (tys : List (ClassId × FieldType)) (post : Nat → va_W → Prop) : (Nat → Prop) → Array Value → State → Outcome → State → Prop := fun A => va_Qr (fun _ : va_W => True) (fun u ra t => post ra u ∧ BW D tys A u t) A
theorem blindPB {As : List Value} {D : va_G} {tys : List (ClassId × FieldType)} {w : va_W} {sz : Nat} : FrameBlind (va_Pc As (PB D tys w sz)) := fun a U g mk q => by
  obtain ⟨q0, q1, qP, qK, qD, qN⟩ := q
  exact ⟨q0, q1, qP, va_K.moved (u := U) (U := U.calling g mk a) (Vm.Alike.refl U.vm) qK, qD, qN.same rfl⟩
/-- a method's entry -/
theorem ent {l : Launch} {D : va_G} {tys : List (ClassId × FieldType)} {y : MethodName} {cc : ByteArray} {maxL : Nat} {ret : Option FieldType} {d mc ms : Nat} {w : va_W} {As : List Value} {Qc : (Nat → Prop) → Array Value → State → Outcome → State → Prop} (hy : plainName y.cls = true) (hlen : (lg_sl As).length ≤ maxL)
    (body : ∀ (p : Program) (e : Env) (s : State) (m : MethodId) (below : List Frame) (meth : Method) (c : Code) (ls : Array Slot) (A : Nat → Prop), p.tables.exec = Jvm.exec → c.code = cc → meth.sig.returnType = ret → (∀ w ∈ GW, w.before As.toArray s = true) → s.vm.findClass y.cls = some m.cls → c.maxLocals = maxL → meth.locks = false → meth.name = y.name →
      va_P D vwCl w s.heap → va_K D vwCl tys s → va_D A w → va_S A s.heap s.heap [] → (∀ q, s.heap.size ≤ q → A q) → NW s → lv_has ls maxL (lv_args 0 As) →
      W p l e (rmf d mc ms) s m As.toArray below meth c s.heap [] 0 0 (MQ below (Qc A) As.toArray s mc ms A) (F0 m 0 ls [])) : CT l D tys y (.code y cc maxL ret) d mc ms w As Qc := by
  intro sz
  refine Met.ofW (cc := cc) (maxL := maxL) (ret := ret) hy rfl ?_
  intro p e s m args below meth c s₁ B hml hv
  obtain ⟨rfl, hsz, hP, hK, hD0, hN⟩ := hv
  have hts := atoms_spec (ws := (.code y cc maxL ret) :: GW) B.pre
  subst hsz
  have hD := hD0.self (sz := s.heap.size)
  have hl := lv_entry As (n := maxL) hlen
  rw [lg_entry_eq]
  exact body p e s m below meth c _ (va_A w s.heap.size) B.exec B.bytes B.returns (fun w hw => hts w (List.mem_cons_of_mem _ hw)) (findClass_of_methodNamed B.named) hml B.notSynchronized (name_of_methodNamed B.named B.method).1 hP hK hD va_S.rf (fun q h => Or.inr h) hN hl
section XR
variable {p : Program} {l : Launch} {e : Env} {R : Room} {s : State} {m : MethodId} {args : Array Value} {below : List Frame} {meth : Method} {c : Code} {H : Heap} {locs : List Loc} {cells slots : Nat} {Q : State → Prop}
variable {cc bytes : ByteArray} {pc : Nat} {ls : Array Slot} {st0 rest : List Value} {D : va_G} {tys : List (ClassId × FieldType)} {A : Nat → Prop} {w : va_W}
variable {y : MethodName} {maxL nL mc ms n index d q0 ci N b : Nat} {ret : Option FieldType} {own C : String} {T : u_T} {As fs : List Value} {Qc : (Nat → Prop) → Array Value → State → Outcome → State → Prop} {host : String}
theorem hpre (hK : va_K D vwCl tys s) (hN : NW s) (hP : va_P D vwCl w H) (hD : va_D A w) (av : List Value) : PreS s H (va_Pc av (PB D tys w H.size)) av :=
  ⟨blindPB, fun U hU hW => ⟨rfl, by rw [hU], by rw [hU]; exact hP, va_K.moved hW.alike hK, hD.weaken (fun _ _ _ _ => trivial), hN.warm hW⟩⟩
theorem rV (hx : p.tables.exec = Jvm.exec) (hb : c.code = cc) (hml : c.maxLocals = nL) (hown : s.vm.findClass own = some m.cls) (hg : ∀ w ∈ GW, w.before args s = true) (hN : NW s) (hK : va_K D vwCl tys s) (hP : va_P D vwCl w H) (hD : va_D A w)
    (hM : CT l D tys y (.code y bytes maxL ret) d mc ms w (.ref b :: As) Qc) (m5 : Cond.code y bytes maxL ret ∈ GW) (m1 : Cond.methodLink own index y ∈ GW) (m2 : Cond.instanceMethod y ∈ GW) (m3 : Cond.selects C y y ∈ GW) (m4 : Cond.initialized C ∈ GW)
    (hd : y.cls = C ∧ y.cls ≠ "java/lang/invoke/MethodHandle" ∧ y.cls ≠ "java/lang/invoke/VarHandle" ∧ (parseMethodDescriptor y.desc).map (fun d => d.parameters.length) = some n) (hR : (rmf d mc ms).frames + 1 ≤ R.frames ∧ 8 + (maxL + 11) + (rmf d mc ms).locals ≤ R.locals)
    (hc : vwCl[ci]? = some (C, T, N)) (hq : w[q0]? = some (b, .inr (ci, fs))) (hn : As.length = n) (hl : ls.size = nL) (hst : st0 = As.reverse ++ .ref b :: rest) (hW : (rest.map fun v => v.category).sum ≤ 8) (hdg : decode cc pc = .ok (.invokevirtual index, 3)) (hf : cells + mc ≤ R.cells ∧ slots + ms ≤ R.slots) :
    va_Run p l e R s m args below meth c H locs cells slots mc ms (F0 m pc ls st0) rest (Qc (va_A w H.size) (Value.ref b :: As).toArray) (va_A w H.size) :=
  va_runV (As := As) (rest := rest) (C := C) ⟨hx, hb, hml, hown, hg⟩ (hM H.size) (cwV n hg (gw_V m5 m1 m2 m3 m4) rfl rfl rfl hd hR) ⟨blindPB, va_recv (ci := ci) (q0 := q0) hK hP hc hq, (hpre hK hN hP hD _).2⟩ rfl hn hl hst (lv_room (m := m) (pc := pc) (ls := ls) (rest := st0) hW) hdg hf
theorem rS (hx : p.tables.exec = Jvm.exec) (hb : c.code = cc) (hml : c.maxLocals = nL) (hown : s.vm.findClass own = some m.cls) (hg : ∀ w ∈ GW, w.before args s = true) (hN : NW s) (hK : va_K D vwCl tys s) (hP : va_P D vwCl w H) (hD : va_D A w)
    (hM : CT l D tys y (.code y bytes maxL ret) d mc ms w As Qc) (m5 : Cond.code y bytes maxL ret ∈ GW) (m1 : Cond.methodLink own index y ∈ GW) (m2 : Cond.static y ∈ GW) (m4 : Cond.initialized y.cls ∈ GW)
    (hd : y.cls ≠ "java/lang/invoke/MethodHandle" ∧ y.cls ≠ "java/lang/invoke/VarHandle" ∧ (parseMethodDescriptor y.desc).map (fun d => d.parameters.length) = some n) (hR : (rmf d mc ms).frames + 1 ≤ R.frames ∧ 8 + (maxL + 11) + (rmf d mc ms).locals ≤ R.locals)
    (hn : As.length = n) (hl : ls.size = nL) (hst : st0 = As.reverse ++ rest) (hW : (rest.map fun v => v.category).sum ≤ 8) (hdg : decode cc pc = .ok (.invokestatic index, 3)) (hf : cells + mc ≤ R.cells ∧ slots + ms ≤ R.slots) :
    va_Run p l e R s m args below meth c H locs cells slots mc ms (F0 m pc ls st0) rest (Qc (va_A w H.size) As.toArray) (va_A w H.size) :=
  va_runS (As := As) (rest := rest) ⟨hx, hb, hml, hown, hg⟩ (hM H.size) (va_cwS n hg (gw_S m5 m1 m2 m4) rfl rfl rfl hd hR) (hpre hK hN hP hD _) rfl hn hl hst (lv_room (m := m) (pc := pc) (ls := ls) (rest := st0) hW) hdg hf
theorem rSN (hx : p.tables.exec = Jvm.exec) (hb : c.code = cc) (hml : c.maxLocals = nL) (hown : s.vm.findClass own = some m.cls) (hg : ∀ w ∈ GW, w.before args s = true) (hN : NW s) (hK : va_K D vwCl tys s) (hP : va_P D vwCl w H) (hD : va_D A w)
    (hM : CT l D tys y (.code y bytes maxL ret) d mc ms w As Qc) (m5 : Cond.code y bytes maxL ret ∈ GW) (m1 : Cond.methodLinkNest own index y host ∈ NLm) (m2 : Cond.static y ∈ GW) (m4 : Cond.initialized y.cls ∈ GW)
    (hd : y.cls ≠ "java/lang/invoke/MethodHandle" ∧ y.cls ≠ "java/lang/invoke/VarHandle" ∧ (parseMethodDescriptor y.desc).map (fun d => d.parameters.length) = some n) (hR : (rmf d mc ms).frames + 1 ≤ R.frames ∧ 8 + (maxL + 11) + (rmf d mc ms).locals ≤ R.locals)
    (hn : As.length = n) (hl : ls.size = nL) (hst : st0 = As.reverse ++ rest) (hW : (rest.map fun v => v.category).sum ≤ 8) (hdg : decode cc pc = .ok (.invokestatic index, 3)) (hf : cells + mc ≤ R.cells ∧ slots + ms ≤ R.slots) :
    va_Run p l e R s m args below meth c H locs cells slots mc ms (F0 m pc ls st0) rest (Qc (va_A w H.size) As.toArray) (va_A w H.size) :=
  va_runSN (As := As) (rest := rest) (host := host) ⟨hx, hb, hml, hown, hg⟩ (hM H.size) ⟨va_cnB n hg (gw_in m5) rfl rfl rfl (hN _ m1) (hg _ m4) hd hR, hg _ m2, trivial⟩ (hpre hK hN hP hD _) rfl hn hl hst (lv_room (m := m) (pc := pc) (ls := ls) (rest := st0) hW) hdg hf
theorem rI (hx : p.tables.exec = Jvm.exec) (hb : c.code = cc) (hml : c.maxLocals = nL) (hown : s.vm.findClass own = some m.cls) (hg : ∀ w ∈ GW, w.before args s = true) (hN : NW s) (hK : va_K D vwCl tys s) (hP : va_P D vwCl w H) (hD : va_D A w)
    (hM : CT l D tys y (.code y bytes maxL none) d mc ms w (.ref b :: As) Qc) (m5 : Cond.code y bytes maxL none ∈ GW) (m1 : Cond.methodLink own index y ∈ GW) (m2 : Cond.instanceMethod y ∈ GW) (m4 : Cond.initialized y.cls ∈ GW) (hy : y.name = "<init>")
    (hd : y.cls ≠ "java/lang/invoke/MethodHandle" ∧ y.cls ≠ "java/lang/invoke/VarHandle" ∧ (parseMethodDescriptor y.desc).map (fun d => d.parameters.length) = some n) (hR : (rmf d mc ms).frames + 1 ≤ R.frames ∧ 8 + (maxL + 11) + (rmf d mc ms).locals ≤ R.locals)
    (hn : As.length = n) (hl : ls.size = nL) (hst : st0 = As.reverse ++ .ref b :: rest) (hW : (rest.map fun v => v.category).sum ≤ 8) (hdg : decode cc pc = .ok (.invokespecial index, 3)) (hf : cells + mc ≤ R.cells ∧ slots + ms ≤ R.slots) :
    va_Run p l e R s m args below meth c H locs cells slots mc ms (F0 m pc ls st0) rest (Qc (va_A w H.size) (Value.ref b :: As).toArray) (va_A w H.size) :=
  va_runI (As := As) (rest := rest) ⟨hx, hb, hml, hown, hg⟩ (hM H.size) (cwI n hg (gw_in m5) rfl rfl rfl (hg _ m4) (hg _ m1) (hg _ m2) hy hd hR) (hpre hK hN hP hD _) rfl hn hl hst (lv_room (m := m) (pc := pc) (ls := ls) (rest := st0) hW) hdg hf
theorem rIN (hx : p.tables.exec = Jvm.exec) (hb : c.code = cc) (hml : c.maxLocals = nL) (hown : s.vm.findClass own = some m.cls) (hg : ∀ w ∈ GW, w.before args s = true) (hN : NW s) (hK : va_K D vwCl tys s) (hP : va_P D vwCl w H) (hD : va_D A w)
    (hM : CT l D tys y (.code y bytes maxL none) d mc ms w (.ref b :: As) Qc) (m5 : Cond.code y bytes maxL none ∈ GW) (m1 : Cond.methodLinkNest own index y host ∈ NLm) (m2 : Cond.instanceMethod y ∈ GW) (m4 : Cond.initialized y.cls ∈ GW) (hy : y.name = "<init>")
    (hd : y.cls ≠ "java/lang/invoke/MethodHandle" ∧ y.cls ≠ "java/lang/invoke/VarHandle" ∧ (parseMethodDescriptor y.desc).map (fun d => d.parameters.length) = some n) (hR : (rmf d mc ms).frames + 1 ≤ R.frames ∧ 8 + (maxL + 11) + (rmf d mc ms).locals ≤ R.locals)
    (hn : As.length = n) (hl : ls.size = nL) (hst : st0 = As.reverse ++ .ref b :: rest) (hW : (rest.map fun v => v.category).sum ≤ 8) (hdg : decode cc pc = .ok (.invokespecial index, 3)) (hf : cells + mc ≤ R.cells ∧ slots + ms ≤ R.slots) :
    va_Run p l e R s m args below meth c H locs cells slots mc ms (F0 m pc ls st0) rest (Qc (va_A w H.size) (Value.ref b :: As).toArray) (va_A w H.size) :=
  va_runIN (As := As) (rest := rest) (host := host) ⟨hx, hb, hml, hown, hg⟩ (hM H.size) ⟨va_cnB n hg (gw_in m5) rfl rfl rfl (hN _ m1) (hg _ m4) hd hR, hy, hg _ m2⟩ (hpre hK hN hP hD _) rfl hn hl hst (lv_room (m := m) (pc := pc) (ls := ls) (rest := st0) hW) hdg hf
theorem fr_all {H0 : Heap} (hD : va_D A w) (hS : va_S A H0 H locs) (hA : ∀ q, H0.size ≤ q → A q) : ∀ q, va_A w H.size q → A q := fun q h => by
  rcases h with ⟨k, e, h⟩ | h
  · exact hD.2 k (q, e) h
  · exact hA q (Nat.le_trans hS.1 h)
variable {H0 : Heap} {a9 : Array Value}
theorem kI {post : Int32 → va_W → Prop} (hr : va_Run p l e R s m args below meth c H locs cells slots mc ms (F0 m pc ls st0) rest (QI D tys post (va_A w H.size) a9) (va_A w H.size)) (hD : va_D A w) (hS : va_S A H0 H locs) (hA : ∀ q, H0.size ≤ q → A q)
    (kk : ∀ (r : Int32) (u : va_W) (H1 : Heap) (locs1 : List Loc), post r u → va_P D vwCl u H1 → va_D A u → va_S A H0 H1 locs1 → W p l e R s m args below meth c H1 locs1 (cells + mc) (slots + ms) Q (F0 m (pc + 3) ls (.int r :: rest))) : W p l e R s m args below meth c H locs cells slots Q (F0 m pc ls st0) :=
  va_calli hr hS (fun q _ h => fr_all hD hS hA q h) (fr_all hD hS hA) (fun r u t H1 locs1 ht hvm hw hB hz1 hk1 hS1 => kk r u H1 locs1 hw (by rw [← ht]; exact hB.1) (hB.2.2.weaken (fun k q _ h => fr_all hD hS hA q.1 h)) hS1)
theorem kL {post : Int64 → va_W → Prop} (hr : va_Run p l e R s m args below meth c H locs cells slots mc ms (F0 m pc ls st0) rest (QL D tys post (va_A w H.size) a9) (va_A w H.size)) (hD : va_D A w) (hS : va_S A H0 H locs) (hA : ∀ q, H0.size ≤ q → A q)
    (kk : ∀ (r : Int64) (u : va_W) (H1 : Heap) (locs1 : List Loc), post r u → va_P D vwCl u H1 → va_D A u → va_S A H0 H1 locs1 → W p l e R s m args below meth c H1 locs1 (cells + mc) (slots + ms) Q (F0 m (pc + 3) ls (.long r :: rest))) : W p l e R s m args below meth c H locs cells slots Q (F0 m pc ls st0) :=
  va_calll hr hS (fun q _ h => fr_all hD hS hA q h) (fr_all hD hS hA) (fun r u t H1 locs1 ht hvm hw hB hz1 hk1 hS1 => kk r u H1 locs1 hw (by rw [← ht]; exact hB.1) (hB.2.2.weaken (fun k q _ h => fr_all hD hS hA q.1 h)) hS1)
theorem kD {post : UInt64 → va_W → Prop} (hr : va_Run p l e R s m args below meth c H locs cells slots mc ms (F0 m pc ls st0) rest (QD D tys post (va_A w H.size) a9) (va_A w H.size)) (hD : va_D A w) (hS : va_S A H0 H locs) (hA : ∀ q, H0.size ≤ q → A q)
    (kk : ∀ (r : UInt64) (u : va_W) (H1 : Heap) (locs1 : List Loc), post r u → va_P D vwCl u H1 → va_D A u → va_S A H0 H1 locs1 → W p l e R s m args below meth c H1 locs1 (cells + mc) (slots + ms) Q (F0 m (pc + 3) ls (.double r :: rest))) : W p l e R s m args below meth c H locs cells slots Q (F0 m pc ls st0) :=
  va_calld hr hS (fun q _ h => fr_all hD hS hA q h) (fr_all hD hS hA) (fun r u t H1 locs1 ht hvm hw hB hz1 hk1 hS1 => kk r u H1 locs1 hw (by rw [← ht]; exact hB.1) (hB.2.2.weaken (fun k q _ h => fr_all hD hS hA q.1 h)) hS1)
theorem kV {post : va_W → Prop} (hr : va_Run p l e R s m args below meth c H locs cells slots mc ms (F0 m pc ls st0) rest (QV D tys post (va_A w H.size) a9) (va_A w H.size)) (hD : va_D A w) (hS : va_S A H0 H locs) (hA : ∀ q, H0.size ≤ q → A q)
    (kk : ∀ (u : va_W) (H1 : Heap) (locs1 : List Loc), post u → va_P D vwCl u H1 → va_D A u → va_S A H0 H1 locs1 → W p l e R s m args below meth c H1 locs1 (cells + mc) (slots + ms) Q (F0 m (pc + 3) ls rest)) : W p l e R s m args below meth c H locs cells slots Q (F0 m pc ls st0) :=
  va_callv hr hS (fun q _ h => fr_all hD hS hA q h) (fr_all hD hS hA) (fun u t H1 locs1 ht hvm hw hB hz1 hk1 hS1 => kk u H1 locs1 hw (by rw [← ht]; exact hB.1) (hB.2.2.weaken (fun k q _ h => fr_all hD hS hA q.1 h)) hS1)
theorem kR {post : Nat → va_W → Prop} (hr : va_Run p l e R s m args below meth c H locs cells slots mc ms (F0 m pc ls st0) rest (QR D tys post (va_A w H.size) a9) (va_A w H.size)) (hD : va_D A w) (hS : va_S A H0 H locs) (hA : ∀ q, H0.size ≤ q → A q)
    (kk : ∀ (ra : Nat) (u : va_W) (H1 : Heap) (locs1 : List Loc), post ra u → va_P D vwCl u H1 → va_D A u → va_S A H0 H1 locs1 → W p l e R s m args below meth c H1 locs1 (cells + mc) (slots + ms) Q (F0 m (pc + 3) ls (.ref ra :: rest))) : W p l e R s m args below meth c H locs cells slots Q (F0 m pc ls st0) :=
  va_callr hr hS (fun q _ h => fr_all hD hS hA q h) (fr_all hD hS hA) (fun u ra t H1 locs1 ht hvm _ hB hz1 hk1 hS1 => kk ra u H1 locs1 hB.1 (by rw [← ht]; exact hB.2.1) (hB.2.2.2.weaken (fun k q _ h => fr_all hD hS hA q.1 h)) hS1)
/-- a loop that counts up -/
theorem w_loop {σ : Type} (Inv : Nat → σ → Heap → List Loc → Array Slot → Prop) (N : Nat)
    (hx : ∀ (u : σ) (H : Heap) (locs : List Loc) (ls : Array Slot), Inv N u H locs ls → W p l e R s m args below meth c H locs cells slots Q (F0 m pc ls []))
    (hs : ∀ (i : Nat) (u : σ) (H : Heap) (locs : List Loc) (ls : Array Slot), i < N → Inv i u H locs ls → (∀ (u' : σ) (H' : Heap) (locs' : List Loc) (ls' : Array Slot), Inv (i + 1) u' H' locs' ls' → W p l e R s m args below meth c H' locs' cells slots Q (F0 m pc ls' [])) → W p l e R s m args below meth c H locs cells slots Q (F0 m pc ls []))
    (i : Nat) (u : σ) (hi : i ≤ N) (h : Inv i u H locs ls) : W p l e R s m args below meth c H locs cells slots Q (F0 m pc ls []) := by
  obtain ⟨k, hk⟩ : ∃ k, N = i + k := ⟨N - i, by omega⟩
  induction k generalizing i u H locs ls with
  | zero =>
    have e9 : N = i := by omega
    subst e9
    exact hx u H locs ls h
  | succ k ih =>
    exact hs i u H locs ls (by omega) h (fun u' H' locs' ls' h' => ih (i + 1) u' (by omega) h' (by omega))
end XR
section XN
variable {p : Program} {l : Launch} {e : Env} {R : Room} {s : State} {m : MethodId} {args : Array Value} {below : List Frame} {meth : Method} {c : Code} {H : Heap} {locs : List Loc} {cells slots : Nat} {Q : State → Prop}
variable {cc : ByteArray} {pc : Nat} {ls : Array Slot} {rest : List Value} {D : va_G} {cl : List vw_C} {A : Nat → Prop} {a : Nat} {tys : List (ClassId × FieldType)} {ws : va_W} {H0 : Heap}
/-- a new array of a class that is known -/
theorem my_newa (hexec : p.tables.exec = Jvm.exec) (hb : c.code = cc) {atype : ArrayType} (harr : (Cond.arrayClass (newarray.typeOf atype)).before args s = true) {ty : FieldType} (hty : newarray.typeOf atype = ty) (hK : va_K D cl tys s) (hP : va_P D cl ws H) (hD : va_D A ws) (hS : va_S A H0 H locs) (hA : ∀ q, H0.size ≤ q → A q) (t0 : Nat) {c0 : ClassId} (ht : tys[t0]? = some (c0, ty)) (hRA : ∀ c1, va_RA s c1 ty → s.vm.findClass ("[" ++ ty.toString) = some c1)
    {n : Int32} {N' : Nat} {a0 : vp_A} (ha : ∀ cA : ClassId, vp_cell cA a0 = arrV cA N' (fun _ => defaultValue ty)) (hn : ¬ n < 0) (hN : n.toNatClampNeg = N') (hbytes : N' * componentBytes ty ≤ 536870912) (hcells : cells + 1 ≤ R.cells) (hslots : slots + N' ≤ R.slots) (hdg : decode cc pc = .ok (.newarray atype, 2))
    (kk : ∀ (q : Nat) (H1 : Heap), va_P D cl (ws ++ [(q, .inl (c0, a0))]) H1 → va_D A (ws ++ [(q, .inl (c0, a0))]) → va_S A H0 H1 locs →
      W p l e R s m args below meth c H1 locs (cells + 1) (slots + N') Q (F0 m (pc + 2) ls (.ref q :: rest))) : W p l e R s m args below meth c H locs cells slots Q (F0 m pc ls (.int n :: rest)) := by
  refine va_newa hexec hb harr hty hK hP hD hS hA ha hn hN hbytes hcells hslots hdg (fun q cA H1 hK1 hP1 hD1 hS1 => ?_)
  have h1 := hRA _ (hK1.2 tys.length (cA, ty) (by simp)).2
  have h2 := hRA _ (hK.2 t0 _ ht).2
  have h3 : cA = c0 := Option.some.inj (h1.symm.trans h2)
  subst h3
  exact kk q H1 hP1 hD1 hS1
end XN
