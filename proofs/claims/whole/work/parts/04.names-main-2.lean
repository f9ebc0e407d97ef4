theorem dX6_fadingUse_15 : decode cX6_fadingUse 15 = .ok (.aload_n 0, 1) := by decide +kernel
theorem dX6_fadingUse_16 : decode cX6_fadingUse 16 = .ok (.getfield 34, 3) := by decide +kernel
theorem dX6_fadingUse_19 : decode cX6_fadingUse 19 = .ok (.getfield 125, 3) := by decide +kernel
theorem dX6_fadingUse_22 : decode cX6_fadingUse 22 = .ok (.if_icmp .ge 44, 3) := by decide +kernel
theorem dX6_fadingUse_25 : decode cX6_fadingUse 25 = .ok (.aload_n 0, 1) := by decide +kernel
theorem dX6_fadingUse_26 : decode cX6_fadingUse 26 = .ok (.getfield 34, 3) := by decide +kernel
theorem dX6_fadingUse_29 : decode cX6_fadingUse 29 = .ok (.iload 4, 2) := by decide +kernel
theorem dX6_fadingUse_31 : decode cX6_fadingUse 31 = .ok (.invokevirtual 191, 3) := by decide +kernel
theorem dX6_fadingUse_34 : decode cX6_fadingUse 34 = .ok (.ifCond .eq 26, 3) := by decide +kernel
theorem dX6_fadingUse_37 : decode cX6_fadingUse 37 = .ok (.ldc2_w 257, 3) := by decide +kernel
theorem dX6_fadingUse_40 : decode cX6_fadingUse 40 = .ok (.lload_n 2, 1) := by decide +kernel
theorem dX6_fadingUse_41 : decode cX6_fadingUse 41 = .ok (.lmul, 1) := by decide +kernel
theorem dX6_fadingUse_42 : decode cX6_fadingUse 42 = .ok (.ldc2_w 259, 3) := by decide +kernel
theorem dX6_fadingUse_45 : decode cX6_fadingUse 45 = .ok (.aload_n 1, 1) := by decide +kernel
theorem dX6_fadingUse_46 : decode cX6_fadingUse 46 = .ok (.getfield 122, 3) := by decide +kernel
theorem dX6_fadingUse_49 : decode cX6_fadingUse 49 = .ok (.iload 4, 2) := by decide +kernel
theorem dX6_fadingUse_51 : decode cX6_fadingUse 51 = .ok (.iaload, 1) := by decide +kernel
theorem dX6_fadingUse_52 : decode cX6_fadingUse 52 = .ok (.i2l, 1) := by decide +kernel
theorem dX6_fadingUse_53 : decode cX6_fadingUse 53 = .ok (.lmul, 1) := by decide +kernel
theorem dX6_fadingUse_54 : decode cX6_fadingUse 54 = .ok (.ladd, 1) := by decide +kernel
theorem dX6_fadingUse_55 : decode cX6_fadingUse 55 = .ok (.ldc2_w 261, 3) := by decide +kernel
theorem dX6_fadingUse_58 : decode cX6_fadingUse 58 = .ok (.ldiv, 1) := by decide +kernel
theorem dX6_fadingUse_59 : decode cX6_fadingUse 59 = .ok (.lstore_n 2, 1) := by decide +kernel
theorem dX6_fadingUse_60 : decode cX6_fadingUse 60 = .ok (.iinc 4 1, 3) := by decide +kernel
theorem dX6_fadingUse_63 : decode cX6_fadingUse 63 = .ok (.goto (-50), 3) := by decide +kernel
theorem dX6_fadingUse_66 : decode cX6_fadingUse 66 = .ok (.lload_n 2, 1) := by decide +kernel
theorem dX6_fadingUse_67 : decode cX6_fadingUse 67 = .ok (.lreturn, 1) := by decide +kernel
abbrev cX6_forecastOf : ByteArray := prog_1_method_28_code
def yX6_forecastOf : MethodName := ⟨RX6, "forecastOf", "(LReplenishRules$Place;)J"⟩
abbrev wX6_forecastOf : Cond := .code yX6_forecastOf cX6_forecastOf 9 (some .long)
theorem kX6_forecastOf : wX6_forecastOf ∈ wG := mG 523 (by decide +kernel) rfl
theorem dX6_forecastOf_0 : decode cX6_forecastOf 0 = .ok (.aload_n 0, 1) := by decide +kernel
theorem dX6_forecastOf_1 : decode cX6_forecastOf 1 = .ok (.getfield 17, 3) := by decide +kernel
theorem dX6_forecastOf_4 : decode cX6_forecastOf 4 = .ok (.aload_n 1, 1) := by decide +kernel
theorem dX6_forecastOf_5 : decode cX6_forecastOf 5 = .ok (.getfield 82, 3) := by decide +kernel
theorem dX6_forecastOf_8 : decode cX6_forecastOf 8 = .ok (.aaload, 1) := by decide +kernel
theorem dX6_forecastOf_9 : decode cX6_forecastOf 9 = .ok (.astore_n 2, 1) := by decide +kernel
theorem dX6_forecastOf_10 : decode cX6_forecastOf 10 = .ok (.aload_n 2, 1) := by decide +kernel
theorem dX6_forecastOf_11 : decode cX6_forecastOf 11 = .ok (.aload_n 0, 1) := by decide +kernel
theorem dX6_forecastOf_12 : decode cX6_forecastOf 12 = .ok (.getfield 34, 3) := by decide +kernel
theorem dX6_forecastOf_15 : decode cX6_forecastOf 15 = .ok (.getfield 125, 3) := by decide +kernel
theorem dX6_forecastOf_18 : decode cX6_forecastOf 18 = .ok (.invokevirtual 263, 3) := by decide +kernel
theorem dX6_forecastOf_21 : decode cX6_forecastOf 21 = .ok (.istore_n 3, 1) := by decide +kernel
theorem dX6_forecastOf_22 : decode cX6_forecastOf 22 = .ok (.aload_n 0, 1) := by decide +kernel
theorem dX6_forecastOf_23 : decode cX6_forecastOf 23 = .ok (.getfield 34, 3) := by decide +kernel
theorem dX6_forecastOf_26 : decode cX6_forecastOf 26 = .ok (.invokevirtual 266, 3) := by decide +kernel
theorem dX6_forecastOf_29 : decode cX6_forecastOf 29 = .ok (.istore 4, 2) := by decide +kernel
theorem dX6_forecastOf_31 : decode cX6_forecastOf 31 = .ok (.aload_n 2, 1) := by decide +kernel
theorem dX6_forecastOf_32 : decode cX6_forecastOf 32 = .ok (.aload_n 0, 1) := by decide +kernel
theorem dX6_forecastOf_33 : decode cX6_forecastOf 33 = .ok (.getfield 34, 3) := by decide +kernel
theorem dX6_forecastOf_36 : decode cX6_forecastOf 36 = .ok (.getfield 125, 3) := by decide +kernel
theorem dX6_forecastOf_39 : decode cX6_forecastOf 39 = .ok (.invokevirtual 269, 3) := by decide +kernel
theorem dX6_forecastOf_42 : decode cX6_forecastOf 42 = .ok (.i2l, 1) := by decide +kernel
theorem dX6_forecastOf_43 : decode cX6_forecastOf 43 = .ok (.aload_n 0, 1) := by decide +kernel
theorem dX6_forecastOf_44 : decode cX6_forecastOf 44 = .ok (.getfield 25, 3) := by decide +kernel
theorem dX6_forecastOf_47 : decode cX6_forecastOf 47 = .ok (.iload 4, 2) := by decide +kernel
theorem dX6_forecastOf_49 : decode cX6_forecastOf 49 = .ok (.iaload, 1) := by decide +kernel
theorem dX6_forecastOf_50 : decode cX6_forecastOf 50 = .ok (.i2l, 1) := by decide +kernel
theorem dX6_forecastOf_51 : decode cX6_forecastOf 51 = .ok (.lmul, 1) := by decide +kernel
theorem dX6_forecastOf_52 : decode cX6_forecastOf 52 = .ok (.lstore 5, 2) := by decide +kernel
theorem dX6_forecastOf_54 : decode cX6_forecastOf 54 = .ok (.iload_n 3, 1) := by decide +kernel
theorem dX6_forecastOf_55 : decode cX6_forecastOf 55 = .ok (.iconst 1, 1) := by decide +kernel
theorem dX6_forecastOf_56 : decode cX6_forecastOf 56 = .ok (.if_icmp .ne 38, 3) := by decide +kernel
theorem dX6_forecastOf_59 : decode cX6_forecastOf 59 = .ok (.aload_n 0, 1) := by decide +kernel
theorem dX6_forecastOf_60 : decode cX6_forecastOf 60 = .ok (.getfield 34, 3) := by decide +kernel
theorem dX6_forecastOf_63 : decode cX6_forecastOf 63 = .ok (.bipush 28, 2) := by decide +kernel
theorem dX6_forecastOf_65 : decode cX6_forecastOf 65 = .ok (.invokevirtual 167, 3) := by decide +kernel
theorem dX6_forecastOf_68 : decode cX6_forecastOf 68 = .ok (.i2l, 1) := by decide +kernel
theorem dX6_forecastOf_69 : decode cX6_forecastOf 69 = .ok (.lstore 7, 2) := by decide +kernel
theorem dX6_forecastOf_71 : decode cX6_forecastOf 71 = .ok (.aload_n 0, 1) := by decide +kernel
theorem dX6_forecastOf_72 : decode cX6_forecastOf 72 = .ok (.aload_n 1, 1) := by decide +kernel
theorem dX6_forecastOf_73 : decode cX6_forecastOf 73 = .ok (.invokevirtual 272, 3) := by decide +kernel
theorem dX6_forecastOf_76 : decode cX6_forecastOf 76 = .ok (.lload 5, 2) := by decide +kernel
theorem dX6_forecastOf_78 : decode cX6_forecastOf 78 = .ok (.lmul, 1) := by decide +kernel
theorem dX6_forecastOf_79 : decode cX6_forecastOf 79 = .ok (.lload 7, 2) := by decide +kernel
theorem dX6_forecastOf_81 : decode cX6_forecastOf 81 = .ok (.aload_n 0, 1) := by decide +kernel
theorem dX6_forecastOf_82 : decode cX6_forecastOf 82 = .ok (.getfield 28, 3) := by decide +kernel
theorem dX6_forecastOf_85 : decode cX6_forecastOf 85 = .ok (.iload 4, 2) := by decide +kernel
theorem dX6_forecastOf_87 : decode cX6_forecastOf 87 = .ok (.iaload, 1) := by decide +kernel
theorem dX6_forecastOf_88 : decode cX6_forecastOf 88 = .ok (.i2l, 1) := by decide +kernel
theorem dX6_forecastOf_89 : decode cX6_forecastOf 89 = .ok (.lmul, 1) := by decide +kernel
theorem dX6_forecastOf_90 : decode cX6_forecastOf 90 = .ok (.invokestatic 275, 3) := by decide +kernel
theorem dX6_forecastOf_93 : decode cX6_forecastOf 93 = .ok (.lreturn, 1) := by decide +kernel
theorem dX6_forecastOf_94 : decode cX6_forecastOf 94 = .ok (.iload_n 3, 1) := by decide +kernel
theorem dX6_forecastOf_95 : decode cX6_forecastOf 95 = .ok (.iconst 2, 1) := by decide +kernel
theorem dX6_forecastOf_96 : decode cX6_forecastOf 96 = .ok (.if_icmp .ne 27, 3) := by decide +kernel
theorem dX6_forecastOf_99 : decode cX6_forecastOf 99 = .ok (.aload_n 0, 1) := by decide +kernel
theorem dX6_forecastOf_100 : decode cX6_forecastOf 100 = .ok (.aload_n 1, 1) := by decide +kernel
theorem dX6_forecastOf_101 : decode cX6_forecastOf 101 = .ok (.invokevirtual 279, 3) := by decide +kernel
theorem dX6_forecastOf_104 : decode cX6_forecastOf 104 = .ok (.lload 5, 2) := by decide +kernel
theorem dX6_forecastOf_106 : decode cX6_forecastOf 106 = .ok (.lmul, 1) := by decide +kernel
theorem dX6_forecastOf_107 : decode cX6_forecastOf 107 = .ok (.ldc2_w 259, 3) := by decide +kernel
theorem dX6_forecastOf_110 : decode cX6_forecastOf 110 = .ok (.aload_n 0, 1) := by decide +kernel
theorem dX6_forecastOf_111 : decode cX6_forecastOf 111 = .ok (.getfield 28, 3) := by decide +kernel
theorem dX6_forecastOf_114 : decode cX6_forecastOf 114 = .ok (.iload 4, 2) := by decide +kernel
theorem dX6_forecastOf_116 : decode cX6_forecastOf 116 = .ok (.iaload, 1) := by decide +kernel
theorem dX6_forecastOf_117 : decode cX6_forecastOf 117 = .ok (.i2l, 1) := by decide +kernel
theorem dX6_forecastOf_118 : decode cX6_forecastOf 118 = .ok (.lmul, 1) := by decide +kernel
theorem dX6_forecastOf_119 : decode cX6_forecastOf 119 = .ok (.invokestatic 275, 3) := by decide +kernel
theorem dX6_forecastOf_122 : decode cX6_forecastOf 122 = .ok (.lreturn, 1) := by decide +kernel
theorem dX6_forecastOf_123 : decode cX6_forecastOf 123 = .ok (.lconst 0, 1) := by decide +kernel
theorem dX6_forecastOf_124 : decode cX6_forecastOf 124 = .ok (.lreturn, 1) := by decide +kernel
abbrev cX6_divideUp : ByteArray := prog_1_method_29_code
def yX6_divideUp : MethodName := ⟨RX6, "divideUp", "(JJ)J"⟩
abbrev wX6_divideUp : Cond := .code yX6_divideUp cX6_divideUp 4 (some .long)
theorem kX6_divideUp : wX6_divideUp ∈ wG := mG 543 (by decide +kernel) rfl
theorem dX6_divideUp_0 : decode cX6_divideUp 0 = .ok (.lload_n 2, 1) := by decide +kernel
theorem dX6_divideUp_1 : decode cX6_divideUp 1 = .ok (.lconst 0, 1) := by decide +kernel
theorem dX6_divideUp_2 : decode cX6_divideUp 2 = .ok (.lcmp, 1) := by decide +kernel
theorem dX6_divideUp_3 : decode cX6_divideUp 3 = .ok (.ifCond .gt 5, 3) := by decide +kernel
theorem dX6_divideUp_6 : decode cX6_divideUp 6 = .ok (.lconst 0, 1) := by decide +kernel
theorem dX6_divideUp_7 : decode cX6_divideUp 7 = .ok (.lreturn, 1) := by decide +kernel
theorem dX6_divideUp_8 : decode cX6_divideUp 8 = .ok (.lload_n 0, 1) := by decide +kernel
theorem dX6_divideUp_9 : decode cX6_divideUp 9 = .ok (.lload_n 2, 1) := by decide +kernel
theorem dX6_divideUp_10 : decode cX6_divideUp 10 = .ok (.ladd, 1) := by decide +kernel
theorem dX6_divideUp_11 : decode cX6_divideUp 11 = .ok (.lconst 1, 1) := by decide +kernel
theorem dX6_divideUp_12 : decode cX6_divideUp 12 = .ok (.lsub, 1) := by decide +kernel
theorem dX6_divideUp_13 : decode cX6_divideUp 13 = .ok (.lload_n 2, 1) := by decide +kernel
theorem dX6_divideUp_14 : decode cX6_divideUp 14 = .ok (.ldiv, 1) := by decide +kernel
theorem dX6_divideUp_15 : decode cX6_divideUp 15 = .ok (.lreturn, 1) := by decide +kernel
abbrev cX6_needOf : ByteArray := prog_1_method_30_code
def yX6_needOf : MethodName := ⟨RX6, "needOf", "(LReplenishRules$Place;)J"⟩
abbrev wX6_needOf : Cond := .code yX6_needOf cX6_needOf 6 (some .long)
theorem kX6_needOf : wX6_needOf ∈ wG := mG 565 (by decide +kernel) rfl
theorem dX6_needOf_0 : decode cX6_needOf 0 = .ok (.aload_n 0, 1) := by decide +kernel
theorem dX6_needOf_1 : decode cX6_needOf 1 = .ok (.getfield 34, 3) := by decide +kernel
theorem dX6_needOf_4 : decode cX6_needOf 4 = .ok (.getfield 125, 3) := by decide +kernel
theorem dX6_needOf_7 : decode cX6_needOf 7 = .ok (.istore_n 2, 1) := by decide +kernel
theorem dX6_needOf_8 : decode cX6_needOf 8 = .ok (.iload_n 2, 1) := by decide +kernel
theorem dX6_needOf_9 : decode cX6_needOf 9 = .ok (.aload_n 0, 1) := by decide +kernel
theorem dX6_needOf_10 : decode cX6_needOf 10 = .ok (.getfield 17, 3) := by decide +kernel
theorem dX6_needOf_13 : decode cX6_needOf 13 = .ok (.aload_n 1, 1) := by decide +kernel
theorem dX6_needOf_14 : decode cX6_needOf 14 = .ok (.getfield 82, 3) := by decide +kernel
theorem dX6_needOf_17 : decode cX6_needOf 17 = .ok (.aaload, 1) := by decide +kernel
theorem dX6_needOf_18 : decode cX6_needOf 18 = .ok (.iload_n 2, 1) := by decide +kernel
theorem dX6_needOf_19 : decode cX6_needOf 19 = .ok (.invokevirtual 269, 3) := by decide +kernel
theorem dX6_needOf_22 : decode cX6_needOf 22 = .ok (.iadd, 1) := by decide +kernel
theorem dX6_needOf_23 : decode cX6_needOf 23 = .ok (.istore_n 3, 1) := by decide +kernel
theorem dX6_needOf_24 : decode cX6_needOf 24 = .ok (.aload_n 0, 1) := by decide +kernel
theorem dX6_needOf_25 : decode cX6_needOf 25 = .ok (.getfield 41, 3) := by decide +kernel
theorem dX6_needOf_28 : decode cX6_needOf 28 = .ok (.aload_n 1, 1) := by decide +kernel
theorem dX6_needOf_29 : decode cX6_needOf 29 = .ok (.getfield 155, 3) := by decide +kernel
theorem dX6_needOf_32 : decode cX6_needOf 32 = .ok (.iload_n 2, 1) := by decide +kernel
theorem dX6_needOf_33 : decode cX6_needOf 33 = .ok (.iload_n 3, 1) := by decide +kernel
theorem dX6_needOf_34 : decode cX6_needOf 34 = .ok (.invokevirtual 282, 3) := by decide +kernel
theorem dX6_needOf_37 : decode cX6_needOf 37 = .ok (.lstore 4, 2) := by decide +kernel
theorem dX6_needOf_39 : decode cX6_needOf 39 = .ok (.aload_n 1, 1) := by decide +kernel
theorem dX6_needOf_40 : decode cX6_needOf 40 = .ok (.getfield 94, 3) := by decide +kernel
theorem dX6_needOf_43 : decode cX6_needOf 43 = .ok (.i2l, 1) := by decide +kernel
theorem dX6_needOf_44 : decode cX6_needOf 44 = .ok (.aload_n 0, 1) := by decide +kernel
theorem dX6_needOf_45 : decode cX6_needOf 45 = .ok (.aload_n 1, 1) := by decide +kernel
theorem dX6_needOf_46 : decode cX6_needOf 46 = .ok (.invokevirtual 180, 3) := by decide +kernel
theorem dX6_needOf_49 : decode cX6_needOf 49 = .ok (.invokestatic 286, 3) := by decide +kernel
theorem dX6_needOf_52 : decode cX6_needOf 52 = .ok (.lload 4, 2) := by decide +kernel
theorem dX6_needOf_54 : decode cX6_needOf 54 = .ok (.invokestatic 286, 3) := by decide +kernel
theorem dX6_needOf_57 : decode cX6_needOf 57 = .ok (.lreturn, 1) := by decide +kernel
abbrev cX6_thresholdOf : ByteArray := prog_1_method_31_code
def yX6_thresholdOf : MethodName := ⟨RX6, "thresholdOf", "(LReplenishRules$Place;)I"⟩
abbrev wX6_thresholdOf : Cond := .code yX6_thresholdOf cX6_thresholdOf 2 (some .int)
theorem kX6_thresholdOf : wX6_thresholdOf ∈ wG := mG 561 (by decide +kernel) rfl
theorem dX6_thresholdOf_0 : decode cX6_thresholdOf 0 = .ok (.aload_n 0, 1) := by decide +kernel
theorem dX6_thresholdOf_1 : decode cX6_thresholdOf 1 = .ok (.aload_n 1, 1) := by decide +kernel
theorem dX6_thresholdOf_2 : decode cX6_thresholdOf 2 = .ok (.invokevirtual 188, 3) := by decide +kernel
theorem dX6_thresholdOf_5 : decode cX6_thresholdOf 5 = .ok (.aload_n 1, 1) := by decide +kernel
theorem dX6_thresholdOf_6 : decode cX6_thresholdOf 6 = .ok (.getfield 79, 3) := by decide +kernel
theorem dX6_thresholdOf_9 : decode cX6_thresholdOf 9 = .ok (.i2l, 1) := by decide +kernel
theorem dX6_thresholdOf_10 : decode cX6_thresholdOf 10 = .ok (.invokestatic 291, 3) := by decide +kernel
theorem dX6_thresholdOf_13 : decode cX6_thresholdOf 13 = .ok (.l2i, 1) := by decide +kernel
theorem dX6_thresholdOf_14 : decode cX6_thresholdOf 14 = .ok (.ireturn, 1) := by decide +kernel
abbrev cX6_needTimeOf : ByteArray := prog_1_method_32_code
def yX6_needTimeOf : MethodName := ⟨RX6, "needTimeOf", "(LReplenishRules$Place;)I"⟩
abbrev wX6_needTimeOf : Cond := .code yX6_needTimeOf cX6_needTimeOf 4 (some .int)
theorem kX6_needTimeOf : wX6_needTimeOf ∈ wG := mG 612 (by decide +kernel) rfl
theorem dX6_needTimeOf_0 : decode cX6_needTimeOf 0 = .ok (.aload_n 0, 1) := by decide +kernel
theorem dX6_needTimeOf_1 : decode cX6_needTimeOf 1 = .ok (.aload_n 1, 1) := by decide +kernel
theorem dX6_needTimeOf_2 : decode cX6_needTimeOf 2 = .ok (.invokevirtual 272, 3) := by decide +kernel
theorem dX6_needTimeOf_5 : decode cX6_needTimeOf 5 = .ok (.lstore_n 2, 1) := by decide +kernel
theorem dX6_needTimeOf_6 : decode cX6_needTimeOf 6 = .ok (.lload_n 2, 1) := by decide +kernel
theorem dX6_needTimeOf_7 : decode cX6_needTimeOf 7 = .ok (.lconst 0, 1) := by decide +kernel
theorem dX6_needTimeOf_8 : decode cX6_needTimeOf 8 = .ok (.lcmp, 1) := by decide +kernel
theorem dX6_needTimeOf_9 : decode cX6_needTimeOf 9 = .ok (.ifCond .ne 7, 3) := by decide +kernel
theorem dX6_needTimeOf_12 : decode cX6_needTimeOf 12 = .ok (.sipush 9999, 3) := by decide +kernel
theorem dX6_needTimeOf_15 : decode cX6_needTimeOf 15 = .ok (.ireturn, 1) := by decide +kernel
theorem dX6_needTimeOf_16 : decode cX6_needTimeOf 16 = .ok (.aload_n 1, 1) := by decide +kernel
theorem dX6_needTimeOf_17 : decode cX6_needTimeOf 17 = .ok (.getfield 65, 3) := by decide +kernel
theorem dX6_needTimeOf_20 : decode cX6_needTimeOf 20 = .ok (.i2l, 1) := by decide +kernel
theorem dX6_needTimeOf_21 : decode cX6_needTimeOf 21 = .ok (.aload_n 0, 1) := by decide +kernel
theorem dX6_needTimeOf_22 : decode cX6_needTimeOf 22 = .ok (.getfield 34, 3) := by decide +kernel
theorem dX6_needTimeOf_25 : decode cX6_needTimeOf 25 = .ok (.bipush 28, 2) := by decide +kernel
theorem dX6_needTimeOf_27 : decode cX6_needTimeOf 27 = .ok (.invokevirtual 167, 3) := by decide +kernel
theorem dX6_needTimeOf_30 : decode cX6_needTimeOf 30 = .ok (.i2l, 1) := by decide +kernel
theorem dX6_needTimeOf_31 : decode cX6_needTimeOf 31 = .ok (.lmul, 1) := by decide +kernel
theorem dX6_needTimeOf_32 : decode cX6_needTimeOf 32 = .ok (.lload_n 2, 1) := by decide +kernel
theorem dX6_needTimeOf_33 : decode cX6_needTimeOf 33 = .ok (.ldiv, 1) := by decide +kernel
theorem dX6_needTimeOf_34 : decode cX6_needTimeOf 34 = .ok (.l2i, 1) := by decide +kernel
theorem dX6_needTimeOf_35 : decode cX6_needTimeOf 35 = .ok (.ireturn, 1) := by decide +kernel
abbrev cX6_prepare : ByteArray := prog_1_method_33_code
def yX6_prepare : MethodName := ⟨RX6, "prepare", "(LReplenishRules$Place;)V"⟩
abbrev wX6_prepare : Cond := .code yX6_prepare cX6_prepare 2 none
theorem kX6_prepare : wX6_prepare ∈ wG := mG 598 (by decide +kernel) rfl
theorem dX6_prepare_0 : decode cX6_prepare 0 = .ok (.aload_n 1, 1) := by decide +kernel
theorem dX6_prepare_1 : decode cX6_prepare 1 = .ok (.iconst 0, 1) := by decide +kernel
theorem dX6_prepare_2 : decode cX6_prepare 2 = .ok (.putfield 294, 3) := by decide +kernel
theorem dX6_prepare_5 : decode cX6_prepare 5 = .ok (.aload_n 1, 1) := by decide +kernel
theorem dX6_prepare_6 : decode cX6_prepare 6 = .ok (.iconst 0, 1) := by decide +kernel
theorem dX6_prepare_7 : decode cX6_prepare 7 = .ok (.putfield 297, 3) := by decide +kernel
theorem dX6_prepare_10 : decode cX6_prepare 10 = .ok (.aload_n 1, 1) := by decide +kernel
theorem dX6_prepare_11 : decode cX6_prepare 11 = .ok (.invokevirtual 248, 3) := by decide +kernel
theorem dX6_prepare_14 : decode cX6_prepare 14 = .ok (.ifCond .eq 26, 3) := by decide +kernel
theorem dX6_prepare_17 : decode cX6_prepare 17 = .ok (.aload_n 1, 1) := by decide +kernel
theorem dX6_prepare_18 : decode cX6_prepare 18 = .ok (.aload_n 0, 1) := by decide +kernel
theorem dX6_prepare_19 : decode cX6_prepare 19 = .ok (.aload_n 1, 1) := by decide +kernel
theorem dX6_prepare_20 : decode cX6_prepare 20 = .ok (.aload_n 0, 1) := by decide +kernel
theorem dX6_prepare_21 : decode cX6_prepare 21 = .ok (.aload_n 1, 1) := by decide +kernel
theorem dX6_prepare_22 : decode cX6_prepare 22 = .ok (.invokevirtual 184, 3) := by decide +kernel
theorem dX6_prepare_25 : decode cX6_prepare 25 = .ok (.invokevirtual 300, 3) := by decide +kernel
theorem dX6_prepare_28 : decode cX6_prepare 28 = .ok (.putfield 297, 3) := by decide +kernel
theorem dX6_prepare_31 : decode cX6_prepare 31 = .ok (.aload_n 1, 1) := by decide +kernel
theorem dX6_prepare_32 : decode cX6_prepare 32 = .ok (.aload_n 0, 1) := by decide +kernel
theorem dX6_prepare_33 : decode cX6_prepare 33 = .ok (.aload_n 1, 1) := by decide +kernel
theorem dX6_prepare_34 : decode cX6_prepare 34 = .ok (.invokevirtual 304, 3) := by decide +kernel
theorem dX6_prepare_37 : decode cX6_prepare 37 = .ok (.putfield 307, 3) := by decide +kernel
theorem dX6_prepare_40 : decode cX6_prepare 40 = .ok (.return_, 1) := by decide +kernel
abbrev cX6_wantedBy : ByteArray := prog_1_method_34_code
def yX6_wantedBy : MethodName := ⟨RX6, "wantedBy", "(LReplenishRules$Place;I)I"⟩
abbrev wX6_wantedBy : Cond := .code yX6_wantedBy cX6_wantedBy 4 (some .int)
theorem kX6_wantedBy : wX6_wantedBy ∈ wG := mG 602 (by decide +kernel) rfl
theorem dX6_wantedBy_0 : decode cX6_wantedBy 0 = .ok (.aload_n 1, 1) := by decide +kernel
theorem dX6_wantedBy_1 : decode cX6_wantedBy 1 = .ok (.getfield 65, 3) := by decide +kernel
theorem dX6_wantedBy_4 : decode cX6_wantedBy 4 = .ok (.iload_n 2, 1) := by decide +kernel
theorem dX6_wantedBy_5 : decode cX6_wantedBy 5 = .ok (.if_icmp .lt 5, 3) := by decide +kernel
theorem dX6_wantedBy_8 : decode cX6_wantedBy 8 = .ok (.iconst 0, 1) := by decide +kernel
theorem dX6_wantedBy_9 : decode cX6_wantedBy 9 = .ok (.ireturn, 1) := by decide +kernel
theorem dX6_wantedBy_10 : decode cX6_wantedBy 10 = .ok (.aload_n 1, 1) := by decide +kernel
theorem dX6_wantedBy_11 : decode cX6_wantedBy 11 = .ok (.getfield 69, 3) := by decide +kernel
theorem dX6_wantedBy_14 : decode cX6_wantedBy 14 = .ok (.iload_n 2, 1) := by decide +kernel
theorem dX6_wantedBy_15 : decode cX6_wantedBy 15 = .ok (.invokestatic 310, 3) := by decide +kernel
theorem dX6_wantedBy_18 : decode cX6_wantedBy 18 = .ok (.aload_n 1, 1) := by decide +kernel
theorem dX6_wantedBy_19 : decode cX6_wantedBy 19 = .ok (.getfield 65, 3) := by decide +kernel
theorem dX6_wantedBy_22 : decode cX6_wantedBy 22 = .ok (.isub, 1) := by decide +kernel
theorem dX6_wantedBy_23 : decode cX6_wantedBy 23 = .ok (.istore_n 3, 1) := by decide +kernel
theorem dX6_wantedBy_24 : decode cX6_wantedBy 24 = .ok (.iload_n 3, 1) := by decide +kernel
theorem dX6_wantedBy_25 : decode cX6_wantedBy 25 = .ok (.aload_n 0, 1) := by decide +kernel
theorem dX6_wantedBy_26 : decode cX6_wantedBy 26 = .ok (.getfield 21, 3) := by decide +kernel
theorem dX6_wantedBy_29 : decode cX6_wantedBy 29 = .ok (.aload_n 1, 1) := by decide +kernel
theorem dX6_wantedBy_30 : decode cX6_wantedBy 30 = .ok (.getfield 91, 3) := by decide +kernel
theorem dX6_wantedBy_33 : decode cX6_wantedBy 33 = .ok (.iaload, 1) := by decide +kernel
theorem dX6_wantedBy_34 : decode cX6_wantedBy 34 = .ok (.aload_n 1, 1) := by decide +kernel
theorem dX6_wantedBy_35 : decode cX6_wantedBy 35 = .ok (.invokevirtual 243, 3) := by decide +kernel
theorem dX6_wantedBy_38 : decode cX6_wantedBy 38 = .ok (.invokestatic 313, 3) := by decide +kernel
theorem dX6_wantedBy_41 : decode cX6_wantedBy 41 = .ok (.ireturn, 1) := by decide +kernel
abbrev cX6_inFullCases : ByteArray := prog_1_method_35_code
def yX6_inFullCases : MethodName := ⟨RX6, "inFullCases", "(III)I"⟩
abbrev wX6_inFullCases : Cond := .code yX6_inFullCases cX6_inFullCases 6 (some .int)
theorem kX6_inFullCases : wX6_inFullCases ∈ wG := mG 608 (by decide +kernel) rfl
theorem dX6_inFullCases_0 : decode cX6_inFullCases 0 = .ok (.iload_n 1, 1) := by decide +kernel
theorem dX6_inFullCases_1 : decode cX6_inFullCases 1 = .ok (.iconst 1, 1) := by decide +kernel
theorem dX6_inFullCases_2 : decode cX6_inFullCases 2 = .ok (.if_icmp .gt 5, 3) := by decide +kernel
theorem dX6_inFullCases_5 : decode cX6_inFullCases 5 = .ok (.iload_n 0, 1) := by decide +kernel
theorem dX6_inFullCases_6 : decode cX6_inFullCases 6 = .ok (.ireturn, 1) := by decide +kernel
theorem dX6_inFullCases_7 : decode cX6_inFullCases 7 = .ok (.iload_n 0, 1) := by decide +kernel
theorem dX6_inFullCases_8 : decode cX6_inFullCases 8 = .ok (.iload_n 1, 1) := by decide +kernel
theorem dX6_inFullCases_9 : decode cX6_inFullCases 9 = .ok (.irem, 1) := by decide +kernel
theorem dX6_inFullCases_10 : decode cX6_inFullCases 10 = .ok (.istore_n 3, 1) := by decide +kernel
theorem dX6_inFullCases_11 : decode cX6_inFullCases 11 = .ok (.iload_n 3, 1) := by decide +kernel
theorem dX6_inFullCases_12 : decode cX6_inFullCases 12 = .ok (.ifCond .ne 5, 3) := by decide +kernel
theorem dX6_inFullCases_15 : decode cX6_inFullCases 15 = .ok (.iload_n 0, 1) := by decide +kernel
theorem dX6_inFullCases_16 : decode cX6_inFullCases 16 = .ok (.ireturn, 1) := by decide +kernel
theorem dX6_inFullCases_17 : decode cX6_inFullCases 17 = .ok (.iload_n 0, 1) := by decide +kernel
theorem dX6_inFullCases_18 : decode cX6_inFullCases 18 = .ok (.iload_n 3, 1) := by decide +kernel
theorem dX6_inFullCases_19 : decode cX6_inFullCases 19 = .ok (.isub, 1) := by decide +kernel
theorem dX6_inFullCases_20 : decode cX6_inFullCases 20 = .ok (.istore 4, 2) := by decide +kernel
theorem dX6_inFullCases_22 : decode cX6_inFullCases 22 = .ok (.iload 4, 2) := by decide +kernel
theorem dX6_inFullCases_24 : decode cX6_inFullCases 24 = .ok (.iload_n 1, 1) := by decide +kernel
theorem dX6_inFullCases_25 : decode cX6_inFullCases 25 = .ok (.iadd, 1) := by decide +kernel
theorem dX6_inFullCases_26 : decode cX6_inFullCases 26 = .ok (.istore 5, 2) := by decide +kernel
theorem dX6_inFullCases_28 : decode cX6_inFullCases 28 = .ok (.iload 5, 2) := by decide +kernel
theorem dX6_inFullCases_30 : decode cX6_inFullCases 30 = .ok (.iload_n 2, 1) := by decide +kernel
theorem dX6_inFullCases_31 : decode cX6_inFullCases 31 = .ok (.if_icmp .gt 8, 3) := by decide +kernel
theorem dX6_inFullCases_34 : decode cX6_inFullCases 34 = .ok (.iload 5, 2) := by decide +kernel
theorem dX6_inFullCases_36 : decode cX6_inFullCases 36 = .ok (.goto 5, 3) := by decide +kernel
theorem dX6_inFullCases_39 : decode cX6_inFullCases 39 = .ok (.iload 4, 2) := by decide +kernel
theorem dX6_inFullCases_41 : decode cX6_inFullCases 41 = .ok (.ireturn, 1) := by decide +kernel
abbrev cX6_mostUrgentFace : ByteArray := prog_1_method_36_code
def yX6_mostUrgentFace : MethodName := ⟨RX6, "mostUrgentFace", "()LReplenishRules$Place;"⟩
abbrev wX6_mostUrgentFace : Cond := .code yX6_mostUrgentFace cX6_mostUrgentFace 4 (some (.object "ReplenishRules$Place"))
theorem kX6_mostUrgentFace : wX6_mostUrgentFace ∈ wG := mG 616 (by decide +kernel) rfl
theorem dX6_mostUrgentFace_0 : decode cX6_mostUrgentFace 0 = .ok (.aconst_null, 1) := by decide +kernel
theorem dX6_mostUrgentFace_1 : decode cX6_mostUrgentFace 1 = .ok (.astore_n 1, 1) := by decide +kernel
theorem dX6_mostUrgentFace_2 : decode cX6_mostUrgentFace 2 = .ok (.iconst 0, 1) := by decide +kernel
theorem dX6_mostUrgentFace_3 : decode cX6_mostUrgentFace 3 = .ok (.istore_n 2, 1) := by decide +kernel
theorem dX6_mostUrgentFace_4 : decode cX6_mostUrgentFace 4 = .ok (.iload_n 2, 1) := by decide +kernel
theorem dX6_mostUrgentFace_5 : decode cX6_mostUrgentFace 5 = .ok (.bipush 16, 2) := by decide +kernel
theorem dX6_mostUrgentFace_7 : decode cX6_mostUrgentFace 7 = .ok (.if_icmp .ge 40, 3) := by decide +kernel
theorem dX6_mostUrgentFace_10 : decode cX6_mostUrgentFace 10 = .ok (.aload_n 0, 1) := by decide +kernel
theorem dX6_mostUrgentFace_11 : decode cX6_mostUrgentFace 11 = .ok (.getfield 11, 3) := by decide +kernel
theorem dX6_mostUrgentFace_14 : decode cX6_mostUrgentFace 14 = .ok (.iload_n 2, 1) := by decide +kernel
theorem dX6_mostUrgentFace_15 : decode cX6_mostUrgentFace 15 = .ok (.aaload, 1) := by decide +kernel
theorem dX6_mostUrgentFace_16 : decode cX6_mostUrgentFace 16 = .ok (.astore_n 3, 1) := by decide +kernel
theorem dX6_mostUrgentFace_17 : decode cX6_mostUrgentFace 17 = .ok (.aload_n 3, 1) := by decide +kernel
theorem dX6_mostUrgentFace_18 : decode cX6_mostUrgentFace 18 = .ok (.getfield 297, 3) := by decide +kernel
theorem dX6_mostUrgentFace_21 : decode cX6_mostUrgentFace 21 = .ok (.ifCond .le 20, 3) := by decide +kernel
theorem dX6_mostUrgentFace_24 : decode cX6_mostUrgentFace 24 = .ok (.aload_n 1, 1) := by decide +kernel
theorem dX6_mostUrgentFace_25 : decode cX6_mostUrgentFace 25 = .ok (.ifnull 14, 3) := by decide +kernel
theorem dX6_mostUrgentFace_28 : decode cX6_mostUrgentFace 28 = .ok (.aload_n 3, 1) := by decide +kernel
theorem dX6_mostUrgentFace_29 : decode cX6_mostUrgentFace 29 = .ok (.getfield 307, 3) := by decide +kernel
theorem dX6_mostUrgentFace_32 : decode cX6_mostUrgentFace 32 = .ok (.aload_n 1, 1) := by decide +kernel
theorem dX6_mostUrgentFace_33 : decode cX6_mostUrgentFace 33 = .ok (.getfield 307, 3) := by decide +kernel
theorem dX6_mostUrgentFace_36 : decode cX6_mostUrgentFace 36 = .ok (.if_icmp .ge 5, 3) := by decide +kernel
theorem dX6_mostUrgentFace_39 : decode cX6_mostUrgentFace 39 = .ok (.aload_n 3, 1) := by decide +kernel
theorem dX6_mostUrgentFace_40 : decode cX6_mostUrgentFace 40 = .ok (.astore_n 1, 1) := by decide +kernel
theorem dX6_mostUrgentFace_41 : decode cX6_mostUrgentFace 41 = .ok (.iinc 2 1, 3) := by decide +kernel
theorem dX6_mostUrgentFace_44 : decode cX6_mostUrgentFace 44 = .ok (.goto (-40), 3) := by decide +kernel
theorem dX6_mostUrgentFace_47 : decode cX6_mostUrgentFace 47 = .ok (.aload_n 1, 1) := by decide +kernel
theorem dX6_mostUrgentFace_48 : decode cX6_mostUrgentFace 48 = .ok (.areturn, 1) := by decide +kernel
abbrev cX6_serve : ByteArray := prog_1_method_37_code
def yX6_serve : MethodName := ⟨RX6, "serve", "(LReplenishRules$Place;)V"⟩
abbrev wX6_serve : Cond := .code yX6_serve cX6_serve 2 none
theorem kX6_serve : wX6_serve ∈ wG := mG 620 (by decide +kernel) rfl
theorem dX6_serve_0 : decode cX6_serve 0 = .ok (.aload_n 0, 1) := by decide +kernel
theorem dX6_serve_1 : decode cX6_serve 1 = .ok (.aload_n 1, 1) := by decide +kernel
theorem dX6_serve_2 : decode cX6_serve 2 = .ok (.iconst 1, 1) := by decide +kernel
theorem dX6_serve_3 : decode cX6_serve 3 = .ok (.invokevirtual 317, 3) := by decide +kernel
theorem dX6_serve_6 : decode cX6_serve 6 = .ok (.aload_n 0, 1) := by decide +kernel
theorem dX6_serve_7 : decode cX6_serve 7 = .ok (.aload_n 1, 1) := by decide +kernel
theorem dX6_serve_8 : decode cX6_serve 8 = .ok (.iconst 0, 1) := by decide +kernel
theorem dX6_serve_9 : decode cX6_serve 9 = .ok (.invokevirtual 317, 3) := by decide +kernel
theorem dX6_serve_12 : decode cX6_serve 12 = .ok (.aload_n 1, 1) := by decide +kernel
theorem dX6_serve_13 : decode cX6_serve 13 = .ok (.iconst 0, 1) := by decide +kernel
theorem dX6_serve_14 : decode cX6_serve 14 = .ok (.putfield 297, 3) := by decide +kernel
theorem dX6_serve_17 : decode cX6_serve 17 = .ok (.return_, 1) := by decide +kernel
abbrev cX6_takeFromReserves : ByteArray := prog_1_method_38_code
def yX6_takeFromReserves : MethodName := ⟨RX6, "takeFromReserves", "(LReplenishRules$Place;Z)V"⟩
abbrev wX6_takeFromReserves : Cond := .code yX6_takeFromReserves cX6_takeFromReserves 6 none
theorem kX6_takeFromReserves : wX6_takeFromReserves ∈ wG := mG 624 (by decide +kernel) rfl
theorem dX6_takeFromReserves_0 : decode cX6_takeFromReserves 0 = .ok (.iconst 0, 1) := by decide +kernel
theorem dX6_takeFromReserves_1 : decode cX6_takeFromReserves 1 = .ok (.istore_n 3, 1) := by decide +kernel
theorem dX6_takeFromReserves_2 : decode cX6_takeFromReserves 2 = .ok (.iload_n 3, 1) := by decide +kernel
theorem dX6_takeFromReserves_3 : decode cX6_takeFromReserves 3 = .ok (.bipush 16, 2) := by decide +kernel
theorem dX6_takeFromReserves_5 : decode cX6_takeFromReserves 5 = .ok (.if_icmp .ge 61, 3) := by decide +kernel
theorem dX6_takeFromReserves_8 : decode cX6_takeFromReserves 8 = .ok (.aload_n 0, 1) := by decide +kernel
theorem dX6_takeFromReserves_9 : decode cX6_takeFromReserves 9 = .ok (.getfield 11, 3) := by decide +kernel
theorem dX6_takeFromReserves_12 : decode cX6_takeFromReserves 12 = .ok (.iload_n 3, 1) := by decide +kernel
theorem dX6_takeFromReserves_13 : decode cX6_takeFromReserves 13 = .ok (.aaload, 1) := by decide +kernel
theorem dX6_takeFromReserves_14 : decode cX6_takeFromReserves 14 = .ok (.astore 4, 2) := by decide +kernel
theorem dX6_takeFromReserves_16 : decode cX6_takeFromReserves 16 = .ok (.aload 4, 2) := by decide +kernel
theorem dX6_takeFromReserves_18 : decode cX6_takeFromReserves 18 = .ok (.getfield 82, 3) := by decide +kernel
theorem dX6_takeFromReserves_21 : decode cX6_takeFromReserves 21 = .ok (.aload_n 1, 1) := by decide +kernel
theorem dX6_takeFromReserves_22 : decode cX6_takeFromReserves 22 = .ok (.getfield 82, 3) := by decide +kernel
theorem dX6_takeFromReserves_25 : decode cX6_takeFromReserves 25 = .ok (.if_icmp .ne 7, 3) := by decide +kernel
theorem dX6_takeFromReserves_28 : decode cX6_takeFromReserves 28 = .ok (.iconst 1, 1) := by decide +kernel
theorem dX6_takeFromReserves_29 : decode cX6_takeFromReserves 29 = .ok (.goto 4, 3) := by decide +kernel
theorem dX6_takeFromReserves_32 : decode cX6_takeFromReserves 32 = .ok (.iconst 0, 1) := by decide +kernel
theorem dX6_takeFromReserves_33 : decode cX6_takeFromReserves 33 = .ok (.istore 5, 2) := by decide +kernel
theorem dX6_takeFromReserves_35 : decode cX6_takeFromReserves 35 = .ok (.iload 5, 2) := by decide +kernel
theorem dX6_takeFromReserves_37 : decode cX6_takeFromReserves 37 = .ok (.iload_n 2, 1) := by decide +kernel
theorem dX6_takeFromReserves_38 : decode cX6_takeFromReserves 38 = .ok (.if_icmp .ne 22, 3) := by decide +kernel
theorem dX6_takeFromReserves_41 : decode cX6_takeFromReserves 41 = .ok (.aload 4, 2) := by decide +kernel
theorem dX6_takeFromReserves_43 : decode cX6_takeFromReserves 43 = .ok (.aload_n 1, 1) := by decide +kernel
theorem dX6_takeFromReserves_44 : decode cX6_takeFromReserves 44 = .ok (.getfield 91, 3) := by decide +kernel
theorem dX6_takeFromReserves_47 : decode cX6_takeFromReserves 47 = .ok (.invokevirtual 321, 3) := by decide +kernel
theorem dX6_takeFromReserves_50 : decode cX6_takeFromReserves 50 = .ok (.ifCond .eq 10, 3) := by decide +kernel
theorem dX6_takeFromReserves_53 : decode cX6_takeFromReserves 53 = .ok (.aload_n 0, 1) := by decide +kernel
theorem dX6_takeFromReserves_54 : decode cX6_takeFromReserves 54 = .ok (.aload 4, 2) := by decide +kernel
theorem dX6_takeFromReserves_56 : decode cX6_takeFromReserves 56 = .ok (.aload_n 1, 1) := by decide +kernel
theorem dX6_takeFromReserves_57 : decode cX6_takeFromReserves 57 = .ok (.invokevirtual 324, 3) := by decide +kernel
theorem dX6_takeFromReserves_60 : decode cX6_takeFromReserves 60 = .ok (.iinc 3 1, 3) := by decide +kernel
theorem dX6_takeFromReserves_63 : decode cX6_takeFromReserves 63 = .ok (.goto (-61), 3) := by decide +kernel
theorem dX6_takeFromReserves_66 : decode cX6_takeFromReserves 66 = .ok (.return_, 1) := by decide +kernel
abbrev cX6_planMove : ByteArray := prog_1_method_39_code
def yX6_planMove : MethodName := ⟨RX6, "planMove", "(LReplenishRules$Place;LReplenishRules$Place;)V"⟩
abbrev wX6_planMove : Cond := .code yX6_planMove cX6_planMove 4 none
theorem kX6_planMove : wX6_planMove ∈ wG := mG 632 (by decide +kernel) rfl
theorem dX6_planMove_0 : decode cX6_planMove 0 = .ok (.aload_n 1, 1) := by decide +kernel
theorem dX6_planMove_1 : decode cX6_planMove 1 = .ok (.invokevirtual 328, 3) := by decide +kernel
theorem dX6_planMove_4 : decode cX6_planMove 4 = .ok (.aload_n 2, 1) := by decide +kernel
theorem dX6_planMove_5 : decode cX6_planMove 5 = .ok (.getfield 297, 3) := by decide +kernel
theorem dX6_planMove_8 : decode cX6_planMove 8 = .ok (.invokestatic 331, 3) := by decide +kernel
theorem dX6_planMove_11 : decode cX6_planMove 11 = .ok (.istore_n 3, 1) := by decide +kernel
theorem dX6_planMove_12 : decode cX6_planMove 12 = .ok (.iload_n 3, 1) := by decide +kernel
theorem dX6_planMove_13 : decode cX6_planMove 13 = .ok (.ifCond .le 15, 3) := by decide +kernel
theorem dX6_planMove_16 : decode cX6_planMove 16 = .ok (.aload_n 0, 1) := by decide +kernel
theorem dX6_planMove_17 : decode cX6_planMove 17 = .ok (.getfield 48, 3) := by decide +kernel
theorem dX6_planMove_20 : decode cX6_planMove 20 = .ok (.getfield 210, 3) := by decide +kernel
theorem dX6_planMove_23 : decode cX6_planMove 23 = .ok (.bipush 30, 2) := by decide +kernel
theorem dX6_planMove_25 : decode cX6_planMove 25 = .ok (.if_icmp .lt 4, 3) := by decide +kernel
theorem dX6_planMove_28 : decode cX6_planMove 28 = .ok (.return_, 1) := by decide +kernel
theorem dX6_planMove_29 : decode cX6_planMove 29 = .ok (.aload_n 1, 1) := by decide +kernel
theorem dX6_planMove_30 : decode cX6_planMove 30 = .ok (.dup, 1) := by decide +kernel
theorem dX6_planMove_31 : decode cX6_planMove 31 = .ok (.getfield 294, 3) := by decide +kernel
theorem dX6_planMove_34 : decode cX6_planMove 34 = .ok (.iload_n 3, 1) := by decide +kernel
theorem dX6_planMove_35 : decode cX6_planMove 35 = .ok (.iadd, 1) := by decide +kernel
theorem dX6_planMove_36 : decode cX6_planMove 36 = .ok (.putfield 294, 3) := by decide +kernel
theorem dX6_planMove_39 : decode cX6_planMove 39 = .ok (.aload_n 2, 1) := by decide +kernel
theorem dX6_planMove_40 : decode cX6_planMove 40 = .ok (.dup, 1) := by decide +kernel
theorem dX6_planMove_41 : decode cX6_planMove 41 = .ok (.getfield 297, 3) := by decide +kernel
theorem dX6_planMove_44 : decode cX6_planMove 44 = .ok (.iload_n 3, 1) := by decide +kernel
theorem dX6_planMove_45 : decode cX6_planMove 45 = .ok (.isub, 1) := by decide +kernel
theorem dX6_planMove_46 : decode cX6_planMove 46 = .ok (.putfield 297, 3) := by decide +kernel
theorem dX6_planMove_49 : decode cX6_planMove 49 = .ok (.aload_n 0, 1) := by decide +kernel
