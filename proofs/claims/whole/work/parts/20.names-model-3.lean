theorem dX7_asks_30 : decode cX7_asks 30 = .ok (.getfield 98, 3) := by decide +kernel
theorem dX7_asks_33 : decode cX7_asks 33 = .ok (.ifCond .ne 7, 3) := by decide +kernel
theorem dX7_asks_36 : decode cX7_asks 36 = .ok (.iconst 1, 1) := by decide +kernel
theorem dX7_asks_37 : decode cX7_asks 37 = .ok (.goto 4, 3) := by decide +kernel
theorem dX7_asks_40 : decode cX7_asks 40 = .ok (.iconst 0, 1) := by decide +kernel
theorem dX7_asks_41 : decode cX7_asks 41 = .ok (.ireturn, 1) := by decide +kernel
abbrev cX7_forecast : ByteArray := prog_9_method_28_code
def yX7_forecast : MethodName := ⟨RX7, "forecast", "(I)J"⟩
abbrev wX7_forecast : Cond := .code yX7_forecast cX7_forecast 2 (some .long)
theorem kX7_forecast : wX7_forecast ∈ wG := mG 891 (by decide +kernel) rfl
theorem dX7_forecast_0 : decode cX7_forecast 0 = .ok (.aload_n 0, 1) := by decide +kernel
theorem dX7_forecast_1 : decode cX7_forecast 1 = .ok (.iload_n 1, 1) := by decide +kernel
theorem dX7_forecast_2 : decode cX7_forecast 2 = .ok (.invokevirtual 156, 3) := by decide +kernel
theorem dX7_forecast_5 : decode cX7_forecast 5 = .ok (.ifCond .eq 11, 3) := by decide +kernel
theorem dX7_forecast_8 : decode cX7_forecast 8 = .ok (.aload_n 0, 1) := by decide +kernel
theorem dX7_forecast_9 : decode cX7_forecast 9 = .ok (.iload_n 1, 1) := by decide +kernel
theorem dX7_forecast_10 : decode cX7_forecast 10 = .ok (.invokevirtual 152, 3) := by decide +kernel
theorem dX7_forecast_13 : decode cX7_forecast 13 = .ok (.goto 4, 3) := by decide +kernel
theorem dX7_forecast_16 : decode cX7_forecast 16 = .ok (.lconst 0, 1) := by decide +kernel
theorem dX7_forecast_17 : decode cX7_forecast 17 = .ok (.lreturn, 1) := by decide +kernel
abbrev cX7_limit : ByteArray := prog_9_method_29_code
def yX7_limit : MethodName := ⟨RX7, "limit", "(I)I"⟩
abbrev wX7_limit : Cond := .code yX7_limit cX7_limit 4 (some .int)
theorem kX7_limit : wX7_limit ∈ wG := mG 921 (by decide +kernel) rfl
theorem dX7_limit_0 : decode cX7_limit 0 = .ok (.aload_n 0, 1) := by decide +kernel
theorem dX7_limit_1 : decode cX7_limit 1 = .ok (.iload_n 1, 1) := by decide +kernel
theorem dX7_limit_2 : decode cX7_limit 2 = .ok (.invokevirtual 159, 3) := by decide +kernel
theorem dX7_limit_5 : decode cX7_limit 5 = .ok (.lstore_n 2, 1) := by decide +kernel
theorem dX7_limit_6 : decode cX7_limit 6 = .ok (.lload_n 2, 1) := by decide +kernel
theorem dX7_limit_7 : decode cX7_limit 7 = .ok (.aload_n 0, 1) := by decide +kernel
theorem dX7_limit_8 : decode cX7_limit 8 = .ok (.getfield 7, 3) := by decide +kernel
theorem dX7_limit_11 : decode cX7_limit 11 = .ok (.iload_n 1, 1) := by decide +kernel
theorem dX7_limit_12 : decode cX7_limit 12 = .ok (.iaload, 1) := by decide +kernel
theorem dX7_limit_13 : decode cX7_limit 13 = .ok (.i2l, 1) := by decide +kernel
theorem dX7_limit_14 : decode cX7_limit 14 = .ok (.lcmp, 1) := by decide +kernel
theorem dX7_limit_15 : decode cX7_limit 15 = .ok (.ifCond .le 12, 3) := by decide +kernel
theorem dX7_limit_18 : decode cX7_limit 18 = .ok (.aload_n 0, 1) := by decide +kernel
theorem dX7_limit_19 : decode cX7_limit 19 = .ok (.getfield 7, 3) := by decide +kernel
theorem dX7_limit_22 : decode cX7_limit 22 = .ok (.iload_n 1, 1) := by decide +kernel
theorem dX7_limit_23 : decode cX7_limit 23 = .ok (.iaload, 1) := by decide +kernel
theorem dX7_limit_24 : decode cX7_limit 24 = .ok (.goto 5, 3) := by decide +kernel
theorem dX7_limit_27 : decode cX7_limit 27 = .ok (.lload_n 2, 1) := by decide +kernel
theorem dX7_limit_28 : decode cX7_limit 28 = .ok (.l2i, 1) := by decide +kernel
theorem dX7_limit_29 : decode cX7_limit 29 = .ok (.ireturn, 1) := by decide +kernel
abbrev cX7_threshold : ByteArray := prog_9_method_30_code
def yX7_threshold : MethodName := ⟨RX7, "threshold", "(I)I"⟩
abbrev wX7_threshold : Cond := .code yX7_threshold cX7_threshold 2 (some .int)
theorem kX7_threshold : wX7_threshold ∈ wG := mG 917 (by decide +kernel) rfl
theorem dX7_threshold_0 : decode cX7_threshold 0 = .ok (.aload_n 0, 1) := by decide +kernel
theorem dX7_threshold_1 : decode cX7_threshold 1 = .ok (.iload_n 1, 1) := by decide +kernel
theorem dX7_threshold_2 : decode cX7_threshold 2 = .ok (.invokevirtual 156, 3) := by decide +kernel
theorem dX7_threshold_5 : decode cX7_threshold 5 = .ok (.ifCond .eq 11, 3) := by decide +kernel
theorem dX7_threshold_8 : decode cX7_threshold 8 = .ok (.aload_n 0, 1) := by decide +kernel
theorem dX7_threshold_9 : decode cX7_threshold 9 = .ok (.iload_n 1, 1) := by decide +kernel
theorem dX7_threshold_10 : decode cX7_threshold 10 = .ok (.invokevirtual 162, 3) := by decide +kernel
theorem dX7_threshold_13 : decode cX7_threshold 13 = .ok (.goto 4, 3) := by decide +kernel
theorem dX7_threshold_16 : decode cX7_threshold 16 = .ok (.iconst 0, 1) := by decide +kernel
theorem dX7_threshold_17 : decode cX7_threshold 17 = .ok (.ireturn, 1) := by decide +kernel
abbrev cX7_above : ByteArray := prog_9_method_31_code
def yX7_above : MethodName := ⟨RX7, "above", "(I)Z"⟩
abbrev wX7_above : Cond := .code yX7_above cX7_above 2 (some .boolean)
theorem kX7_above : wX7_above ∈ wG := mG 929 (by decide +kernel) rfl
theorem dX7_above_0 : decode cX7_above 0 = .ok (.aload_n 0, 1) := by decide +kernel
theorem dX7_above_1 : decode cX7_above 1 = .ok (.iload_n 1, 1) := by decide +kernel
theorem dX7_above_2 : decode cX7_above 2 = .ok (.invokevirtual 156, 3) := by decide +kernel
theorem dX7_above_5 : decode cX7_above 5 = .ok (.ifCond .eq 23, 3) := by decide +kernel
theorem dX7_above_8 : decode cX7_above 8 = .ok (.aload_n 0, 1) := by decide +kernel
theorem dX7_above_9 : decode cX7_above 9 = .ok (.iload_n 1, 1) := by decide +kernel
theorem dX7_above_10 : decode cX7_above 10 = .ok (.invokevirtual 159, 3) := by decide +kernel
theorem dX7_above_13 : decode cX7_above 13 = .ok (.aload_n 0, 1) := by decide +kernel
theorem dX7_above_14 : decode cX7_above 14 = .ok (.getfield 7, 3) := by decide +kernel
theorem dX7_above_17 : decode cX7_above 17 = .ok (.iload_n 1, 1) := by decide +kernel
theorem dX7_above_18 : decode cX7_above 18 = .ok (.iaload, 1) := by decide +kernel
theorem dX7_above_19 : decode cX7_above 19 = .ok (.i2l, 1) := by decide +kernel
theorem dX7_above_20 : decode cX7_above 20 = .ok (.lcmp, 1) := by decide +kernel
theorem dX7_above_21 : decode cX7_above 21 = .ok (.ifCond .le 7, 3) := by decide +kernel
theorem dX7_above_24 : decode cX7_above 24 = .ok (.iconst 1, 1) := by decide +kernel
theorem dX7_above_25 : decode cX7_above 25 = .ok (.goto 4, 3) := by decide +kernel
theorem dX7_above_28 : decode cX7_above 28 = .ok (.iconst 0, 1) := by decide +kernel
theorem dX7_above_29 : decode cX7_above 29 = .ok (.ireturn, 1) := by decide +kernel
abbrev cX7_missing : ByteArray := prog_9_method_32_code
def yX7_missing : MethodName := ⟨RX7, "missing", "(I)I"⟩
abbrev wX7_missing : Cond := .code yX7_missing cX7_missing 8 (some .int)
theorem kX7_missing : wX7_missing ∈ wG := mG 941 (by decide +kernel) rfl
theorem dX7_missing_0 : decode cX7_missing 0 = .ok (.aload_n 0, 1) := by decide +kernel
theorem dX7_missing_1 : decode cX7_missing 1 = .ok (.iload_n 1, 1) := by decide +kernel
theorem dX7_missing_2 : decode cX7_missing 2 = .ok (.invokevirtual 162, 3) := by decide +kernel
theorem dX7_missing_5 : decode cX7_missing 5 = .ok (.istore_n 2, 1) := by decide +kernel
theorem dX7_missing_6 : decode cX7_missing 6 = .ok (.aload_n 0, 1) := by decide +kernel
theorem dX7_missing_7 : decode cX7_missing 7 = .ok (.getfield 25, 3) := by decide +kernel
theorem dX7_missing_10 : decode cX7_missing 10 = .ok (.iload_n 1, 1) := by decide +kernel
theorem dX7_missing_11 : decode cX7_missing 11 = .ok (.baload, 1) := by decide +kernel
theorem dX7_missing_12 : decode cX7_missing 12 = .ok (.ifCond .eq 13, 3) := by decide +kernel
theorem dX7_missing_15 : decode cX7_missing 15 = .ok (.aload_n 0, 1) := by decide +kernel
theorem dX7_missing_16 : decode cX7_missing 16 = .ok (.getfield 16, 3) := by decide +kernel
theorem dX7_missing_19 : decode cX7_missing 19 = .ok (.iload_n 1, 1) := by decide +kernel
theorem dX7_missing_20 : decode cX7_missing 20 = .ok (.iaload, 1) := by decide +kernel
theorem dX7_missing_21 : decode cX7_missing 21 = .ok (.iload_n 2, 1) := by decide +kernel
theorem dX7_missing_22 : decode cX7_missing 22 = .ok (.if_icmp .lt 5, 3) := by decide +kernel
theorem dX7_missing_25 : decode cX7_missing 25 = .ok (.iconst 0, 1) := by decide +kernel
theorem dX7_missing_26 : decode cX7_missing 26 = .ok (.ireturn, 1) := by decide +kernel
theorem dX7_missing_27 : decode cX7_missing 27 = .ok (.aload_n 0, 1) := by decide +kernel
theorem dX7_missing_28 : decode cX7_missing 28 = .ok (.getfield 35, 3) := by decide +kernel
theorem dX7_missing_31 : decode cX7_missing 31 = .ok (.iload_n 1, 1) := by decide +kernel
theorem dX7_missing_32 : decode cX7_missing 32 = .ok (.iaload, 1) := by decide +kernel
theorem dX7_missing_33 : decode cX7_missing 33 = .ok (.iload_n 2, 1) := by decide +kernel
theorem dX7_missing_34 : decode cX7_missing 34 = .ok (.if_icmp .le 12, 3) := by decide +kernel
theorem dX7_missing_37 : decode cX7_missing 37 = .ok (.aload_n 0, 1) := by decide +kernel
theorem dX7_missing_38 : decode cX7_missing 38 = .ok (.getfield 35, 3) := by decide +kernel
theorem dX7_missing_41 : decode cX7_missing 41 = .ok (.iload_n 1, 1) := by decide +kernel
theorem dX7_missing_42 : decode cX7_missing 42 = .ok (.iaload, 1) := by decide +kernel
theorem dX7_missing_43 : decode cX7_missing 43 = .ok (.goto 4, 3) := by decide +kernel
theorem dX7_missing_46 : decode cX7_missing 46 = .ok (.iload_n 2, 1) := by decide +kernel
theorem dX7_missing_47 : decode cX7_missing 47 = .ok (.istore_n 3, 1) := by decide +kernel
theorem dX7_missing_48 : decode cX7_missing 48 = .ok (.iload_n 3, 1) := by decide +kernel
theorem dX7_missing_49 : decode cX7_missing 49 = .ok (.aload_n 0, 1) := by decide +kernel
theorem dX7_missing_50 : decode cX7_missing 50 = .ok (.getfield 7, 3) := by decide +kernel
theorem dX7_missing_53 : decode cX7_missing 53 = .ok (.iload_n 1, 1) := by decide +kernel
theorem dX7_missing_54 : decode cX7_missing 54 = .ok (.iaload, 1) := by decide +kernel
theorem dX7_missing_55 : decode cX7_missing 55 = .ok (.if_icmp .le 12, 3) := by decide +kernel
theorem dX7_missing_58 : decode cX7_missing 58 = .ok (.aload_n 0, 1) := by decide +kernel
theorem dX7_missing_59 : decode cX7_missing 59 = .ok (.getfield 7, 3) := by decide +kernel
theorem dX7_missing_62 : decode cX7_missing 62 = .ok (.iload_n 1, 1) := by decide +kernel
theorem dX7_missing_63 : decode cX7_missing 63 = .ok (.iaload, 1) := by decide +kernel
theorem dX7_missing_64 : decode cX7_missing 64 = .ok (.goto 4, 3) := by decide +kernel
theorem dX7_missing_67 : decode cX7_missing 67 = .ok (.iload_n 3, 1) := by decide +kernel
theorem dX7_missing_68 : decode cX7_missing 68 = .ok (.istore_n 3, 1) := by decide +kernel
theorem dX7_missing_69 : decode cX7_missing 69 = .ok (.aload_n 0, 1) := by decide +kernel
theorem dX7_missing_70 : decode cX7_missing 70 = .ok (.getfield 38, 3) := by decide +kernel
theorem dX7_missing_73 : decode cX7_missing 73 = .ok (.aload_n 0, 1) := by decide +kernel
theorem dX7_missing_74 : decode cX7_missing 74 = .ok (.getfield 29, 3) := by decide +kernel
theorem dX7_missing_77 : decode cX7_missing 77 = .ok (.iload_n 1, 1) := by decide +kernel
theorem dX7_missing_78 : decode cX7_missing 78 = .ok (.iaload, 1) := by decide +kernel
theorem dX7_missing_79 : decode cX7_missing 79 = .ok (.iaload, 1) := by decide +kernel
theorem dX7_missing_80 : decode cX7_missing 80 = .ok (.istore 4, 2) := by decide +kernel
theorem dX7_missing_82 : decode cX7_missing 82 = .ok (.iload_n 3, 1) := by decide +kernel
theorem dX7_missing_83 : decode cX7_missing 83 = .ok (.aload_n 0, 1) := by decide +kernel
theorem dX7_missing_84 : decode cX7_missing 84 = .ok (.getfield 16, 3) := by decide +kernel
theorem dX7_missing_87 : decode cX7_missing 87 = .ok (.iload_n 1, 1) := by decide +kernel
theorem dX7_missing_88 : decode cX7_missing 88 = .ok (.iaload, 1) := by decide +kernel
theorem dX7_missing_89 : decode cX7_missing 89 = .ok (.isub, 1) := by decide +kernel
theorem dX7_missing_90 : decode cX7_missing 90 = .ok (.istore 5, 2) := by decide +kernel
theorem dX7_missing_92 : decode cX7_missing 92 = .ok (.iload 5, 2) := by decide +kernel
theorem dX7_missing_94 : decode cX7_missing 94 = .ok (.iload 4, 2) := by decide +kernel
theorem dX7_missing_96 : decode cX7_missing 96 = .ok (.idiv, 1) := by decide +kernel
theorem dX7_missing_97 : decode cX7_missing 97 = .ok (.istore 6, 2) := by decide +kernel
theorem dX7_missing_99 : decode cX7_missing 99 = .ok (.iload 5, 2) := by decide +kernel
theorem dX7_missing_101 : decode cX7_missing 101 = .ok (.iload 4, 2) := by decide +kernel
theorem dX7_missing_103 : decode cX7_missing 103 = .ok (.irem, 1) := by decide +kernel
theorem dX7_missing_104 : decode cX7_missing 104 = .ok (.ifCond .le 30, 3) := by decide +kernel
theorem dX7_missing_107 : decode cX7_missing 107 = .ok (.aload_n 0, 1) := by decide +kernel
theorem dX7_missing_108 : decode cX7_missing 108 = .ok (.getfield 16, 3) := by decide +kernel
theorem dX7_missing_111 : decode cX7_missing 111 = .ok (.iload_n 1, 1) := by decide +kernel
theorem dX7_missing_112 : decode cX7_missing 112 = .ok (.iaload, 1) := by decide +kernel
theorem dX7_missing_113 : decode cX7_missing 113 = .ok (.iload 6, 2) := by decide +kernel
theorem dX7_missing_115 : decode cX7_missing 115 = .ok (.iconst 1, 1) := by decide +kernel
theorem dX7_missing_116 : decode cX7_missing 116 = .ok (.iadd, 1) := by decide +kernel
theorem dX7_missing_117 : decode cX7_missing 117 = .ok (.iload 4, 2) := by decide +kernel
theorem dX7_missing_119 : decode cX7_missing 119 = .ok (.imul, 1) := by decide +kernel
theorem dX7_missing_120 : decode cX7_missing 120 = .ok (.iadd, 1) := by decide +kernel
theorem dX7_missing_121 : decode cX7_missing 121 = .ok (.aload_n 0, 1) := by decide +kernel
theorem dX7_missing_122 : decode cX7_missing 122 = .ok (.getfield 7, 3) := by decide +kernel
theorem dX7_missing_125 : decode cX7_missing 125 = .ok (.iload_n 1, 1) := by decide +kernel
theorem dX7_missing_126 : decode cX7_missing 126 = .ok (.iaload, 1) := by decide +kernel
theorem dX7_missing_127 : decode cX7_missing 127 = .ok (.if_icmp .gt 7, 3) := by decide +kernel
theorem dX7_missing_130 : decode cX7_missing 130 = .ok (.iconst 1, 1) := by decide +kernel
theorem dX7_missing_131 : decode cX7_missing 131 = .ok (.goto 4, 3) := by decide +kernel
theorem dX7_missing_134 : decode cX7_missing 134 = .ok (.iconst 0, 1) := by decide +kernel
theorem dX7_missing_135 : decode cX7_missing 135 = .ok (.istore 7, 2) := by decide +kernel
theorem dX7_missing_137 : decode cX7_missing 137 = .ok (.iload 7, 2) := by decide +kernel
theorem dX7_missing_139 : decode cX7_missing 139 = .ok (.ifCond .eq 10, 3) := by decide +kernel
theorem dX7_missing_142 : decode cX7_missing 142 = .ok (.iload 6, 2) := by decide +kernel
theorem dX7_missing_144 : decode cX7_missing 144 = .ok (.iconst 1, 1) := by decide +kernel
theorem dX7_missing_145 : decode cX7_missing 145 = .ok (.iadd, 1) := by decide +kernel
theorem dX7_missing_146 : decode cX7_missing 146 = .ok (.goto 5, 3) := by decide +kernel
theorem dX7_missing_149 : decode cX7_missing 149 = .ok (.iload 6, 2) := by decide +kernel
theorem dX7_missing_151 : decode cX7_missing 151 = .ok (.iload 4, 2) := by decide +kernel
theorem dX7_missing_153 : decode cX7_missing 153 = .ok (.imul, 1) := by decide +kernel
theorem dX7_missing_154 : decode cX7_missing 154 = .ok (.ireturn, 1) := by decide +kernel
abbrev cX7_needTime : ByteArray := prog_9_method_33_code
def yX7_needTime : MethodName := ⟨RX7, "needTime", "(I)I"⟩
abbrev wX7_needTime : Cond := .code yX7_needTime cX7_needTime 3 (some .int)
theorem kX7_needTime : wX7_needTime ∈ wG := mG 945 (by decide +kernel) rfl
theorem dX7_needTime_0 : decode cX7_needTime 0 = .ok (.aload_n 0, 1) := by decide +kernel
theorem dX7_needTime_1 : decode cX7_needTime 1 = .ok (.iload_n 1, 1) := by decide +kernel
theorem dX7_needTime_2 : decode cX7_needTime 2 = .ok (.bipush 28, 2) := by decide +kernel
theorem dX7_needTime_4 : decode cX7_needTime 4 = .ok (.iconst 1, 1) := by decide +kernel
theorem dX7_needTime_5 : decode cX7_needTime 5 = .ok (.invokevirtual 132, 3) := by decide +kernel
theorem dX7_needTime_8 : decode cX7_needTime 8 = .ok (.istore_n 2, 1) := by decide +kernel
theorem dX7_needTime_9 : decode cX7_needTime 9 = .ok (.iload_n 2, 1) := by decide +kernel
theorem dX7_needTime_10 : decode cX7_needTime 10 = .ok (.ifCond .ne 9, 3) := by decide +kernel
theorem dX7_needTime_13 : decode cX7_needTime 13 = .ok (.sipush 9999, 3) := by decide +kernel
theorem dX7_needTime_16 : decode cX7_needTime 16 = .ok (.goto 22, 3) := by decide +kernel
theorem dX7_needTime_19 : decode cX7_needTime 19 = .ok (.aload_n 0, 1) := by decide +kernel
theorem dX7_needTime_20 : decode cX7_needTime 20 = .ok (.getfield 16, 3) := by decide +kernel
theorem dX7_needTime_23 : decode cX7_needTime 23 = .ok (.iload_n 1, 1) := by decide +kernel
theorem dX7_needTime_24 : decode cX7_needTime 24 = .ok (.iaload, 1) := by decide +kernel
theorem dX7_needTime_25 : decode cX7_needTime 25 = .ok (.i2l, 1) := by decide +kernel
theorem dX7_needTime_26 : decode cX7_needTime 26 = .ok (.aload_n 0, 1) := by decide +kernel
theorem dX7_needTime_27 : decode cX7_needTime 27 = .ok (.bipush 28, 2) := by decide +kernel
theorem dX7_needTime_29 : decode cX7_needTime 29 = .ok (.invokevirtual 129, 3) := by decide +kernel
theorem dX7_needTime_32 : decode cX7_needTime 32 = .ok (.i2l, 1) := by decide +kernel
theorem dX7_needTime_33 : decode cX7_needTime 33 = .ok (.lmul, 1) := by decide +kernel
theorem dX7_needTime_34 : decode cX7_needTime 34 = .ok (.iload_n 2, 1) := by decide +kernel
theorem dX7_needTime_35 : decode cX7_needTime 35 = .ok (.i2l, 1) := by decide +kernel
theorem dX7_needTime_36 : decode cX7_needTime 36 = .ok (.ldiv, 1) := by decide +kernel
theorem dX7_needTime_37 : decode cX7_needTime 37 = .ok (.l2i, 1) := by decide +kernel
theorem dX7_needTime_38 : decode cX7_needTime 38 = .ok (.ireturn, 1) := by decide +kernel
abbrev cX7_next : ByteArray := prog_9_method_34_code
def yX7_next : MethodName := ⟨RX7, "next", "()I"⟩
abbrev wX7_next : Cond := .code yX7_next cX7_next 4 (some .int)
theorem kX7_next : wX7_next ∈ wG := mG 937 (by decide +kernel) rfl
theorem dX7_next_0 : decode cX7_next 0 = .ok (.iconst (-1), 1) := by decide +kernel
theorem dX7_next_1 : decode cX7_next 1 = .ok (.istore_n 1, 1) := by decide +kernel
theorem dX7_next_2 : decode cX7_next 2 = .ok (.iconst 0, 1) := by decide +kernel
theorem dX7_next_3 : decode cX7_next 3 = .ok (.istore_n 2, 1) := by decide +kernel
theorem dX7_next_4 : decode cX7_next 4 = .ok (.iload_n 2, 1) := by decide +kernel
theorem dX7_next_5 : decode cX7_next 5 = .ok (.bipush 16, 2) := by decide +kernel
theorem dX7_next_7 : decode cX7_next 7 = .ok (.if_icmp .ge 69, 3) := by decide +kernel
theorem dX7_next_10 : decode cX7_next 10 = .ok (.aload_n 0, 1) := by decide +kernel
theorem dX7_next_11 : decode cX7_next 11 = .ok (.getfield 25, 3) := by decide +kernel
theorem dX7_next_14 : decode cX7_next 14 = .ok (.iload_n 2, 1) := by decide +kernel
theorem dX7_next_15 : decode cX7_next 15 = .ok (.baload, 1) := by decide +kernel
theorem dX7_next_16 : decode cX7_next 16 = .ok (.ifCond .eq 24, 3) := by decide +kernel
theorem dX7_next_19 : decode cX7_next 19 = .ok (.aload_n 0, 1) := by decide +kernel
theorem dX7_next_20 : decode cX7_next 20 = .ok (.getfield 95, 3) := by decide +kernel
theorem dX7_next_23 : decode cX7_next 23 = .ok (.iload_n 2, 1) := by decide +kernel
theorem dX7_next_24 : decode cX7_next 24 = .ok (.baload, 1) := by decide +kernel
theorem dX7_next_25 : decode cX7_next 25 = .ok (.ifCond .ne 15, 3) := by decide +kernel
theorem dX7_next_28 : decode cX7_next 28 = .ok (.aload_n 0, 1) := by decide +kernel
theorem dX7_next_29 : decode cX7_next 29 = .ok (.iload_n 2, 1) := by decide +kernel
theorem dX7_next_30 : decode cX7_next 30 = .ok (.invokevirtual 165, 3) := by decide +kernel
theorem dX7_next_33 : decode cX7_next 33 = .ok (.ifCond .le 7, 3) := by decide +kernel
theorem dX7_next_36 : decode cX7_next 36 = .ok (.iconst 1, 1) := by decide +kernel
theorem dX7_next_37 : decode cX7_next 37 = .ok (.goto 4, 3) := by decide +kernel
theorem dX7_next_40 : decode cX7_next 40 = .ok (.iconst 0, 1) := by decide +kernel
theorem dX7_next_41 : decode cX7_next 41 = .ok (.istore_n 3, 1) := by decide +kernel
theorem dX7_next_42 : decode cX7_next 42 = .ok (.iload_n 3, 1) := by decide +kernel
theorem dX7_next_43 : decode cX7_next 43 = .ok (.ifCond .eq 25, 3) := by decide +kernel
theorem dX7_next_46 : decode cX7_next 46 = .ok (.iload_n 1, 1) := by decide +kernel
theorem dX7_next_47 : decode cX7_next 47 = .ok (.iconst (-1), 1) := by decide +kernel
theorem dX7_next_48 : decode cX7_next 48 = .ok (.if_icmp .eq 16, 3) := by decide +kernel
theorem dX7_next_51 : decode cX7_next 51 = .ok (.aload_n 0, 1) := by decide +kernel
theorem dX7_next_52 : decode cX7_next 52 = .ok (.iload_n 2, 1) := by decide +kernel
theorem dX7_next_53 : decode cX7_next 53 = .ok (.invokevirtual 168, 3) := by decide +kernel
theorem dX7_next_56 : decode cX7_next 56 = .ok (.aload_n 0, 1) := by decide +kernel
theorem dX7_next_57 : decode cX7_next 57 = .ok (.iload_n 1, 1) := by decide +kernel
theorem dX7_next_58 : decode cX7_next 58 = .ok (.invokevirtual 168, 3) := by decide +kernel
theorem dX7_next_61 : decode cX7_next 61 = .ok (.if_icmp .ge 7, 3) := by decide +kernel
theorem dX7_next_64 : decode cX7_next 64 = .ok (.iload_n 2, 1) := by decide +kernel
theorem dX7_next_65 : decode cX7_next 65 = .ok (.goto 4, 3) := by decide +kernel
theorem dX7_next_68 : decode cX7_next 68 = .ok (.iload_n 1, 1) := by decide +kernel
theorem dX7_next_69 : decode cX7_next 69 = .ok (.istore_n 1, 1) := by decide +kernel
theorem dX7_next_70 : decode cX7_next 70 = .ok (.iinc 2 1, 3) := by decide +kernel
theorem dX7_next_73 : decode cX7_next 73 = .ok (.goto (-69), 3) := by decide +kernel
theorem dX7_next_76 : decode cX7_next 76 = .ok (.iload_n 1, 1) := by decide +kernel
theorem dX7_next_77 : decode cX7_next 77 = .ok (.ireturn, 1) := by decide +kernel
abbrev cX7_left : ByteArray := prog_9_method_35_code
def yX7_left : MethodName := ⟨RX7, "left", "(I)I"⟩
abbrev wX7_left : Cond := .code yX7_left cX7_left 2 (some .int)
theorem kX7_left : wX7_left ∈ wG := mG 953 (by decide +kernel) rfl
theorem dX7_left_0 : decode cX7_left 0 = .ok (.aload_n 0, 1) := by decide +kernel
theorem dX7_left_1 : decode cX7_left 1 = .ok (.iload_n 1, 1) := by decide +kernel
theorem dX7_left_2 : decode cX7_left 2 = .ok (.invokevirtual 115, 3) := by decide +kernel
theorem dX7_left_5 : decode cX7_left 5 = .ok (.aload_n 0, 1) := by decide +kernel
theorem dX7_left_6 : decode cX7_left 6 = .ok (.getfield 92, 3) := by decide +kernel
theorem dX7_left_9 : decode cX7_left 9 = .ok (.iload_n 1, 1) := by decide +kernel
theorem dX7_left_10 : decode cX7_left 10 = .ok (.iaload, 1) := by decide +kernel
theorem dX7_left_11 : decode cX7_left 11 = .ok (.isub, 1) := by decide +kernel
theorem dX7_left_12 : decode cX7_left 12 = .ok (.ireturn, 1) := by decide +kernel
abbrev cX7_reserve : ByteArray := prog_9_method_36_code
def yX7_reserve : MethodName := ⟨RX7, "reserve", "(I)I"⟩
abbrev wX7_reserve : Cond := .code yX7_reserve cX7_reserve 6 (some .int)
theorem kX7_reserve : wX7_reserve ∈ wG := mG 949 (by decide +kernel) rfl
theorem dX7_reserve_0 : decode cX7_reserve 0 = .ok (.iconst (-1), 1) := by decide +kernel
theorem dX7_reserve_1 : decode cX7_reserve 1 = .ok (.istore_n 2, 1) := by decide +kernel
theorem dX7_reserve_2 : decode cX7_reserve 2 = .ok (.iconst (-1), 1) := by decide +kernel
theorem dX7_reserve_3 : decode cX7_reserve 3 = .ok (.istore_n 3, 1) := by decide +kernel
theorem dX7_reserve_4 : decode cX7_reserve 4 = .ok (.bipush 15, 2) := by decide +kernel
theorem dX7_reserve_6 : decode cX7_reserve 6 = .ok (.istore 4, 2) := by decide +kernel
theorem dX7_reserve_8 : decode cX7_reserve 8 = .ok (.iload 4, 2) := by decide +kernel
theorem dX7_reserve_10 : decode cX7_reserve 10 = .ok (.ifCond .lt 91, 3) := by decide +kernel
theorem dX7_reserve_13 : decode cX7_reserve 13 = .ok (.aload_n 0, 1) := by decide +kernel
theorem dX7_reserve_14 : decode cX7_reserve 14 = .ok (.getfield 25, 3) := by decide +kernel
theorem dX7_reserve_17 : decode cX7_reserve 17 = .ok (.iload 4, 2) := by decide +kernel
theorem dX7_reserve_19 : decode cX7_reserve 19 = .ok (.baload, 1) := by decide +kernel
theorem dX7_reserve_20 : decode cX7_reserve 20 = .ok (.ifCond .ne 32, 3) := by decide +kernel
theorem dX7_reserve_23 : decode cX7_reserve 23 = .ok (.aload_n 0, 1) := by decide +kernel
theorem dX7_reserve_24 : decode cX7_reserve 24 = .ok (.getfield 19, 3) := by decide +kernel
theorem dX7_reserve_27 : decode cX7_reserve 27 = .ok (.iload 4, 2) := by decide +kernel
theorem dX7_reserve_29 : decode cX7_reserve 29 = .ok (.iaload, 1) := by decide +kernel
theorem dX7_reserve_30 : decode cX7_reserve 30 = .ok (.aload_n 0, 1) := by decide +kernel
theorem dX7_reserve_31 : decode cX7_reserve 31 = .ok (.getfield 29, 3) := by decide +kernel
theorem dX7_reserve_34 : decode cX7_reserve 34 = .ok (.iload_n 1, 1) := by decide +kernel
theorem dX7_reserve_35 : decode cX7_reserve 35 = .ok (.iaload, 1) := by decide +kernel
theorem dX7_reserve_36 : decode cX7_reserve 36 = .ok (.if_icmp .ne 16, 3) := by decide +kernel
theorem dX7_reserve_39 : decode cX7_reserve 39 = .ok (.aload_n 0, 1) := by decide +kernel
theorem dX7_reserve_40 : decode cX7_reserve 40 = .ok (.iload 4, 2) := by decide +kernel
theorem dX7_reserve_42 : decode cX7_reserve 42 = .ok (.invokevirtual 171, 3) := by decide +kernel
theorem dX7_reserve_45 : decode cX7_reserve 45 = .ok (.ifCond .le 7, 3) := by decide +kernel
theorem dX7_reserve_48 : decode cX7_reserve 48 = .ok (.iconst 1, 1) := by decide +kernel
theorem dX7_reserve_49 : decode cX7_reserve 49 = .ok (.goto 4, 3) := by decide +kernel
theorem dX7_reserve_52 : decode cX7_reserve 52 = .ok (.iconst 0, 1) := by decide +kernel
theorem dX7_reserve_53 : decode cX7_reserve 53 = .ok (.istore 5, 2) := by decide +kernel
theorem dX7_reserve_55 : decode cX7_reserve 55 = .ok (.iload 5, 2) := by decide +kernel
theorem dX7_reserve_57 : decode cX7_reserve 57 = .ok (.ifCond .eq 24, 3) := by decide +kernel
theorem dX7_reserve_60 : decode cX7_reserve 60 = .ok (.aload_n 0, 1) := by decide +kernel
theorem dX7_reserve_61 : decode cX7_reserve 61 = .ok (.getfield 13, 3) := by decide +kernel
theorem dX7_reserve_64 : decode cX7_reserve 64 = .ok (.iload 4, 2) := by decide +kernel
theorem dX7_reserve_66 : decode cX7_reserve 66 = .ok (.iaload, 1) := by decide +kernel
theorem dX7_reserve_67 : decode cX7_reserve 67 = .ok (.aload_n 0, 1) := by decide +kernel
theorem dX7_reserve_68 : decode cX7_reserve 68 = .ok (.getfield 13, 3) := by decide +kernel
theorem dX7_reserve_71 : decode cX7_reserve 71 = .ok (.iload_n 1, 1) := by decide +kernel
theorem dX7_reserve_72 : decode cX7_reserve 72 = .ok (.iaload, 1) := by decide +kernel
theorem dX7_reserve_73 : decode cX7_reserve 73 = .ok (.if_icmp .ne 8, 3) := by decide +kernel
theorem dX7_reserve_76 : decode cX7_reserve 76 = .ok (.iload 4, 2) := by decide +kernel
theorem dX7_reserve_78 : decode cX7_reserve 78 = .ok (.goto 4, 3) := by decide +kernel
theorem dX7_reserve_81 : decode cX7_reserve 81 = .ok (.iload_n 2, 1) := by decide +kernel
theorem dX7_reserve_82 : decode cX7_reserve 82 = .ok (.istore_n 2, 1) := by decide +kernel
theorem dX7_reserve_83 : decode cX7_reserve 83 = .ok (.iload 5, 2) := by decide +kernel
theorem dX7_reserve_85 : decode cX7_reserve 85 = .ok (.ifCond .eq 8, 3) := by decide +kernel
theorem dX7_reserve_88 : decode cX7_reserve 88 = .ok (.iload 4, 2) := by decide +kernel
theorem dX7_reserve_90 : decode cX7_reserve 90 = .ok (.goto 4, 3) := by decide +kernel
theorem dX7_reserve_93 : decode cX7_reserve 93 = .ok (.iload_n 3, 1) := by decide +kernel
theorem dX7_reserve_94 : decode cX7_reserve 94 = .ok (.istore_n 3, 1) := by decide +kernel
theorem dX7_reserve_95 : decode cX7_reserve 95 = .ok (.iinc 4 (-1), 3) := by decide +kernel
theorem dX7_reserve_98 : decode cX7_reserve 98 = .ok (.goto (-90), 3) := by decide +kernel
theorem dX7_reserve_101 : decode cX7_reserve 101 = .ok (.iload_n 2, 1) := by decide +kernel
theorem dX7_reserve_102 : decode cX7_reserve 102 = .ok (.iconst (-1), 1) := by decide +kernel
theorem dX7_reserve_103 : decode cX7_reserve 103 = .ok (.if_icmp .eq 7, 3) := by decide +kernel
theorem dX7_reserve_106 : decode cX7_reserve 106 = .ok (.iload_n 2, 1) := by decide +kernel
theorem dX7_reserve_107 : decode cX7_reserve 107 = .ok (.goto 4, 3) := by decide +kernel
theorem dX7_reserve_110 : decode cX7_reserve 110 = .ok (.iload_n 3, 1) := by decide +kernel
theorem dX7_reserve_111 : decode cX7_reserve 111 = .ok (.ireturn, 1) := by decide +kernel
abbrev cX7_plan : ByteArray := prog_9_method_37_code
def yX7_plan : MethodName := ⟨RX7, "plan", "(III)V"⟩
abbrev wX7_plan : Cond := .code yX7_plan cX7_plan 7 none
theorem kX7_plan : wX7_plan ∈ wG := mG 957 (by decide +kernel) rfl
theorem dX7_plan_0 : decode cX7_plan 0 = .ok (.aload_n 0, 1) := by decide +kernel
theorem dX7_plan_1 : decode cX7_plan 1 = .ok (.getfield 92, 3) := by decide +kernel
theorem dX7_plan_4 : decode cX7_plan 4 = .ok (.iload_n 1, 1) := by decide +kernel
theorem dX7_plan_5 : decode cX7_plan 5 = .ok (.dup2, 1) := by decide +kernel
theorem dX7_plan_6 : decode cX7_plan 6 = .ok (.iaload, 1) := by decide +kernel
theorem dX7_plan_7 : decode cX7_plan 7 = .ok (.iload_n 3, 1) := by decide +kernel
theorem dX7_plan_8 : decode cX7_plan 8 = .ok (.iadd, 1) := by decide +kernel
theorem dX7_plan_9 : decode cX7_plan 9 = .ok (.iastore, 1) := by decide +kernel
theorem dX7_plan_10 : decode cX7_plan 10 = .ok (.aload_n 0, 1) := by decide +kernel
theorem dX7_plan_11 : decode cX7_plan 11 = .ok (.getfield 71, 3) := by decide +kernel
theorem dX7_plan_14 : decode cX7_plan 14 = .ok (.aload_n 0, 1) := by decide +kernel
theorem dX7_plan_15 : decode cX7_plan 15 = .ok (.getfield 174, 3) := by decide +kernel
theorem dX7_plan_18 : decode cX7_plan 18 = .ok (.iload_n 1, 1) := by decide +kernel
theorem dX7_plan_19 : decode cX7_plan 19 = .ok (.iastore, 1) := by decide +kernel
theorem dX7_plan_20 : decode cX7_plan 20 = .ok (.aload_n 0, 1) := by decide +kernel
theorem dX7_plan_21 : decode cX7_plan 21 = .ok (.getfield 74, 3) := by decide +kernel
theorem dX7_plan_24 : decode cX7_plan 24 = .ok (.aload_n 0, 1) := by decide +kernel
theorem dX7_plan_25 : decode cX7_plan 25 = .ok (.getfield 174, 3) := by decide +kernel
theorem dX7_plan_28 : decode cX7_plan 28 = .ok (.iload_n 2, 1) := by decide +kernel
theorem dX7_plan_29 : decode cX7_plan 29 = .ok (.iastore, 1) := by decide +kernel
theorem dX7_plan_30 : decode cX7_plan 30 = .ok (.aload_n 0, 1) := by decide +kernel
theorem dX7_plan_31 : decode cX7_plan 31 = .ok (.getfield 77, 3) := by decide +kernel
theorem dX7_plan_34 : decode cX7_plan 34 = .ok (.aload_n 0, 1) := by decide +kernel
theorem dX7_plan_35 : decode cX7_plan 35 = .ok (.getfield 174, 3) := by decide +kernel
theorem dX7_plan_38 : decode cX7_plan 38 = .ok (.iload_n 3, 1) := by decide +kernel
theorem dX7_plan_39 : decode cX7_plan 39 = .ok (.iastore, 1) := by decide +kernel
theorem dX7_plan_40 : decode cX7_plan 40 = .ok (.aload_n 0, 1) := by decide +kernel
theorem dX7_plan_41 : decode cX7_plan 41 = .ok (.getfield 80, 3) := by decide +kernel
theorem dX7_plan_44 : decode cX7_plan 44 = .ok (.aload_n 0, 1) := by decide +kernel
theorem dX7_plan_45 : decode cX7_plan 45 = .ok (.getfield 174, 3) := by decide +kernel
theorem dX7_plan_48 : decode cX7_plan 48 = .ok (.aload_n 0, 1) := by decide +kernel
theorem dX7_plan_49 : decode cX7_plan 49 = .ok (.iload_n 2, 1) := by decide +kernel
theorem dX7_plan_50 : decode cX7_plan 50 = .ok (.invokevirtual 168, 3) := by decide +kernel
theorem dX7_plan_53 : decode cX7_plan 53 = .ok (.iastore, 1) := by decide +kernel
theorem dX7_plan_54 : decode cX7_plan 54 = .ok (.aload_n 0, 1) := by decide +kernel
theorem dX7_plan_55 : decode cX7_plan 55 = .ok (.getfield 86, 3) := by decide +kernel
theorem dX7_plan_58 : decode cX7_plan 58 = .ok (.aload_n 0, 1) := by decide +kernel
theorem dX7_plan_59 : decode cX7_plan 59 = .ok (.getfield 174, 3) := by decide +kernel
theorem dX7_plan_62 : decode cX7_plan 62 = .ok (.aload_n 0, 1) := by decide +kernel
theorem dX7_plan_63 : decode cX7_plan 63 = .ok (.iload_n 1, 1) := by decide +kernel
theorem dX7_plan_64 : decode cX7_plan 64 = .ok (.invokevirtual 171, 3) := by decide +kernel
theorem dX7_plan_67 : decode cX7_plan 67 = .ok (.ifCond .ne 7, 3) := by decide +kernel
theorem dX7_plan_70 : decode cX7_plan 70 = .ok (.iconst 1, 1) := by decide +kernel
theorem dX7_plan_71 : decode cX7_plan 71 = .ok (.goto 4, 3) := by decide +kernel
theorem dX7_plan_74 : decode cX7_plan 74 = .ok (.iconst 0, 1) := by decide +kernel
theorem dX7_plan_75 : decode cX7_plan 75 = .ok (.bastore, 1) := by decide +kernel
theorem dX7_plan_76 : decode cX7_plan 76 = .ok (.aload_n 0, 1) := by decide +kernel
theorem dX7_plan_77 : decode cX7_plan 77 = .ok (.getfield 89, 3) := by decide +kernel
theorem dX7_plan_80 : decode cX7_plan 80 = .ok (.aload_n 0, 1) := by decide +kernel
theorem dX7_plan_81 : decode cX7_plan 81 = .ok (.getfield 174, 3) := by decide +kernel
theorem dX7_plan_84 : decode cX7_plan 84 = .ok (.iconst 0, 1) := by decide +kernel
theorem dX7_plan_85 : decode cX7_plan 85 = .ok (.bastore, 1) := by decide +kernel
theorem dX7_plan_86 : decode cX7_plan 86 = .ok (.aload_n 0, 1) := by decide +kernel
theorem dX7_plan_87 : decode cX7_plan 87 = .ok (.getfield 174, 3) := by decide +kernel
theorem dX7_plan_90 : decode cX7_plan 90 = .ok (.ifCond .ne 7, 3) := by decide +kernel
theorem dX7_plan_93 : decode cX7_plan 93 = .ok (.iconst 0, 1) := by decide +kernel
theorem dX7_plan_94 : decode cX7_plan 94 = .ok (.goto 14, 3) := by decide +kernel
theorem dX7_plan_97 : decode cX7_plan 97 = .ok (.aload_n 0, 1) := by decide +kernel
theorem dX7_plan_98 : decode cX7_plan 98 = .ok (.getfield 83, 3) := by decide +kernel
theorem dX7_plan_101 : decode cX7_plan 101 = .ok (.aload_n 0, 1) := by decide +kernel
theorem dX7_plan_102 : decode cX7_plan 102 = .ok (.getfield 174, 3) := by decide +kernel
theorem dX7_plan_105 : decode cX7_plan 105 = .ok (.iconst 1, 1) := by decide +kernel
