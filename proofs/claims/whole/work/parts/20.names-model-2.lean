theorem dX7_sum_16 : decode cX7_sum 16 = .ok (.iload 5, 2) := by decide +kernel
theorem dX7_sum_18 : decode cX7_sum 18 = .ok (.aload_n 0, 1) := by decide +kernel
theorem dX7_sum_19 : decode cX7_sum 19 = .ok (.getfield 123, 3) := by decide +kernel
theorem dX7_sum_22 : decode cX7_sum 22 = .ok (.iload_n 2, 1) := by decide +kernel
theorem dX7_sum_23 : decode cX7_sum 23 = .ok (.isub, 1) := by decide +kernel
theorem dX7_sum_24 : decode cX7_sum 24 = .ok (.if_icmp .lt 45, 3) := by decide +kernel
theorem dX7_sum_27 : decode cX7_sum 27 = .ok (.iload 4, 2) := by decide +kernel
theorem dX7_sum_29 : decode cX7_sum 29 = .ok (.iload_n 3, 1) := by decide +kernel
theorem dX7_sum_30 : decode cX7_sum 30 = .ok (.ifCond .eq 17, 3) := by decide +kernel
theorem dX7_sum_33 : decode cX7_sum 33 = .ok (.aload_n 0, 1) := by decide +kernel
theorem dX7_sum_34 : decode cX7_sum 34 = .ok (.getfield 41, 3) := by decide +kernel
theorem dX7_sum_37 : decode cX7_sum 37 = .ok (.iload 5, 2) := by decide +kernel
theorem dX7_sum_39 : decode cX7_sum 39 = .ok (.baload, 1) := by decide +kernel
theorem dX7_sum_40 : decode cX7_sum 40 = .ok (.ifCond .eq 7, 3) := by decide +kernel
theorem dX7_sum_43 : decode cX7_sum 43 = .ok (.iconst 0, 1) := by decide +kernel
theorem dX7_sum_44 : decode cX7_sum 44 = .ok (.goto 16, 3) := by decide +kernel
theorem dX7_sum_47 : decode cX7_sum 47 = .ok (.aload_n 0, 1) := by decide +kernel
theorem dX7_sum_48 : decode cX7_sum 48 = .ok (.getfield 44, 3) := by decide +kernel
theorem dX7_sum_51 : decode cX7_sum 51 = .ok (.sipush 400, 3) := by decide +kernel
theorem dX7_sum_54 : decode cX7_sum 54 = .ok (.iload_n 1, 1) := by decide +kernel
theorem dX7_sum_55 : decode cX7_sum 55 = .ok (.imul, 1) := by decide +kernel
theorem dX7_sum_56 : decode cX7_sum 56 = .ok (.iload 5, 2) := by decide +kernel
theorem dX7_sum_58 : decode cX7_sum 58 = .ok (.iadd, 1) := by decide +kernel
theorem dX7_sum_59 : decode cX7_sum 59 = .ok (.iaload, 1) := by decide +kernel
theorem dX7_sum_60 : decode cX7_sum 60 = .ok (.iadd, 1) := by decide +kernel
theorem dX7_sum_61 : decode cX7_sum 61 = .ok (.istore 4, 2) := by decide +kernel
theorem dX7_sum_63 : decode cX7_sum 63 = .ok (.iinc 5 (-1), 3) := by decide +kernel
theorem dX7_sum_66 : decode cX7_sum 66 = .ok (.goto (-55), 3) := by decide +kernel
theorem dX7_sum_69 : decode cX7_sum 69 = .ok (.iload 4, 2) := by decide +kernel
theorem dX7_sum_71 : decode cX7_sum 71 = .ok (.ireturn, 1) := by decide +kernel
abbrev cX7_openDays : ByteArray := prog_9_method_20_code
def yX7_openDays : MethodName := ⟨RX7, "openDays", "(I)I"⟩
abbrev wX7_openDays : Cond := .code yX7_openDays cX7_openDays 4 (some .int)
theorem kX7_openDays : wX7_openDays ∈ wG := mG 883 (by decide +kernel) rfl
theorem dX7_openDays_0 : decode cX7_openDays 0 = .ok (.iconst 0, 1) := by decide +kernel
theorem dX7_openDays_1 : decode cX7_openDays 1 = .ok (.istore_n 2, 1) := by decide +kernel
theorem dX7_openDays_2 : decode cX7_openDays 2 = .ok (.aload_n 0, 1) := by decide +kernel
theorem dX7_openDays_3 : decode cX7_openDays 3 = .ok (.getfield 123, 3) := by decide +kernel
theorem dX7_openDays_6 : decode cX7_openDays 6 = .ok (.iconst 1, 1) := by decide +kernel
theorem dX7_openDays_7 : decode cX7_openDays 7 = .ok (.isub, 1) := by decide +kernel
theorem dX7_openDays_8 : decode cX7_openDays 8 = .ok (.istore_n 3, 1) := by decide +kernel
theorem dX7_openDays_9 : decode cX7_openDays 9 = .ok (.iload_n 3, 1) := by decide +kernel
theorem dX7_openDays_10 : decode cX7_openDays 10 = .ok (.ifCond .lt 36, 3) := by decide +kernel
theorem dX7_openDays_13 : decode cX7_openDays 13 = .ok (.iload_n 3, 1) := by decide +kernel
theorem dX7_openDays_14 : decode cX7_openDays 14 = .ok (.aload_n 0, 1) := by decide +kernel
theorem dX7_openDays_15 : decode cX7_openDays 15 = .ok (.getfield 123, 3) := by decide +kernel
theorem dX7_openDays_18 : decode cX7_openDays 18 = .ok (.iload_n 1, 1) := by decide +kernel
theorem dX7_openDays_19 : decode cX7_openDays 19 = .ok (.isub, 1) := by decide +kernel
theorem dX7_openDays_20 : decode cX7_openDays 20 = .ok (.if_icmp .lt 26, 3) := by decide +kernel
theorem dX7_openDays_23 : decode cX7_openDays 23 = .ok (.iload_n 2, 1) := by decide +kernel
theorem dX7_openDays_24 : decode cX7_openDays 24 = .ok (.aload_n 0, 1) := by decide +kernel
theorem dX7_openDays_25 : decode cX7_openDays 25 = .ok (.getfield 41, 3) := by decide +kernel
theorem dX7_openDays_28 : decode cX7_openDays 28 = .ok (.iload_n 3, 1) := by decide +kernel
theorem dX7_openDays_29 : decode cX7_openDays 29 = .ok (.baload, 1) := by decide +kernel
theorem dX7_openDays_30 : decode cX7_openDays 30 = .ok (.ifCond .eq 7, 3) := by decide +kernel
theorem dX7_openDays_33 : decode cX7_openDays 33 = .ok (.iconst 0, 1) := by decide +kernel
theorem dX7_openDays_34 : decode cX7_openDays 34 = .ok (.goto 4, 3) := by decide +kernel
theorem dX7_openDays_37 : decode cX7_openDays 37 = .ok (.iconst 1, 1) := by decide +kernel
theorem dX7_openDays_38 : decode cX7_openDays 38 = .ok (.iadd, 1) := by decide +kernel
theorem dX7_openDays_39 : decode cX7_openDays 39 = .ok (.istore_n 2, 1) := by decide +kernel
theorem dX7_openDays_40 : decode cX7_openDays 40 = .ok (.iinc 3 (-1), 3) := by decide +kernel
theorem dX7_openDays_43 : decode cX7_openDays 43 = .ok (.goto (-34), 3) := by decide +kernel
theorem dX7_openDays_46 : decode cX7_openDays 46 = .ok (.iload_n 2, 1) := by decide +kernel
theorem dX7_openDays_47 : decode cX7_openDays 47 = .ok (.ireturn, 1) := by decide +kernel
abbrev cX7_mean : ByteArray := prog_9_method_21_code
def yX7_mean : MethodName := ⟨RX7, "mean", "(II)I"⟩
abbrev wX7_mean : Cond := .code yX7_mean cX7_mean 4 (some .int)
theorem kX7_mean : wX7_mean ∈ wG := mG 879 (by decide +kernel) rfl
theorem dX7_mean_0 : decode cX7_mean 0 = .ok (.iload_n 1, 1) := by decide +kernel
theorem dX7_mean_1 : decode cX7_mean 1 = .ok (.invokestatic 106, 3) := by decide +kernel
theorem dX7_mean_4 : decode cX7_mean 4 = .ok (.ifCond .eq 17, 3) := by decide +kernel
theorem dX7_mean_7 : decode cX7_mean 7 = .ok (.iload_n 2, 1) := by decide +kernel
theorem dX7_mean_8 : decode cX7_mean 8 = .ok (.iconst 0, 1) := by decide +kernel
theorem dX7_mean_9 : decode cX7_mean 9 = .ok (.bipush 60, 2) := by decide +kernel
theorem dX7_mean_11 : decode cX7_mean 11 = .ok (.invokestatic 102, 3) := by decide +kernel
theorem dX7_mean_14 : decode cX7_mean 14 = .ok (.ifCond .eq 7, 3) := by decide +kernel
theorem dX7_mean_17 : decode cX7_mean 17 = .ok (.iconst 1, 1) := by decide +kernel
theorem dX7_mean_18 : decode cX7_mean 18 = .ok (.goto 4, 3) := by decide +kernel
theorem dX7_mean_21 : decode cX7_mean 21 = .ok (.iconst 0, 1) := by decide +kernel
theorem dX7_mean_22 : decode cX7_mean 22 = .ok (.istore_n 3, 1) := by decide +kernel
theorem dX7_mean_23 : decode cX7_mean 23 = .ok (.aload_n 0, 1) := by decide +kernel
theorem dX7_mean_24 : decode cX7_mean 24 = .ok (.iload_n 3, 1) := by decide +kernel
theorem dX7_mean_25 : decode cX7_mean 25 = .ok (.ifCond .ne 7, 3) := by decide +kernel
theorem dX7_mean_28 : decode cX7_mean 28 = .ok (.iconst 1, 1) := by decide +kernel
theorem dX7_mean_29 : decode cX7_mean 29 = .ok (.goto 29, 3) := by decide +kernel
theorem dX7_mean_32 : decode cX7_mean 32 = .ok (.aload_n 0, 1) := by decide +kernel
theorem dX7_mean_33 : decode cX7_mean 33 = .ok (.getfield 25, 3) := by decide +kernel
theorem dX7_mean_36 : decode cX7_mean 36 = .ok (.iload_n 1, 1) := by decide +kernel
theorem dX7_mean_37 : decode cX7_mean 37 = .ok (.baload, 1) := by decide +kernel
theorem dX7_mean_38 : decode cX7_mean 38 = .ok (.ifCond .ne 7, 3) := by decide +kernel
theorem dX7_mean_41 : decode cX7_mean 41 = .ok (.iconst 2, 1) := by decide +kernel
theorem dX7_mean_42 : decode cX7_mean 42 = .ok (.goto 16, 3) := by decide +kernel
theorem dX7_mean_45 : decode cX7_mean 45 = .ok (.aload_n 0, 1) := by decide +kernel
theorem dX7_mean_46 : decode cX7_mean 46 = .ok (.iload_n 2, 1) := by decide +kernel
theorem dX7_mean_47 : decode cX7_mean 47 = .ok (.invokevirtual 129, 3) := by decide +kernel
theorem dX7_mean_50 : decode cX7_mean 50 = .ok (.ifCond .ne 7, 3) := by decide +kernel
theorem dX7_mean_53 : decode cX7_mean 53 = .ok (.iconst 3, 1) := by decide +kernel
theorem dX7_mean_54 : decode cX7_mean 54 = .ok (.goto 4, 3) := by decide +kernel
theorem dX7_mean_57 : decode cX7_mean 57 = .ok (.iconst 0, 1) := by decide +kernel
theorem dX7_mean_58 : decode cX7_mean 58 = .ok (.putfield 98, 3) := by decide +kernel
theorem dX7_mean_61 : decode cX7_mean 61 = .ok (.aload_n 0, 1) := by decide +kernel
theorem dX7_mean_62 : decode cX7_mean 62 = .ok (.getfield 98, 3) := by decide +kernel
theorem dX7_mean_65 : decode cX7_mean 65 = .ok (.ifCond .ne 19, 3) := by decide +kernel
theorem dX7_mean_68 : decode cX7_mean 68 = .ok (.aload_n 0, 1) := by decide +kernel
theorem dX7_mean_69 : decode cX7_mean 69 = .ok (.iload_n 1, 1) := by decide +kernel
theorem dX7_mean_70 : decode cX7_mean 70 = .ok (.iload_n 2, 1) := by decide +kernel
theorem dX7_mean_71 : decode cX7_mean 71 = .ok (.iconst 0, 1) := by decide +kernel
theorem dX7_mean_72 : decode cX7_mean 72 = .ok (.invokevirtual 132, 3) := by decide +kernel
theorem dX7_mean_75 : decode cX7_mean 75 = .ok (.aload_n 0, 1) := by decide +kernel
theorem dX7_mean_76 : decode cX7_mean 76 = .ok (.iload_n 2, 1) := by decide +kernel
theorem dX7_mean_77 : decode cX7_mean 77 = .ok (.invokevirtual 129, 3) := by decide +kernel
theorem dX7_mean_80 : decode cX7_mean 80 = .ok (.idiv, 1) := by decide +kernel
theorem dX7_mean_81 : decode cX7_mean 81 = .ok (.goto 4, 3) := by decide +kernel
theorem dX7_mean_84 : decode cX7_mean 84 = .ok (.iconst 0, 1) := by decide +kernel
theorem dX7_mean_85 : decode cX7_mean 85 = .ok (.ireturn, 1) := by decide +kernel
abbrev cX7_kindOf : ByteArray := prog_9_method_22_code
def yX7_kindOf : MethodName := ⟨RX7, "kindOf", "(I)I"⟩
abbrev wX7_kindOf : Cond := .code yX7_kindOf cX7_kindOf 2 (some .int)
theorem kX7_kindOf : wX7_kindOf ∈ wG := mG 903 (by decide +kernel) rfl
theorem dX7_kindOf_0 : decode cX7_kindOf 0 = .ok (.aload_n 0, 1) := by decide +kernel
theorem dX7_kindOf_1 : decode cX7_kindOf 1 = .ok (.getfield 123, 3) := by decide +kernel
theorem dX7_kindOf_4 : decode cX7_kindOf 4 = .ok (.aload_n 0, 1) := by decide +kernel
theorem dX7_kindOf_5 : decode cX7_kindOf 5 = .ok (.getfield 53, 3) := by decide +kernel
theorem dX7_kindOf_8 : decode cX7_kindOf 8 = .ok (.aload_n 0, 1) := by decide +kernel
theorem dX7_kindOf_9 : decode cX7_kindOf 9 = .ok (.getfield 13, 3) := by decide +kernel
theorem dX7_kindOf_12 : decode cX7_kindOf 12 = .ok (.iload_n 1, 1) := by decide +kernel
theorem dX7_kindOf_13 : decode cX7_kindOf 13 = .ok (.iaload, 1) := by decide +kernel
theorem dX7_kindOf_14 : decode cX7_kindOf 14 = .ok (.iaload, 1) := by decide +kernel
theorem dX7_kindOf_15 : decode cX7_kindOf 15 = .ok (.if_icmp .le 7, 3) := by decide +kernel
theorem dX7_kindOf_18 : decode cX7_kindOf 18 = .ok (.iconst 0, 1) := by decide +kernel
theorem dX7_kindOf_19 : decode cX7_kindOf 19 = .ok (.goto 14, 3) := by decide +kernel
theorem dX7_kindOf_22 : decode cX7_kindOf 22 = .ok (.aload_n 0, 1) := by decide +kernel
theorem dX7_kindOf_23 : decode cX7_kindOf 23 = .ok (.getfield 47, 3) := by decide +kernel
theorem dX7_kindOf_26 : decode cX7_kindOf 26 = .ok (.aload_n 0, 1) := by decide +kernel
theorem dX7_kindOf_27 : decode cX7_kindOf 27 = .ok (.getfield 13, 3) := by decide +kernel
theorem dX7_kindOf_30 : decode cX7_kindOf 30 = .ok (.iload_n 1, 1) := by decide +kernel
theorem dX7_kindOf_31 : decode cX7_kindOf 31 = .ok (.iaload, 1) := by decide +kernel
theorem dX7_kindOf_32 : decode cX7_kindOf 32 = .ok (.iaload, 1) := by decide +kernel
theorem dX7_kindOf_33 : decode cX7_kindOf 33 = .ok (.ireturn, 1) := by decide +kernel
abbrev cX7_aheadOf : ByteArray := prog_9_method_23_code
def yX7_aheadOf : MethodName := ⟨RX7, "aheadOf", "(I)I"⟩
abbrev wX7_aheadOf : Cond := .code yX7_aheadOf cX7_aheadOf 2 (some .int)
theorem kX7_aheadOf : wX7_aheadOf ∈ wG := mG 907 (by decide +kernel) rfl
theorem dX7_aheadOf_0 : decode cX7_aheadOf 0 = .ok (.aload_n 0, 1) := by decide +kernel
theorem dX7_aheadOf_1 : decode cX7_aheadOf 1 = .ok (.getfield 123, 3) := by decide +kernel
theorem dX7_aheadOf_4 : decode cX7_aheadOf 4 = .ok (.aload_n 0, 1) := by decide +kernel
theorem dX7_aheadOf_5 : decode cX7_aheadOf 5 = .ok (.getfield 53, 3) := by decide +kernel
theorem dX7_aheadOf_8 : decode cX7_aheadOf 8 = .ok (.aload_n 0, 1) := by decide +kernel
theorem dX7_aheadOf_9 : decode cX7_aheadOf 9 = .ok (.getfield 13, 3) := by decide +kernel
theorem dX7_aheadOf_12 : decode cX7_aheadOf 12 = .ok (.iload_n 1, 1) := by decide +kernel
theorem dX7_aheadOf_13 : decode cX7_aheadOf 13 = .ok (.iaload, 1) := by decide +kernel
theorem dX7_aheadOf_14 : decode cX7_aheadOf 14 = .ok (.iaload, 1) := by decide +kernel
theorem dX7_aheadOf_15 : decode cX7_aheadOf 15 = .ok (.if_icmp .le 7, 3) := by decide +kernel
theorem dX7_aheadOf_18 : decode cX7_aheadOf 18 = .ok (.iconst 1, 1) := by decide +kernel
theorem dX7_aheadOf_19 : decode cX7_aheadOf 19 = .ok (.goto 14, 3) := by decide +kernel
theorem dX7_aheadOf_22 : decode cX7_aheadOf 22 = .ok (.aload_n 0, 1) := by decide +kernel
theorem dX7_aheadOf_23 : decode cX7_aheadOf 23 = .ok (.getfield 50, 3) := by decide +kernel
theorem dX7_aheadOf_26 : decode cX7_aheadOf 26 = .ok (.aload_n 0, 1) := by decide +kernel
theorem dX7_aheadOf_27 : decode cX7_aheadOf 27 = .ok (.getfield 13, 3) := by decide +kernel
theorem dX7_aheadOf_30 : decode cX7_aheadOf 30 = .ok (.iload_n 1, 1) := by decide +kernel
theorem dX7_aheadOf_31 : decode cX7_aheadOf 31 = .ok (.iaload, 1) := by decide +kernel
theorem dX7_aheadOf_32 : decode cX7_aheadOf 32 = .ok (.iaload, 1) := by decide +kernel
theorem dX7_aheadOf_33 : decode cX7_aheadOf 33 = .ok (.ireturn, 1) := by decide +kernel
abbrev cX7_over : ByteArray := prog_9_method_24_code
def yX7_over : MethodName := ⟨RX7, "over", "(JJ)J"⟩
abbrev wX7_over : Cond := .code yX7_over cX7_over 4 (some .long)
theorem kX7_over : wX7_over ∈ wG := mG 910 (by decide +kernel) rfl
theorem dX7_over_0 : decode cX7_over 0 = .ok (.lload_n 0, 1) := by decide +kernel
theorem dX7_over_1 : decode cX7_over 1 = .ok (.lload_n 2, 1) := by decide +kernel
theorem dX7_over_2 : decode cX7_over 2 = .ok (.ldiv, 1) := by decide +kernel
theorem dX7_over_3 : decode cX7_over 3 = .ok (.lload_n 0, 1) := by decide +kernel
theorem dX7_over_4 : decode cX7_over 4 = .ok (.lload_n 2, 1) := by decide +kernel
theorem dX7_over_5 : decode cX7_over 5 = .ok (.lrem, 1) := by decide +kernel
theorem dX7_over_6 : decode cX7_over 6 = .ok (.lconst 0, 1) := by decide +kernel
theorem dX7_over_7 : decode cX7_over 7 = .ok (.lcmp, 1) := by decide +kernel
theorem dX7_over_8 : decode cX7_over 8 = .ok (.ifCond .le 7, 3) := by decide +kernel
theorem dX7_over_11 : decode cX7_over 11 = .ok (.lconst 1, 1) := by decide +kernel
theorem dX7_over_12 : decode cX7_over 12 = .ok (.goto 4, 3) := by decide +kernel
theorem dX7_over_15 : decode cX7_over 15 = .ok (.lconst 0, 1) := by decide +kernel
theorem dX7_over_16 : decode cX7_over 16 = .ok (.ladd, 1) := by decide +kernel
theorem dX7_over_17 : decode cX7_over 17 = .ok (.lreturn, 1) := by decide +kernel
abbrev cX7_foresees : ByteArray := prog_9_method_25_code
def yX7_foresees : MethodName := ⟨RX7, "foresees", "(I)J"⟩
abbrev wX7_foresees : Cond := .code yX7_foresees cX7_foresees 8 (some .long)
theorem kX7_foresees : wX7_foresees ∈ wG := mG 899 (by decide +kernel) rfl
theorem dX7_foresees_0 : decode cX7_foresees 0 = .ok (.aload_n 0, 1) := by decide +kernel
theorem dX7_foresees_1 : decode cX7_foresees 1 = .ok (.getfield 123, 3) := by decide +kernel
theorem dX7_foresees_4 : decode cX7_foresees 4 = .ok (.bipush 30, 2) := by decide +kernel
theorem dX7_foresees_6 : decode cX7_foresees 6 = .ok (.idiv, 1) := by decide +kernel
theorem dX7_foresees_7 : decode cX7_foresees 7 = .ok (.bipush 12, 2) := by decide +kernel
theorem dX7_foresees_9 : decode cX7_foresees 9 = .ok (.irem, 1) := by decide +kernel
theorem dX7_foresees_10 : decode cX7_foresees 10 = .ok (.istore_n 2, 1) := by decide +kernel
theorem dX7_foresees_11 : decode cX7_foresees 11 = .ok (.aload_n 0, 1) := by decide +kernel
theorem dX7_foresees_12 : decode cX7_foresees 12 = .ok (.bipush 28, 2) := by decide +kernel
theorem dX7_foresees_14 : decode cX7_foresees 14 = .ok (.invokevirtual 129, 3) := by decide +kernel
theorem dX7_foresees_17 : decode cX7_foresees 17 = .ok (.istore_n 3, 1) := by decide +kernel
theorem dX7_foresees_18 : decode cX7_foresees 18 = .ok (.aload_n 0, 1) := by decide +kernel
theorem dX7_foresees_19 : decode cX7_foresees 19 = .ok (.iload_n 1, 1) := by decide +kernel
theorem dX7_foresees_20 : decode cX7_foresees 20 = .ok (.invokevirtual 136, 3) := by decide +kernel
theorem dX7_foresees_23 : decode cX7_foresees 23 = .ok (.istore 4, 2) := by decide +kernel
theorem dX7_foresees_25 : decode cX7_foresees 25 = .ok (.iload 4, 2) := by decide +kernel
theorem dX7_foresees_27 : decode cX7_foresees 27 = .ok (.ifCond .eq 7, 3) := by decide +kernel
theorem dX7_foresees_30 : decode cX7_foresees 30 = .ok (.iload_n 3, 1) := by decide +kernel
theorem dX7_foresees_31 : decode cX7_foresees 31 = .ok (.ifCond .ne 5, 3) := by decide +kernel
theorem dX7_foresees_34 : decode cX7_foresees 34 = .ok (.lconst 0, 1) := by decide +kernel
theorem dX7_foresees_35 : decode cX7_foresees 35 = .ok (.lreturn, 1) := by decide +kernel
theorem dX7_foresees_36 : decode cX7_foresees 36 = .ok (.iload 4, 2) := by decide +kernel
theorem dX7_foresees_38 : decode cX7_foresees 38 = .ok (.iconst 1, 1) := by decide +kernel
theorem dX7_foresees_39 : decode cX7_foresees 39 = .ok (.if_icmp .ne 41, 3) := by decide +kernel
theorem dX7_foresees_42 : decode cX7_foresees 42 = .ok (.aload_n 0, 1) := by decide +kernel
theorem dX7_foresees_43 : decode cX7_foresees 43 = .ok (.iload_n 1, 1) := by decide +kernel
theorem dX7_foresees_44 : decode cX7_foresees 44 = .ok (.bipush 28, 2) := by decide +kernel
theorem dX7_foresees_46 : decode cX7_foresees 46 = .ok (.iconst 1, 1) := by decide +kernel
theorem dX7_foresees_47 : decode cX7_foresees 47 = .ok (.invokevirtual 132, 3) := by decide +kernel
theorem dX7_foresees_50 : decode cX7_foresees 50 = .ok (.i2l, 1) := by decide +kernel
theorem dX7_foresees_51 : decode cX7_foresees 51 = .ok (.aload_n 0, 1) := by decide +kernel
theorem dX7_foresees_52 : decode cX7_foresees 52 = .ok (.iload_n 1, 1) := by decide +kernel
theorem dX7_foresees_53 : decode cX7_foresees 53 = .ok (.invokevirtual 139, 3) := by decide +kernel
theorem dX7_foresees_56 : decode cX7_foresees 56 = .ok (.i2l, 1) := by decide +kernel
theorem dX7_foresees_57 : decode cX7_foresees 57 = .ok (.lmul, 1) := by decide +kernel
theorem dX7_foresees_58 : decode cX7_foresees 58 = .ok (.aload_n 0, 1) := by decide +kernel
theorem dX7_foresees_59 : decode cX7_foresees 59 = .ok (.getfield 56, 3) := by decide +kernel
theorem dX7_foresees_62 : decode cX7_foresees 62 = .ok (.iload_n 2, 1) := by decide +kernel
theorem dX7_foresees_63 : decode cX7_foresees 63 = .ok (.iaload, 1) := by decide +kernel
theorem dX7_foresees_64 : decode cX7_foresees 64 = .ok (.i2l, 1) := by decide +kernel
theorem dX7_foresees_65 : decode cX7_foresees 65 = .ok (.lmul, 1) := by decide +kernel
theorem dX7_foresees_66 : decode cX7_foresees 66 = .ok (.iload_n 3, 1) := by decide +kernel
theorem dX7_foresees_67 : decode cX7_foresees 67 = .ok (.i2l, 1) := by decide +kernel
theorem dX7_foresees_68 : decode cX7_foresees 68 = .ok (.aload_n 0, 1) := by decide +kernel
theorem dX7_foresees_69 : decode cX7_foresees 69 = .ok (.getfield 59, 3) := by decide +kernel
theorem dX7_foresees_72 : decode cX7_foresees 72 = .ok (.iload_n 2, 1) := by decide +kernel
theorem dX7_foresees_73 : decode cX7_foresees 73 = .ok (.iaload, 1) := by decide +kernel
theorem dX7_foresees_74 : decode cX7_foresees 74 = .ok (.i2l, 1) := by decide +kernel
theorem dX7_foresees_75 : decode cX7_foresees 75 = .ok (.lmul, 1) := by decide +kernel
theorem dX7_foresees_76 : decode cX7_foresees 76 = .ok (.invokestatic 142, 3) := by decide +kernel
theorem dX7_foresees_79 : decode cX7_foresees 79 = .ok (.lreturn, 1) := by decide +kernel
theorem dX7_foresees_80 : decode cX7_foresees 80 = .ok (.lconst 0, 1) := by decide +kernel
theorem dX7_foresees_81 : decode cX7_foresees 81 = .ok (.lstore 5, 2) := by decide +kernel
theorem dX7_foresees_83 : decode cX7_foresees 83 = .ok (.aload_n 0, 1) := by decide +kernel
theorem dX7_foresees_84 : decode cX7_foresees 84 = .ok (.getfield 123, 3) := by decide +kernel
theorem dX7_foresees_87 : decode cX7_foresees 87 = .ok (.bipush 28, 2) := by decide +kernel
theorem dX7_foresees_89 : decode cX7_foresees 89 = .ok (.isub, 1) := by decide +kernel
theorem dX7_foresees_90 : decode cX7_foresees 90 = .ok (.ifCond .ge 7, 3) := by decide +kernel
theorem dX7_foresees_93 : decode cX7_foresees 93 = .ok (.iconst 0, 1) := by decide +kernel
theorem dX7_foresees_94 : decode cX7_foresees 94 = .ok (.goto 10, 3) := by decide +kernel
theorem dX7_foresees_97 : decode cX7_foresees 97 = .ok (.aload_n 0, 1) := by decide +kernel
theorem dX7_foresees_98 : decode cX7_foresees 98 = .ok (.getfield 123, 3) := by decide +kernel
theorem dX7_foresees_101 : decode cX7_foresees 101 = .ok (.bipush 28, 2) := by decide +kernel
theorem dX7_foresees_103 : decode cX7_foresees 103 = .ok (.isub, 1) := by decide +kernel
theorem dX7_foresees_104 : decode cX7_foresees 104 = .ok (.istore 7, 2) := by decide +kernel
theorem dX7_foresees_106 : decode cX7_foresees 106 = .ok (.iload 7, 2) := by decide +kernel
theorem dX7_foresees_108 : decode cX7_foresees 108 = .ok (.aload_n 0, 1) := by decide +kernel
theorem dX7_foresees_109 : decode cX7_foresees 109 = .ok (.getfield 123, 3) := by decide +kernel
theorem dX7_foresees_112 : decode cX7_foresees 112 = .ok (.if_icmp .ge 55, 3) := by decide +kernel
theorem dX7_foresees_115 : decode cX7_foresees 115 = .ok (.aload_n 0, 1) := by decide +kernel
theorem dX7_foresees_116 : decode cX7_foresees 116 = .ok (.getfield 41, 3) := by decide +kernel
theorem dX7_foresees_119 : decode cX7_foresees 119 = .ok (.iload 7, 2) := by decide +kernel
theorem dX7_foresees_121 : decode cX7_foresees 121 = .ok (.baload, 1) := by decide +kernel
theorem dX7_foresees_122 : decode cX7_foresees 122 = .ok (.ifCond .eq 8, 3) := by decide +kernel
theorem dX7_foresees_125 : decode cX7_foresees 125 = .ok (.lload 5, 2) := by decide +kernel
theorem dX7_foresees_127 : decode cX7_foresees 127 = .ok (.goto 32, 3) := by decide +kernel
theorem dX7_foresees_130 : decode cX7_foresees 130 = .ok (.ldc2_w 146, 3) := by decide +kernel
theorem dX7_foresees_133 : decode cX7_foresees 133 = .ok (.lload 5, 2) := by decide +kernel
theorem dX7_foresees_135 : decode cX7_foresees 135 = .ok (.lmul, 1) := by decide +kernel
theorem dX7_foresees_136 : decode cX7_foresees 136 = .ok (.ldc2_w 148, 3) := by decide +kernel
theorem dX7_foresees_139 : decode cX7_foresees 139 = .ok (.aload_n 0, 1) := by decide +kernel
theorem dX7_foresees_140 : decode cX7_foresees 140 = .ok (.getfield 44, 3) := by decide +kernel
theorem dX7_foresees_143 : decode cX7_foresees 143 = .ok (.sipush 400, 3) := by decide +kernel
theorem dX7_foresees_146 : decode cX7_foresees 146 = .ok (.iload_n 1, 1) := by decide +kernel
theorem dX7_foresees_147 : decode cX7_foresees 147 = .ok (.imul, 1) := by decide +kernel
theorem dX7_foresees_148 : decode cX7_foresees 148 = .ok (.iload 7, 2) := by decide +kernel
theorem dX7_foresees_150 : decode cX7_foresees 150 = .ok (.iadd, 1) := by decide +kernel
theorem dX7_foresees_151 : decode cX7_foresees 151 = .ok (.iaload, 1) := by decide +kernel
theorem dX7_foresees_152 : decode cX7_foresees 152 = .ok (.i2l, 1) := by decide +kernel
theorem dX7_foresees_153 : decode cX7_foresees 153 = .ok (.lmul, 1) := by decide +kernel
theorem dX7_foresees_154 : decode cX7_foresees 154 = .ok (.ladd, 1) := by decide +kernel
theorem dX7_foresees_155 : decode cX7_foresees 155 = .ok (.ldc2_w 150, 3) := by decide +kernel
theorem dX7_foresees_158 : decode cX7_foresees 158 = .ok (.ldiv, 1) := by decide +kernel
theorem dX7_foresees_159 : decode cX7_foresees 159 = .ok (.lstore 5, 2) := by decide +kernel
theorem dX7_foresees_161 : decode cX7_foresees 161 = .ok (.iinc 7 1, 3) := by decide +kernel
theorem dX7_foresees_164 : decode cX7_foresees 164 = .ok (.goto (-58), 3) := by decide +kernel
theorem dX7_foresees_167 : decode cX7_foresees 167 = .ok (.lload 5, 2) := by decide +kernel
theorem dX7_foresees_169 : decode cX7_foresees 169 = .ok (.aload_n 0, 1) := by decide +kernel
theorem dX7_foresees_170 : decode cX7_foresees 170 = .ok (.iload_n 1, 1) := by decide +kernel
theorem dX7_foresees_171 : decode cX7_foresees 171 = .ok (.invokevirtual 139, 3) := by decide +kernel
theorem dX7_foresees_174 : decode cX7_foresees 174 = .ok (.i2l, 1) := by decide +kernel
theorem dX7_foresees_175 : decode cX7_foresees 175 = .ok (.lmul, 1) := by decide +kernel
theorem dX7_foresees_176 : decode cX7_foresees 176 = .ok (.aload_n 0, 1) := by decide +kernel
theorem dX7_foresees_177 : decode cX7_foresees 177 = .ok (.getfield 56, 3) := by decide +kernel
theorem dX7_foresees_180 : decode cX7_foresees 180 = .ok (.iload_n 2, 1) := by decide +kernel
theorem dX7_foresees_181 : decode cX7_foresees 181 = .ok (.iaload, 1) := by decide +kernel
theorem dX7_foresees_182 : decode cX7_foresees 182 = .ok (.i2l, 1) := by decide +kernel
theorem dX7_foresees_183 : decode cX7_foresees 183 = .ok (.lmul, 1) := by decide +kernel
theorem dX7_foresees_184 : decode cX7_foresees 184 = .ok (.ldc2_w 148, 3) := by decide +kernel
theorem dX7_foresees_187 : decode cX7_foresees 187 = .ok (.aload_n 0, 1) := by decide +kernel
theorem dX7_foresees_188 : decode cX7_foresees 188 = .ok (.getfield 59, 3) := by decide +kernel
theorem dX7_foresees_191 : decode cX7_foresees 191 = .ok (.iload_n 2, 1) := by decide +kernel
theorem dX7_foresees_192 : decode cX7_foresees 192 = .ok (.iaload, 1) := by decide +kernel
theorem dX7_foresees_193 : decode cX7_foresees 193 = .ok (.i2l, 1) := by decide +kernel
theorem dX7_foresees_194 : decode cX7_foresees 194 = .ok (.lmul, 1) := by decide +kernel
theorem dX7_foresees_195 : decode cX7_foresees 195 = .ok (.invokestatic 142, 3) := by decide +kernel
theorem dX7_foresees_198 : decode cX7_foresees 198 = .ok (.lreturn, 1) := by decide +kernel
abbrev cX7_wants : ByteArray := prog_9_method_26_code
def yX7_wants : MethodName := ⟨RX7, "wants", "(I)J"⟩
abbrev wX7_wants : Cond := .code yX7_wants cX7_wants 8 (some .long)
theorem kX7_wants : wX7_wants ∈ wG := mG 925 (by decide +kernel) rfl
theorem dX7_wants_0 : decode cX7_wants 0 = .ok (.lconst 0, 1) := by decide +kernel
theorem dX7_wants_1 : decode cX7_wants 1 = .ok (.lstore_n 2, 1) := by decide +kernel
theorem dX7_wants_2 : decode cX7_wants 2 = .ok (.iconst 0, 1) := by decide +kernel
theorem dX7_wants_3 : decode cX7_wants 3 = .ok (.istore 4, 2) := by decide +kernel
theorem dX7_wants_5 : decode cX7_wants 5 = .ok (.iload 4, 2) := by decide +kernel
theorem dX7_wants_7 : decode cX7_wants 7 = .ok (.aload_n 0, 1) := by decide +kernel
theorem dX7_wants_8 : decode cX7_wants 8 = .ok (.getfield 126, 3) := by decide +kernel
theorem dX7_wants_11 : decode cX7_wants 11 = .ok (.if_icmp .ge 74, 3) := by decide +kernel
theorem dX7_wants_14 : decode cX7_wants 14 = .ok (.aload_n 0, 1) := by decide +kernel
theorem dX7_wants_15 : decode cX7_wants 15 = .ok (.getfield 62, 3) := by decide +kernel
theorem dX7_wants_18 : decode cX7_wants 18 = .ok (.iload 4, 2) := by decide +kernel
theorem dX7_wants_20 : decode cX7_wants 20 = .ok (.iaload, 1) := by decide +kernel
theorem dX7_wants_21 : decode cX7_wants 21 = .ok (.iload_n 1, 1) := by decide +kernel
theorem dX7_wants_22 : decode cX7_wants 22 = .ok (.if_icmp .ne 34, 3) := by decide +kernel
theorem dX7_wants_25 : decode cX7_wants 25 = .ok (.aload_n 0, 1) := by decide +kernel
theorem dX7_wants_26 : decode cX7_wants 26 = .ok (.getfield 68, 3) := by decide +kernel
theorem dX7_wants_29 : decode cX7_wants 29 = .ok (.iload 4, 2) := by decide +kernel
theorem dX7_wants_31 : decode cX7_wants 31 = .ok (.iaload, 1) := by decide +kernel
theorem dX7_wants_32 : decode cX7_wants 32 = .ok (.aload_n 0, 1) := by decide +kernel
theorem dX7_wants_33 : decode cX7_wants 33 = .ok (.getfield 123, 3) := by decide +kernel
theorem dX7_wants_36 : decode cX7_wants 36 = .ok (.aload_n 0, 1) := by decide +kernel
theorem dX7_wants_37 : decode cX7_wants 37 = .ok (.getfield 123, 3) := by decide +kernel
theorem dX7_wants_40 : decode cX7_wants 40 = .ok (.aload_n 0, 1) := by decide +kernel
theorem dX7_wants_41 : decode cX7_wants 41 = .ok (.iload_n 1, 1) := by decide +kernel
theorem dX7_wants_42 : decode cX7_wants 42 = .ok (.invokevirtual 139, 3) := by decide +kernel
theorem dX7_wants_45 : decode cX7_wants 45 = .ok (.iadd, 1) := by decide +kernel
theorem dX7_wants_46 : decode cX7_wants 46 = .ok (.invokestatic 102, 3) := by decide +kernel
theorem dX7_wants_49 : decode cX7_wants 49 = .ok (.ifCond .eq 7, 3) := by decide +kernel
theorem dX7_wants_52 : decode cX7_wants 52 = .ok (.iconst 1, 1) := by decide +kernel
theorem dX7_wants_53 : decode cX7_wants 53 = .ok (.goto 4, 3) := by decide +kernel
theorem dX7_wants_56 : decode cX7_wants 56 = .ok (.iconst 0, 1) := by decide +kernel
theorem dX7_wants_57 : decode cX7_wants 57 = .ok (.istore 5, 2) := by decide +kernel
theorem dX7_wants_59 : decode cX7_wants 59 = .ok (.lload_n 2, 1) := by decide +kernel
theorem dX7_wants_60 : decode cX7_wants 60 = .ok (.iload 5, 2) := by decide +kernel
theorem dX7_wants_62 : decode cX7_wants 62 = .ok (.ifCond .eq 14, 3) := by decide +kernel
theorem dX7_wants_65 : decode cX7_wants 65 = .ok (.aload_n 0, 1) := by decide +kernel
theorem dX7_wants_66 : decode cX7_wants 66 = .ok (.getfield 65, 3) := by decide +kernel
theorem dX7_wants_69 : decode cX7_wants 69 = .ok (.iload 4, 2) := by decide +kernel
theorem dX7_wants_71 : decode cX7_wants 71 = .ok (.iaload, 1) := by decide +kernel
theorem dX7_wants_72 : decode cX7_wants 72 = .ok (.i2l, 1) := by decide +kernel
theorem dX7_wants_73 : decode cX7_wants 73 = .ok (.goto 4, 3) := by decide +kernel
theorem dX7_wants_76 : decode cX7_wants 76 = .ok (.lconst 0, 1) := by decide +kernel
theorem dX7_wants_77 : decode cX7_wants 77 = .ok (.ladd, 1) := by decide +kernel
theorem dX7_wants_78 : decode cX7_wants 78 = .ok (.lstore_n 2, 1) := by decide +kernel
theorem dX7_wants_79 : decode cX7_wants 79 = .ok (.iinc 4 1, 3) := by decide +kernel
theorem dX7_wants_82 : decode cX7_wants 82 = .ok (.goto (-77), 3) := by decide +kernel
theorem dX7_wants_85 : decode cX7_wants 85 = .ok (.aload_n 0, 1) := by decide +kernel
theorem dX7_wants_86 : decode cX7_wants 86 = .ok (.iload_n 1, 1) := by decide +kernel
theorem dX7_wants_87 : decode cX7_wants 87 = .ok (.invokevirtual 152, 3) := by decide +kernel
theorem dX7_wants_90 : decode cX7_wants 90 = .ok (.lstore 4, 2) := by decide +kernel
theorem dX7_wants_92 : decode cX7_wants 92 = .ok (.lload 4, 2) := by decide +kernel
theorem dX7_wants_94 : decode cX7_wants 94 = .ok (.lload_n 2, 1) := by decide +kernel
theorem dX7_wants_95 : decode cX7_wants 95 = .ok (.lcmp, 1) := by decide +kernel
theorem dX7_wants_96 : decode cX7_wants 96 = .ok (.ifCond .le 8, 3) := by decide +kernel
theorem dX7_wants_99 : decode cX7_wants 99 = .ok (.lload 4, 2) := by decide +kernel
theorem dX7_wants_101 : decode cX7_wants 101 = .ok (.goto 4, 3) := by decide +kernel
theorem dX7_wants_104 : decode cX7_wants 104 = .ok (.lload_n 2, 1) := by decide +kernel
theorem dX7_wants_105 : decode cX7_wants 105 = .ok (.lstore 6, 2) := by decide +kernel
theorem dX7_wants_107 : decode cX7_wants 107 = .ok (.lload 6, 2) := by decide +kernel
theorem dX7_wants_109 : decode cX7_wants 109 = .ok (.aload_n 0, 1) := by decide +kernel
theorem dX7_wants_110 : decode cX7_wants 110 = .ok (.getfield 32, 3) := by decide +kernel
theorem dX7_wants_113 : decode cX7_wants 113 = .ok (.iload_n 1, 1) := by decide +kernel
theorem dX7_wants_114 : decode cX7_wants 114 = .ok (.iaload, 1) := by decide +kernel
theorem dX7_wants_115 : decode cX7_wants 115 = .ok (.i2l, 1) := by decide +kernel
theorem dX7_wants_116 : decode cX7_wants 116 = .ok (.lcmp, 1) := by decide +kernel
theorem dX7_wants_117 : decode cX7_wants 117 = .ok (.ifCond .le 8, 3) := by decide +kernel
theorem dX7_wants_120 : decode cX7_wants 120 = .ok (.lload 6, 2) := by decide +kernel
theorem dX7_wants_122 : decode cX7_wants 122 = .ok (.goto 10, 3) := by decide +kernel
theorem dX7_wants_125 : decode cX7_wants 125 = .ok (.aload_n 0, 1) := by decide +kernel
theorem dX7_wants_126 : decode cX7_wants 126 = .ok (.getfield 32, 3) := by decide +kernel
theorem dX7_wants_129 : decode cX7_wants 129 = .ok (.iload_n 1, 1) := by decide +kernel
theorem dX7_wants_130 : decode cX7_wants 130 = .ok (.iaload, 1) := by decide +kernel
theorem dX7_wants_131 : decode cX7_wants 131 = .ok (.i2l, 1) := by decide +kernel
theorem dX7_wants_132 : decode cX7_wants 132 = .ok (.lreturn, 1) := by decide +kernel
abbrev cX7_asks : ByteArray := prog_9_method_27_code
def yX7_asks : MethodName := ⟨RX7, "asks", "(I)Z"⟩
abbrev wX7_asks : Cond := .code yX7_asks cX7_asks 2 (some .boolean)
theorem kX7_asks : wX7_asks ∈ wG := mG 895 (by decide +kernel) rfl
theorem dX7_asks_0 : decode cX7_asks 0 = .ok (.aload_n 0, 1) := by decide +kernel
theorem dX7_asks_1 : decode cX7_asks 1 = .ok (.iload_n 1, 1) := by decide +kernel
theorem dX7_asks_2 : decode cX7_asks 2 = .ok (.invokestatic 106, 3) := by decide +kernel
theorem dX7_asks_5 : decode cX7_asks 5 = .ok (.ifCond .ne 7, 3) := by decide +kernel
theorem dX7_asks_8 : decode cX7_asks 8 = .ok (.iconst 1, 1) := by decide +kernel
theorem dX7_asks_9 : decode cX7_asks 9 = .ok (.goto 17, 3) := by decide +kernel
theorem dX7_asks_12 : decode cX7_asks 12 = .ok (.aload_n 0, 1) := by decide +kernel
theorem dX7_asks_13 : decode cX7_asks 13 = .ok (.getfield 25, 3) := by decide +kernel
theorem dX7_asks_16 : decode cX7_asks 16 = .ok (.iload_n 1, 1) := by decide +kernel
theorem dX7_asks_17 : decode cX7_asks 17 = .ok (.baload, 1) := by decide +kernel
theorem dX7_asks_18 : decode cX7_asks 18 = .ok (.ifCond .ne 7, 3) := by decide +kernel
theorem dX7_asks_21 : decode cX7_asks 21 = .ok (.iconst 2, 1) := by decide +kernel
theorem dX7_asks_22 : decode cX7_asks 22 = .ok (.goto 4, 3) := by decide +kernel
theorem dX7_asks_25 : decode cX7_asks 25 = .ok (.iconst 0, 1) := by decide +kernel
theorem dX7_asks_26 : decode cX7_asks 26 = .ok (.putfield 98, 3) := by decide +kernel
theorem dX7_asks_29 : decode cX7_asks 29 = .ok (.aload_n 0, 1) := by decide +kernel
