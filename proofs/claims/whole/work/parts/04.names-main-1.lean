theorem dX6_open_8 : decode cX6_open 8 = .ok (.iload_n 1, 1) := by decide +kernel
theorem dX6_open_9 : decode cX6_open 9 = .ok (.aload_n 0, 1) := by decide +kernel
theorem dX6_open_10 : decode cX6_open 10 = .ok (.getfield 34, 3) := by decide +kernel
theorem dX6_open_13 : decode cX6_open 13 = .ok (.getfield 125, 3) := by decide +kernel
theorem dX6_open_16 : decode cX6_open 16 = .ok (.if_icmp .ge 13, 3) := by decide +kernel
theorem dX6_open_19 : decode cX6_open 19 = .ok (.new 72, 3) := by decide +kernel
theorem dX6_open_22 : decode cX6_open 22 = .ok (.dup, 1) := by decide +kernel
theorem dX6_open_23 : decode cX6_open 23 = .ok (.ldc 161, 2) := by decide +kernel
theorem dX6_open_25 : decode cX6_open 25 = .ok (.invokespecial 76, 3) := by decide +kernel
theorem dX6_open_28 : decode cX6_open 28 = .ok (.athrow, 1) := by decide +kernel
theorem dX6_open_29 : decode cX6_open 29 = .ok (.aload_n 0, 1) := by decide +kernel
theorem dX6_open_30 : decode cX6_open 30 = .ok (.getfield 34, 3) := by decide +kernel
theorem dX6_open_33 : decode cX6_open 33 = .ok (.getfield 163, 3) := by decide +kernel
theorem dX6_open_36 : decode cX6_open 36 = .ok (.iload_n 1, 1) := by decide +kernel
theorem dX6_open_37 : decode cX6_open 37 = .ok (.iload_n 2, 1) := by decide +kernel
theorem dX6_open_38 : decode cX6_open 38 = .ok (.ifCond .ne 7, 3) := by decide +kernel
theorem dX6_open_41 : decode cX6_open 41 = .ok (.iconst 1, 1) := by decide +kernel
theorem dX6_open_42 : decode cX6_open 42 = .ok (.goto 4, 3) := by decide +kernel
theorem dX6_open_45 : decode cX6_open 45 = .ok (.iconst 0, 1) := by decide +kernel
theorem dX6_open_46 : decode cX6_open 46 = .ok (.bastore, 1) := by decide +kernel
theorem dX6_open_47 : decode cX6_open 47 = .ok (.return_, 1) := by decide +kernel
abbrev cX6_day : ByteArray := prog_1_method_12_code
def yX6_day : MethodName := ⟨RX6, "day", "(I)V"⟩
abbrev wX6_day : Cond := .code yX6_day cX6_day 2 none
theorem kX6_day : wX6_day ∈ wG := mG 471 (by decide +kernel) rfl
theorem dX6_day_0 : decode cX6_day 0 = .ok (.iload_n 1, 1) := by decide +kernel
theorem dX6_day_1 : decode cX6_day 1 = .ok (.aload_n 0, 1) := by decide +kernel
theorem dX6_day_2 : decode cX6_day 2 = .ok (.getfield 34, 3) := by decide +kernel
theorem dX6_day_5 : decode cX6_day 5 = .ok (.getfield 125, 3) := by decide +kernel
theorem dX6_day_8 : decode cX6_day 8 = .ok (.sipush 399, 3) := by decide +kernel
theorem dX6_day_11 : decode cX6_day 11 = .ok (.invokestatic 61, 3) := by decide +kernel
theorem dX6_day_14 : decode cX6_day 14 = .ok (.aload_n 0, 1) := by decide +kernel
theorem dX6_day_15 : decode cX6_day 15 = .ok (.getfield 34, 3) := by decide +kernel
theorem dX6_day_18 : decode cX6_day 18 = .ok (.iload_n 1, 1) := by decide +kernel
theorem dX6_day_19 : decode cX6_day 19 = .ok (.putfield 125, 3) := by decide +kernel
theorem dX6_day_22 : decode cX6_day 22 = .ok (.return_, 1) := by decide +kernel
abbrev cX6_mean : ByteArray := prog_1_method_13_code
def yX6_mean : MethodName := ⟨RX6, "mean", "(II)I"⟩
abbrev wX6_mean : Cond := .code yX6_mean cX6_mean 5 (some .int)
theorem kX6_mean : wX6_mean ∈ wG := mG 479 (by decide +kernel) rfl
theorem dX6_mean_0 : decode cX6_mean 0 = .ok (.iload_n 2, 1) := by decide +kernel
theorem dX6_mean_1 : decode cX6_mean 1 = .ok (.iconst 0, 1) := by decide +kernel
theorem dX6_mean_2 : decode cX6_mean 2 = .ok (.bipush 60, 2) := by decide +kernel
theorem dX6_mean_4 : decode cX6_mean 4 = .ok (.invokestatic 61, 3) := by decide +kernel
theorem dX6_mean_7 : decode cX6_mean 7 = .ok (.aload_n 0, 1) := by decide +kernel
theorem dX6_mean_8 : decode cX6_mean 8 = .ok (.iload_n 1, 1) := by decide +kernel
theorem dX6_mean_9 : decode cX6_mean 9 = .ok (.invokevirtual 110, 3) := by decide +kernel
theorem dX6_mean_12 : decode cX6_mean 12 = .ok (.astore_n 3, 1) := by decide +kernel
theorem dX6_mean_13 : decode cX6_mean 13 = .ok (.aload_n 0, 1) := by decide +kernel
theorem dX6_mean_14 : decode cX6_mean 14 = .ok (.getfield 34, 3) := by decide +kernel
theorem dX6_mean_17 : decode cX6_mean 17 = .ok (.iload_n 2, 1) := by decide +kernel
theorem dX6_mean_18 : decode cX6_mean 18 = .ok (.invokevirtual 167, 3) := by decide +kernel
theorem dX6_mean_21 : decode cX6_mean 21 = .ok (.istore 4, 2) := by decide +kernel
theorem dX6_mean_23 : decode cX6_mean 23 = .ok (.iload 4, 2) := by decide +kernel
theorem dX6_mean_25 : decode cX6_mean 25 = .ok (.ifCond .ne 13, 3) := by decide +kernel
theorem dX6_mean_28 : decode cX6_mean 28 = .ok (.new 171, 3) := by decide +kernel
theorem dX6_mean_31 : decode cX6_mean 31 = .ok (.dup, 1) := by decide +kernel
theorem dX6_mean_32 : decode cX6_mean 32 = .ok (.ldc 173, 2) := by decide +kernel
theorem dX6_mean_34 : decode cX6_mean 34 = .ok (.invokespecial 175, 3) := by decide +kernel
theorem dX6_mean_37 : decode cX6_mean 37 = .ok (.athrow, 1) := by decide +kernel
theorem dX6_mean_38 : decode cX6_mean 38 = .ok (.aload_n 0, 1) := by decide +kernel
theorem dX6_mean_39 : decode cX6_mean 39 = .ok (.aload_n 3, 1) := by decide +kernel
theorem dX6_mean_40 : decode cX6_mean 40 = .ok (.iload_n 2, 1) := by decide +kernel
theorem dX6_mean_41 : decode cX6_mean 41 = .ok (.invokevirtual 176, 3) := by decide +kernel
theorem dX6_mean_44 : decode cX6_mean 44 = .ok (.iload 4, 2) := by decide +kernel
theorem dX6_mean_46 : decode cX6_mean 46 = .ok (.i2l, 1) := by decide +kernel
theorem dX6_mean_47 : decode cX6_mean 47 = .ok (.ldiv, 1) := by decide +kernel
theorem dX6_mean_48 : decode cX6_mean 48 = .ok (.l2i, 1) := by decide +kernel
theorem dX6_mean_49 : decode cX6_mean 49 = .ok (.ireturn, 1) := by decide +kernel
abbrev cX6_forecast : ByteArray := prog_1_method_14_code
def yX6_forecast : MethodName := ⟨RX6, "forecast", "(I)J"⟩
abbrev wX6_forecast : Cond := .code yX6_forecast cX6_forecast 2 (some .long)
theorem kX6_forecast : wX6_forecast ∈ wG := mG 519 (by decide +kernel) rfl
theorem dX6_forecast_0 : decode cX6_forecast 0 = .ok (.aload_n 0, 1) := by decide +kernel
theorem dX6_forecast_1 : decode cX6_forecast 1 = .ok (.aload_n 0, 1) := by decide +kernel
theorem dX6_forecast_2 : decode cX6_forecast 2 = .ok (.iload_n 1, 1) := by decide +kernel
theorem dX6_forecast_3 : decode cX6_forecast 3 = .ok (.invokevirtual 110, 3) := by decide +kernel
theorem dX6_forecast_6 : decode cX6_forecast 6 = .ok (.invokevirtual 180, 3) := by decide +kernel
theorem dX6_forecast_9 : decode cX6_forecast 9 = .ok (.lreturn, 1) := by decide +kernel
abbrev cX6_threshold : ByteArray := prog_1_method_15_code
def yX6_threshold : MethodName := ⟨RX6, "threshold", "(I)I"⟩
abbrev wX6_threshold : Cond := .code yX6_threshold cX6_threshold 2 (some .int)
theorem kX6_threshold : wX6_threshold ∈ wG := mG 557 (by decide +kernel) rfl
theorem dX6_threshold_0 : decode cX6_threshold 0 = .ok (.aload_n 0, 1) := by decide +kernel
theorem dX6_threshold_1 : decode cX6_threshold 1 = .ok (.aload_n 0, 1) := by decide +kernel
theorem dX6_threshold_2 : decode cX6_threshold 2 = .ok (.iload_n 1, 1) := by decide +kernel
theorem dX6_threshold_3 : decode cX6_threshold 3 = .ok (.invokevirtual 110, 3) := by decide +kernel
theorem dX6_threshold_6 : decode cX6_threshold 6 = .ok (.invokevirtual 184, 3) := by decide +kernel
theorem dX6_threshold_9 : decode cX6_threshold 9 = .ok (.ireturn, 1) := by decide +kernel
abbrev cX6_above : ByteArray := prog_1_method_16_code
def yX6_above : MethodName := ⟨RX6, "above", "(I)Z"⟩
abbrev wX6_above : Cond := .code yX6_above cX6_above 3 (some .boolean)
theorem kX6_above : wX6_above ∈ wG := mG 582 (by decide +kernel) rfl
theorem dX6_above_0 : decode cX6_above 0 = .ok (.aload_n 0, 1) := by decide +kernel
theorem dX6_above_1 : decode cX6_above 1 = .ok (.iload_n 1, 1) := by decide +kernel
theorem dX6_above_2 : decode cX6_above 2 = .ok (.invokevirtual 110, 3) := by decide +kernel
theorem dX6_above_5 : decode cX6_above 5 = .ok (.astore_n 2, 1) := by decide +kernel
theorem dX6_above_6 : decode cX6_above 6 = .ok (.aload_n 0, 1) := by decide +kernel
theorem dX6_above_7 : decode cX6_above 7 = .ok (.aload_n 2, 1) := by decide +kernel
theorem dX6_above_8 : decode cX6_above 8 = .ok (.invokevirtual 188, 3) := by decide +kernel
theorem dX6_above_11 : decode cX6_above 11 = .ok (.aload_n 2, 1) := by decide +kernel
theorem dX6_above_12 : decode cX6_above 12 = .ok (.getfield 79, 3) := by decide +kernel
theorem dX6_above_15 : decode cX6_above 15 = .ok (.i2l, 1) := by decide +kernel
theorem dX6_above_16 : decode cX6_above 16 = .ok (.lcmp, 1) := by decide +kernel
theorem dX6_above_17 : decode cX6_above 17 = .ok (.ifCond .le 7, 3) := by decide +kernel
theorem dX6_above_20 : decode cX6_above 20 = .ok (.iconst 1, 1) := by decide +kernel
theorem dX6_above_21 : decode cX6_above 21 = .ok (.goto 4, 3) := by decide +kernel
theorem dX6_above_24 : decode cX6_above 24 = .ok (.iconst 0, 1) := by decide +kernel
theorem dX6_above_25 : decode cX6_above 25 = .ok (.ireturn, 1) := by decide +kernel
abbrev cX6_run : ByteArray := prog_1_method_17_code
def yX6_run : MethodName := ⟨RX6, "run", "()I"⟩
abbrev wX6_run : Cond := .code yX6_run cX6_run 3 (some .int)
theorem kX6_run : wX6_run ∈ wG := mG 589 (by decide +kernel) rfl
theorem dX6_run_0 : decode cX6_run 0 = .ok (.aload_n 0, 1) := by decide +kernel
theorem dX6_run_1 : decode cX6_run 1 = .ok (.getfield 34, 3) := by decide +kernel
theorem dX6_run_4 : decode cX6_run 4 = .ok (.aload_n 0, 1) := by decide +kernel
theorem dX6_run_5 : decode cX6_run 5 = .ok (.getfield 34, 3) := by decide +kernel
theorem dX6_run_8 : decode cX6_run 8 = .ok (.getfield 125, 3) := by decide +kernel
theorem dX6_run_11 : decode cX6_run 11 = .ok (.invokevirtual 191, 3) := by decide +kernel
theorem dX6_run_14 : decode cX6_run 14 = .ok (.ifCond .ne 13, 3) := by decide +kernel
theorem dX6_run_17 : decode cX6_run 17 = .ok (.new 72, 3) := by decide +kernel
theorem dX6_run_20 : decode cX6_run 20 = .ok (.dup, 1) := by decide +kernel
theorem dX6_run_21 : decode cX6_run 21 = .ok (.ldc 194, 2) := by decide +kernel
theorem dX6_run_23 : decode cX6_run 23 = .ok (.invokespecial 76, 3) := by decide +kernel
theorem dX6_run_26 : decode cX6_run 26 = .ok (.athrow, 1) := by decide +kernel
theorem dX6_run_27 : decode cX6_run 27 = .ok (.aload_n 0, 1) := by decide +kernel
theorem dX6_run_28 : decode cX6_run 28 = .ok (.getfield 48, 3) := by decide +kernel
theorem dX6_run_31 : decode cX6_run 31 = .ok (.invokevirtual 196, 3) := by decide +kernel
theorem dX6_run_34 : decode cX6_run 34 = .ok (.iconst 0, 1) := by decide +kernel
theorem dX6_run_35 : decode cX6_run 35 = .ok (.istore_n 1, 1) := by decide +kernel
theorem dX6_run_36 : decode cX6_run 36 = .ok (.iload_n 1, 1) := by decide +kernel
theorem dX6_run_37 : decode cX6_run 37 = .ok (.bipush 16, 2) := by decide +kernel
theorem dX6_run_39 : decode cX6_run 39 = .ok (.if_icmp .ge 19, 3) := by decide +kernel
theorem dX6_run_42 : decode cX6_run 42 = .ok (.aload_n 0, 1) := by decide +kernel
theorem dX6_run_43 : decode cX6_run 43 = .ok (.aload_n 0, 1) := by decide +kernel
theorem dX6_run_44 : decode cX6_run 44 = .ok (.getfield 11, 3) := by decide +kernel
theorem dX6_run_47 : decode cX6_run 47 = .ok (.iload_n 1, 1) := by decide +kernel
theorem dX6_run_48 : decode cX6_run 48 = .ok (.aaload, 1) := by decide +kernel
theorem dX6_run_49 : decode cX6_run 49 = .ok (.invokevirtual 199, 3) := by decide +kernel
theorem dX6_run_52 : decode cX6_run 52 = .ok (.iinc 1 1, 3) := by decide +kernel
theorem dX6_run_55 : decode cX6_run 55 = .ok (.goto (-19), 3) := by decide +kernel
theorem dX6_run_58 : decode cX6_run 58 = .ok (.iconst 0, 1) := by decide +kernel
theorem dX6_run_59 : decode cX6_run 59 = .ok (.istore_n 1, 1) := by decide +kernel
theorem dX6_run_60 : decode cX6_run 60 = .ok (.iload_n 1, 1) := by decide +kernel
theorem dX6_run_61 : decode cX6_run 61 = .ok (.bipush 16, 2) := by decide +kernel
theorem dX6_run_63 : decode cX6_run 63 = .ok (.if_icmp .ge 26, 3) := by decide +kernel
theorem dX6_run_66 : decode cX6_run 66 = .ok (.aload_n 0, 1) := by decide +kernel
theorem dX6_run_67 : decode cX6_run 67 = .ok (.invokevirtual 203, 3) := by decide +kernel
theorem dX6_run_70 : decode cX6_run 70 = .ok (.astore_n 2, 1) := by decide +kernel
theorem dX6_run_71 : decode cX6_run 71 = .ok (.aload_n 2, 1) := by decide +kernel
theorem dX6_run_72 : decode cX6_run 72 = .ok (.ifnonnull 6, 3) := by decide +kernel
theorem dX6_run_75 : decode cX6_run 75 = .ok (.goto 14, 3) := by decide +kernel
theorem dX6_run_78 : decode cX6_run 78 = .ok (.aload_n 0, 1) := by decide +kernel
theorem dX6_run_79 : decode cX6_run 79 = .ok (.aload_n 2, 1) := by decide +kernel
theorem dX6_run_80 : decode cX6_run 80 = .ok (.invokevirtual 207, 3) := by decide +kernel
theorem dX6_run_83 : decode cX6_run 83 = .ok (.iinc 1 1, 3) := by decide +kernel
theorem dX6_run_86 : decode cX6_run 86 = .ok (.goto (-26), 3) := by decide +kernel
theorem dX6_run_89 : decode cX6_run 89 = .ok (.aload_n 0, 1) := by decide +kernel
theorem dX6_run_90 : decode cX6_run 90 = .ok (.getfield 48, 3) := by decide +kernel
theorem dX6_run_93 : decode cX6_run 93 = .ok (.getfield 210, 3) := by decide +kernel
theorem dX6_run_96 : decode cX6_run 96 = .ok (.ireturn, 1) := by decide +kernel
abbrev cX6_move : ByteArray := prog_1_method_18_code
def yX6_move : MethodName := ⟨RX6, "move", "(II)I"⟩
abbrev wX6_move : Cond := .code yX6_move cX6_move 4 (some .int)
theorem kX6_move : wX6_move ∈ wG := mG 657 (by decide +kernel) rfl
theorem dX6_move_0 : decode cX6_move 0 = .ok (.aload_n 0, 1) := by decide +kernel
theorem dX6_move_1 : decode cX6_move 1 = .ok (.getfield 48, 3) := by decide +kernel
theorem dX6_move_4 : decode cX6_move 4 = .ok (.iload_n 1, 1) := by decide +kernel
theorem dX6_move_5 : decode cX6_move 5 = .ok (.invokevirtual 211, 3) := by decide +kernel
theorem dX6_move_8 : decode cX6_move 8 = .ok (.astore_n 3, 1) := by decide +kernel
theorem dX6_move_9 : decode cX6_move 9 = .ok (.iload_n 2, 1) := by decide +kernel
theorem dX6_move_10 : decode cX6_move 10 = .ok (.iconst 0, 1) := by decide +kernel
theorem dX6_move_11 : decode cX6_move 11 = .ok (.bipush 6, 2) := by decide +kernel
theorem dX6_move_13 : decode cX6_move 13 = .ok (.invokestatic 61, 3) := by decide +kernel
theorem dX6_move_16 : decode cX6_move 16 = .ok (.aload_n 3, 1) := by decide +kernel
theorem dX6_move_17 : decode cX6_move 17 = .ok (.iload_n 2, 1) := by decide +kernel
theorem dX6_move_18 : decode cX6_move 18 = .ok (.invokevirtual 215, 3) := by decide +kernel
theorem dX6_move_21 : decode cX6_move 21 = .ok (.ireturn, 1) := by decide +kernel
abbrev cX6_done : ByteArray := prog_1_method_19_code
def yX6_done : MethodName := ⟨RX6, "done", "(I)V"⟩
abbrev wX6_done : Cond := .code yX6_done cX6_done 6 none
theorem kX6_done : wX6_done ∈ wG := mG 688 (by decide +kernel) rfl
theorem dX6_done_0 : decode cX6_done 0 = .ok (.aload_n 0, 1) := by decide +kernel
theorem dX6_done_1 : decode cX6_done 1 = .ok (.getfield 48, 3) := by decide +kernel
theorem dX6_done_4 : decode cX6_done 4 = .ok (.iload_n 1, 1) := by decide +kernel
theorem dX6_done_5 : decode cX6_done 5 = .ok (.invokevirtual 211, 3) := by decide +kernel
theorem dX6_done_8 : decode cX6_done 8 = .ok (.astore_n 2, 1) := by decide +kernel
theorem dX6_done_9 : decode cX6_done 9 = .ok (.aload_n 0, 1) := by decide +kernel
theorem dX6_done_10 : decode cX6_done 10 = .ok (.getfield 11, 3) := by decide +kernel
theorem dX6_done_13 : decode cX6_done 13 = .ok (.aload_n 2, 1) := by decide +kernel
theorem dX6_done_14 : decode cX6_done 14 = .ok (.getfield 220, 3) := by decide +kernel
theorem dX6_done_17 : decode cX6_done 17 = .ok (.aaload, 1) := by decide +kernel
theorem dX6_done_18 : decode cX6_done 18 = .ok (.astore_n 3, 1) := by decide +kernel
theorem dX6_done_19 : decode cX6_done 19 = .ok (.aload_n 0, 1) := by decide +kernel
theorem dX6_done_20 : decode cX6_done 20 = .ok (.getfield 11, 3) := by decide +kernel
theorem dX6_done_23 : decode cX6_done 23 = .ok (.aload_n 2, 1) := by decide +kernel
theorem dX6_done_24 : decode cX6_done 24 = .ok (.getfield 223, 3) := by decide +kernel
theorem dX6_done_27 : decode cX6_done 27 = .ok (.aaload, 1) := by decide +kernel
theorem dX6_done_28 : decode cX6_done 28 = .ok (.astore 4, 2) := by decide +kernel
theorem dX6_done_30 : decode cX6_done 30 = .ok (.aload 4, 2) := by decide +kernel
theorem dX6_done_32 : decode cX6_done 32 = .ok (.getfield 91, 3) := by decide +kernel
theorem dX6_done_35 : decode cX6_done 35 = .ok (.istore 5, 2) := by decide +kernel
theorem dX6_done_37 : decode cX6_done 37 = .ok (.aload_n 2, 1) := by decide +kernel
theorem dX6_done_38 : decode cX6_done 38 = .ok (.getfield 226, 3) := by decide +kernel
theorem dX6_done_41 : decode cX6_done 41 = .ok (.ifCond .eq 13, 3) := by decide +kernel
theorem dX6_done_44 : decode cX6_done 44 = .ok (.new 72, 3) := by decide +kernel
theorem dX6_done_47 : decode cX6_done 47 = .ok (.dup, 1) := by decide +kernel
theorem dX6_done_48 : decode cX6_done 48 = .ok (.ldc 230, 2) := by decide +kernel
theorem dX6_done_50 : decode cX6_done 50 = .ok (.invokespecial 76, 3) := by decide +kernel
theorem dX6_done_53 : decode cX6_done 53 = .ok (.athrow, 1) := by decide +kernel
theorem dX6_done_54 : decode cX6_done 54 = .ok (.aload_n 3, 1) := by decide +kernel
theorem dX6_done_55 : decode cX6_done 55 = .ok (.getfield 232, 3) := by decide +kernel
theorem dX6_done_58 : decode cX6_done 58 = .ok (.iload 5, 2) := by decide +kernel
theorem dX6_done_60 : decode cX6_done 60 = .ok (.if_icmp .ne 14, 3) := by decide +kernel
theorem dX6_done_63 : decode cX6_done 63 = .ok (.aload_n 3, 1) := by decide +kernel
theorem dX6_done_64 : decode cX6_done 64 = .ok (.invokevirtual 113, 3) := by decide +kernel
theorem dX6_done_67 : decode cX6_done 67 = .ok (.aload_n 2, 1) := by decide +kernel
theorem dX6_done_68 : decode cX6_done 68 = .ok (.getfield 235, 3) := by decide +kernel
theorem dX6_done_71 : decode cX6_done 71 = .ok (.if_icmp .ge 13, 3) := by decide +kernel
theorem dX6_done_74 : decode cX6_done 74 = .ok (.new 72, 3) := by decide +kernel
theorem dX6_done_77 : decode cX6_done 77 = .ok (.dup, 1) := by decide +kernel
theorem dX6_done_78 : decode cX6_done 78 = .ok (.ldc 236, 2) := by decide +kernel
theorem dX6_done_80 : decode cX6_done 80 = .ok (.invokespecial 76, 3) := by decide +kernel
theorem dX6_done_83 : decode cX6_done 83 = .ok (.athrow, 1) := by decide +kernel
theorem dX6_done_84 : decode cX6_done 84 = .ok (.aload 4, 2) := by decide +kernel
theorem dX6_done_86 : decode cX6_done 86 = .ok (.iload 5, 2) := by decide +kernel
theorem dX6_done_88 : decode cX6_done 88 = .ok (.invokevirtual 85, 3) := by decide +kernel
theorem dX6_done_91 : decode cX6_done 91 = .ok (.ifCond .eq 13, 3) := by decide +kernel
theorem dX6_done_94 : decode cX6_done 94 = .ok (.new 72, 3) := by decide +kernel
theorem dX6_done_97 : decode cX6_done 97 = .ok (.dup, 1) := by decide +kernel
theorem dX6_done_98 : decode cX6_done 98 = .ok (.ldc 238, 2) := by decide +kernel
theorem dX6_done_100 : decode cX6_done 100 = .ok (.invokespecial 76, 3) := by decide +kernel
theorem dX6_done_103 : decode cX6_done 103 = .ok (.athrow, 1) := by decide +kernel
theorem dX6_done_104 : decode cX6_done 104 = .ok (.aload 4, 2) := by decide +kernel
theorem dX6_done_106 : decode cX6_done 106 = .ok (.aload_n 2, 1) := by decide +kernel
theorem dX6_done_107 : decode cX6_done 107 = .ok (.getfield 235, 3) := by decide +kernel
theorem dX6_done_110 : decode cX6_done 110 = .ok (.invokestatic 102, 3) := by decide +kernel
theorem dX6_done_113 : decode cX6_done 113 = .ok (.aload_n 3, 1) := by decide +kernel
theorem dX6_done_114 : decode cX6_done 114 = .ok (.aload_n 2, 1) := by decide +kernel
theorem dX6_done_115 : decode cX6_done 115 = .ok (.getfield 235, 3) := by decide +kernel
theorem dX6_done_118 : decode cX6_done 118 = .ok (.invokevirtual 119, 3) := by decide +kernel
theorem dX6_done_121 : decode cX6_done 121 = .ok (.aload 4, 2) := by decide +kernel
theorem dX6_done_123 : decode cX6_done 123 = .ok (.iload 5, 2) := by decide +kernel
theorem dX6_done_125 : decode cX6_done 125 = .ok (.aload_n 2, 1) := by decide +kernel
theorem dX6_done_126 : decode cX6_done 126 = .ok (.getfield 235, 3) := by decide +kernel
theorem dX6_done_129 : decode cX6_done 129 = .ok (.invokevirtual 106, 3) := by decide +kernel
theorem dX6_done_132 : decode cX6_done 132 = .ok (.aload_n 2, 1) := by decide +kernel
theorem dX6_done_133 : decode cX6_done 133 = .ok (.iconst 1, 1) := by decide +kernel
theorem dX6_done_134 : decode cX6_done 134 = .ok (.putfield 226, 3) := by decide +kernel
theorem dX6_done_137 : decode cX6_done 137 = .ok (.return_, 1) := by decide +kernel
abbrev cX6_told : ByteArray := prog_1_method_20_code
def yX6_told : MethodName := ⟨RX6, "told", "(II)I"⟩
abbrev wX6_told : Cond := .code yX6_told cX6_told 4 (some .int)
theorem kX6_told : wX6_told ∈ wG := mG 698 (by decide +kernel) rfl
theorem dX6_told_0 : decode cX6_told 0 = .ok (.aload_n 0, 1) := by decide +kernel
theorem dX6_told_1 : decode cX6_told 1 = .ok (.iload_n 1, 1) := by decide +kernel
theorem dX6_told_2 : decode cX6_told 2 = .ok (.invokevirtual 56, 3) := by decide +kernel
theorem dX6_told_5 : decode cX6_told 5 = .ok (.astore_n 3, 1) := by decide +kernel
theorem dX6_told_6 : decode cX6_told 6 = .ok (.iload_n 2, 1) := by decide +kernel
theorem dX6_told_7 : decode cX6_told 7 = .ok (.iconst 0, 1) := by decide +kernel
theorem dX6_told_8 : decode cX6_told 8 = .ok (.iconst 5, 1) := by decide +kernel
theorem dX6_told_9 : decode cX6_told 9 = .ok (.invokestatic 61, 3) := by decide +kernel
theorem dX6_told_12 : decode cX6_told 12 = .ok (.aload_n 3, 1) := by decide +kernel
theorem dX6_told_13 : decode cX6_told 13 = .ok (.iload_n 2, 1) := by decide +kernel
theorem dX6_told_14 : decode cX6_told 14 = .ok (.invokevirtual 240, 3) := by decide +kernel
theorem dX6_told_17 : decode cX6_told 17 = .ok (.ireturn, 1) := by decide +kernel
abbrev cX6_checkRange : ByteArray := prog_1_method_21_code
def yX6_checkRange : MethodName := ⟨RX6, "checkRange", "(III)V"⟩
abbrev wX6_checkRange : Cond := .code yX6_checkRange cX6_checkRange 3 none
theorem kX6_checkRange : wX6_checkRange ∈ wG := mG 249 (by decide +kernel) rfl
theorem dX6_checkRange_0 : decode cX6_checkRange 0 = .ok (.iload_n 0, 1) := by decide +kernel
theorem dX6_checkRange_1 : decode cX6_checkRange 1 = .ok (.iload_n 1, 1) := by decide +kernel
theorem dX6_checkRange_2 : decode cX6_checkRange 2 = .ok (.if_icmp .lt 8, 3) := by decide +kernel
theorem dX6_checkRange_5 : decode cX6_checkRange 5 = .ok (.iload_n 0, 1) := by decide +kernel
theorem dX6_checkRange_6 : decode cX6_checkRange 6 = .ok (.iload_n 2, 1) := by decide +kernel
theorem dX6_checkRange_7 : decode cX6_checkRange 7 = .ok (.if_icmp .le 13, 3) := by decide +kernel
theorem dX6_checkRange_10 : decode cX6_checkRange 10 = .ok (.new 128, 3) := by decide +kernel
theorem dX6_checkRange_13 : decode cX6_checkRange 13 = .ok (.dup, 1) := by decide +kernel
theorem dX6_checkRange_14 : decode cX6_checkRange 14 = .ok (.ldc 241, 2) := by decide +kernel
theorem dX6_checkRange_16 : decode cX6_checkRange 16 = .ok (.invokespecial 132, 3) := by decide +kernel
theorem dX6_checkRange_19 : decode cX6_checkRange 19 = .ok (.athrow, 1) := by decide +kernel
theorem dX6_checkRange_20 : decode cX6_checkRange 20 = .ok (.return_, 1) := by decide +kernel
abbrev cX6_checkSpace : ByteArray := prog_1_method_22_code
def yX6_checkSpace : MethodName := ⟨RX6, "checkSpace", "(LReplenishRules$Place;I)V"⟩
abbrev wX6_checkSpace : Cond := .code yX6_checkSpace cX6_checkSpace 2 none
theorem kX6_checkSpace : wX6_checkSpace ∈ wG := mG 368 (by decide +kernel) rfl
theorem dX6_checkSpace_0 : decode cX6_checkSpace 0 = .ok (.aload_n 0, 1) := by decide +kernel
theorem dX6_checkSpace_1 : decode cX6_checkSpace 1 = .ok (.invokevirtual 243, 3) := by decide +kernel
theorem dX6_checkSpace_4 : decode cX6_checkSpace 4 = .ok (.iload_n 1, 1) := by decide +kernel
theorem dX6_checkSpace_5 : decode cX6_checkSpace 5 = .ok (.if_icmp .ge 13, 3) := by decide +kernel
theorem dX6_checkSpace_8 : decode cX6_checkSpace 8 = .ok (.new 150, 3) := by decide +kernel
theorem dX6_checkSpace_11 : decode cX6_checkSpace 11 = .ok (.dup, 1) := by decide +kernel
theorem dX6_checkSpace_12 : decode cX6_checkSpace 12 = .ok (.ldc 246, 2) := by decide +kernel
theorem dX6_checkSpace_14 : decode cX6_checkSpace 14 = .ok (.invokespecial 154, 3) := by decide +kernel
theorem dX6_checkSpace_17 : decode cX6_checkSpace 17 = .ok (.athrow, 1) := by decide +kernel
theorem dX6_checkSpace_18 : decode cX6_checkSpace 18 = .ok (.return_, 1) := by decide +kernel
abbrev cX6_placeAt : ByteArray := prog_1_method_23_code
def yX6_placeAt : MethodName := ⟨RX6, "placeAt", "(I)LReplenishRules$Place;"⟩
abbrev wX6_placeAt : Cond := .code yX6_placeAt cX6_placeAt 2 (some (.object "ReplenishRules$Place"))
theorem kX6_placeAt : wX6_placeAt ∈ wG := mG 246 (by decide +kernel) rfl
theorem dX6_placeAt_0 : decode cX6_placeAt 0 = .ok (.iload_n 1, 1) := by decide +kernel
theorem dX6_placeAt_1 : decode cX6_placeAt 1 = .ok (.iconst 0, 1) := by decide +kernel
theorem dX6_placeAt_2 : decode cX6_placeAt 2 = .ok (.bipush 15, 2) := by decide +kernel
theorem dX6_placeAt_4 : decode cX6_placeAt 4 = .ok (.invokestatic 61, 3) := by decide +kernel
theorem dX6_placeAt_7 : decode cX6_placeAt 7 = .ok (.aload_n 0, 1) := by decide +kernel
theorem dX6_placeAt_8 : decode cX6_placeAt 8 = .ok (.getfield 11, 3) := by decide +kernel
theorem dX6_placeAt_11 : decode cX6_placeAt 11 = .ok (.iload_n 1, 1) := by decide +kernel
theorem dX6_placeAt_12 : decode cX6_placeAt 12 = .ok (.aaload, 1) := by decide +kernel
theorem dX6_placeAt_13 : decode cX6_placeAt 13 = .ok (.areturn, 1) := by decide +kernel
abbrev cX6_faceAt : ByteArray := prog_1_method_24_code
def yX6_faceAt : MethodName := ⟨RX6, "faceAt", "(I)LReplenishRules$Place;"⟩
abbrev wX6_faceAt : Cond := .code yX6_faceAt cX6_faceAt 3 (some (.object "ReplenishRules$Place"))
theorem kX6_faceAt : wX6_faceAt ∈ wG := mG 403 (by decide +kernel) rfl
theorem dX6_faceAt_0 : decode cX6_faceAt 0 = .ok (.aload_n 0, 1) := by decide +kernel
theorem dX6_faceAt_1 : decode cX6_faceAt 1 = .ok (.iload_n 1, 1) := by decide +kernel
theorem dX6_faceAt_2 : decode cX6_faceAt 2 = .ok (.invokevirtual 56, 3) := by decide +kernel
theorem dX6_faceAt_5 : decode cX6_faceAt 5 = .ok (.astore_n 2, 1) := by decide +kernel
theorem dX6_faceAt_6 : decode cX6_faceAt 6 = .ok (.aload_n 2, 1) := by decide +kernel
theorem dX6_faceAt_7 : decode cX6_faceAt 7 = .ok (.invokevirtual 248, 3) := by decide +kernel
theorem dX6_faceAt_10 : decode cX6_faceAt 10 = .ok (.ifCond .ne 13, 3) := by decide +kernel
theorem dX6_faceAt_13 : decode cX6_faceAt 13 = .ok (.new 72, 3) := by decide +kernel
theorem dX6_faceAt_16 : decode cX6_faceAt 16 = .ok (.dup, 1) := by decide +kernel
theorem dX6_faceAt_17 : decode cX6_faceAt 17 = .ok (.ldc 252, 2) := by decide +kernel
theorem dX6_faceAt_19 : decode cX6_faceAt 19 = .ok (.invokespecial 76, 3) := by decide +kernel
theorem dX6_faceAt_22 : decode cX6_faceAt 22 = .ok (.athrow, 1) := by decide +kernel
theorem dX6_faceAt_23 : decode cX6_faceAt 23 = .ok (.aload_n 2, 1) := by decide +kernel
theorem dX6_faceAt_24 : decode cX6_faceAt 24 = .ok (.areturn, 1) := by decide +kernel
abbrev cX6_usedOnAllDays : ByteArray := prog_1_method_25_code
def yX6_usedOnAllDays : MethodName := ⟨RX6, "usedOnAllDays", "(LReplenishRules$Place;I)J"⟩
abbrev wX6_usedOnAllDays : Cond := .code yX6_usedOnAllDays cX6_usedOnAllDays 6 (some .long)
theorem kX6_usedOnAllDays : wX6_usedOnAllDays ∈ wG := mG 511 (by decide +kernel) rfl
theorem dX6_usedOnAllDays_0 : decode cX6_usedOnAllDays 0 = .ok (.lconst 0, 1) := by decide +kernel
theorem dX6_usedOnAllDays_1 : decode cX6_usedOnAllDays 1 = .ok (.lstore_n 3, 1) := by decide +kernel
theorem dX6_usedOnAllDays_2 : decode cX6_usedOnAllDays 2 = .ok (.aload_n 0, 1) := by decide +kernel
theorem dX6_usedOnAllDays_3 : decode cX6_usedOnAllDays 3 = .ok (.getfield 34, 3) := by decide +kernel
theorem dX6_usedOnAllDays_6 : decode cX6_usedOnAllDays 6 = .ok (.iload_n 2, 1) := by decide +kernel
theorem dX6_usedOnAllDays_7 : decode cX6_usedOnAllDays 7 = .ok (.invokevirtual 254, 3) := by decide +kernel
theorem dX6_usedOnAllDays_10 : decode cX6_usedOnAllDays 10 = .ok (.istore 5, 2) := by decide +kernel
theorem dX6_usedOnAllDays_12 : decode cX6_usedOnAllDays 12 = .ok (.iload 5, 2) := by decide +kernel
theorem dX6_usedOnAllDays_14 : decode cX6_usedOnAllDays 14 = .ok (.aload_n 0, 1) := by decide +kernel
theorem dX6_usedOnAllDays_15 : decode cX6_usedOnAllDays 15 = .ok (.getfield 34, 3) := by decide +kernel
theorem dX6_usedOnAllDays_18 : decode cX6_usedOnAllDays 18 = .ok (.getfield 125, 3) := by decide +kernel
theorem dX6_usedOnAllDays_21 : decode cX6_usedOnAllDays 21 = .ok (.if_icmp .ge 20, 3) := by decide +kernel
theorem dX6_usedOnAllDays_24 : decode cX6_usedOnAllDays 24 = .ok (.lload_n 3, 1) := by decide +kernel
theorem dX6_usedOnAllDays_25 : decode cX6_usedOnAllDays 25 = .ok (.aload_n 1, 1) := by decide +kernel
theorem dX6_usedOnAllDays_26 : decode cX6_usedOnAllDays 26 = .ok (.getfield 122, 3) := by decide +kernel
theorem dX6_usedOnAllDays_29 : decode cX6_usedOnAllDays 29 = .ok (.iload 5, 2) := by decide +kernel
theorem dX6_usedOnAllDays_31 : decode cX6_usedOnAllDays 31 = .ok (.iaload, 1) := by decide +kernel
theorem dX6_usedOnAllDays_32 : decode cX6_usedOnAllDays 32 = .ok (.i2l, 1) := by decide +kernel
theorem dX6_usedOnAllDays_33 : decode cX6_usedOnAllDays 33 = .ok (.ladd, 1) := by decide +kernel
theorem dX6_usedOnAllDays_34 : decode cX6_usedOnAllDays 34 = .ok (.lstore_n 3, 1) := by decide +kernel
theorem dX6_usedOnAllDays_35 : decode cX6_usedOnAllDays 35 = .ok (.iinc 5 1, 3) := by decide +kernel
theorem dX6_usedOnAllDays_38 : decode cX6_usedOnAllDays 38 = .ok (.goto (-26), 3) := by decide +kernel
theorem dX6_usedOnAllDays_41 : decode cX6_usedOnAllDays 41 = .ok (.lload_n 3, 1) := by decide +kernel
theorem dX6_usedOnAllDays_42 : decode cX6_usedOnAllDays 42 = .ok (.lreturn, 1) := by decide +kernel
abbrev cX6_usedOnPastDays : ByteArray := prog_1_method_26_code
def yX6_usedOnPastDays : MethodName := ⟨RX6, "usedOnPastDays", "(LReplenishRules$Place;)J"⟩
abbrev wX6_usedOnPastDays : Cond := .code yX6_usedOnPastDays cX6_usedOnPastDays 5 (some .long)
theorem kX6_usedOnPastDays : wX6_usedOnPastDays ∈ wG := mG 539 (by decide +kernel) rfl
theorem dX6_usedOnPastDays_0 : decode cX6_usedOnPastDays 0 = .ok (.lconst 0, 1) := by decide +kernel
theorem dX6_usedOnPastDays_1 : decode cX6_usedOnPastDays 1 = .ok (.lstore_n 2, 1) := by decide +kernel
theorem dX6_usedOnPastDays_2 : decode cX6_usedOnPastDays 2 = .ok (.aload_n 0, 1) := by decide +kernel
theorem dX6_usedOnPastDays_3 : decode cX6_usedOnPastDays 3 = .ok (.getfield 34, 3) := by decide +kernel
theorem dX6_usedOnPastDays_6 : decode cX6_usedOnPastDays 6 = .ok (.bipush 28, 2) := by decide +kernel
theorem dX6_usedOnPastDays_8 : decode cX6_usedOnPastDays 8 = .ok (.invokevirtual 254, 3) := by decide +kernel
theorem dX6_usedOnPastDays_11 : decode cX6_usedOnPastDays 11 = .ok (.istore 4, 2) := by decide +kernel
theorem dX6_usedOnPastDays_13 : decode cX6_usedOnPastDays 13 = .ok (.iload 4, 2) := by decide +kernel
theorem dX6_usedOnPastDays_15 : decode cX6_usedOnPastDays 15 = .ok (.aload_n 0, 1) := by decide +kernel
theorem dX6_usedOnPastDays_16 : decode cX6_usedOnPastDays 16 = .ok (.getfield 34, 3) := by decide +kernel
theorem dX6_usedOnPastDays_19 : decode cX6_usedOnPastDays 19 = .ok (.getfield 125, 3) := by decide +kernel
theorem dX6_usedOnPastDays_22 : decode cX6_usedOnPastDays 22 = .ok (.if_icmp .ge 32, 3) := by decide +kernel
theorem dX6_usedOnPastDays_25 : decode cX6_usedOnPastDays 25 = .ok (.aload_n 0, 1) := by decide +kernel
theorem dX6_usedOnPastDays_26 : decode cX6_usedOnPastDays 26 = .ok (.getfield 34, 3) := by decide +kernel
theorem dX6_usedOnPastDays_29 : decode cX6_usedOnPastDays 29 = .ok (.iload 4, 2) := by decide +kernel
theorem dX6_usedOnPastDays_31 : decode cX6_usedOnPastDays 31 = .ok (.invokevirtual 191, 3) := by decide +kernel
theorem dX6_usedOnPastDays_34 : decode cX6_usedOnPastDays 34 = .ok (.ifCond .eq 14, 3) := by decide +kernel
theorem dX6_usedOnPastDays_37 : decode cX6_usedOnPastDays 37 = .ok (.lload_n 2, 1) := by decide +kernel
theorem dX6_usedOnPastDays_38 : decode cX6_usedOnPastDays 38 = .ok (.aload_n 1, 1) := by decide +kernel
theorem dX6_usedOnPastDays_39 : decode cX6_usedOnPastDays 39 = .ok (.getfield 122, 3) := by decide +kernel
theorem dX6_usedOnPastDays_42 : decode cX6_usedOnPastDays 42 = .ok (.iload 4, 2) := by decide +kernel
theorem dX6_usedOnPastDays_44 : decode cX6_usedOnPastDays 44 = .ok (.iaload, 1) := by decide +kernel
theorem dX6_usedOnPastDays_45 : decode cX6_usedOnPastDays 45 = .ok (.i2l, 1) := by decide +kernel
theorem dX6_usedOnPastDays_46 : decode cX6_usedOnPastDays 46 = .ok (.ladd, 1) := by decide +kernel
theorem dX6_usedOnPastDays_47 : decode cX6_usedOnPastDays 47 = .ok (.lstore_n 2, 1) := by decide +kernel
theorem dX6_usedOnPastDays_48 : decode cX6_usedOnPastDays 48 = .ok (.iinc 4 1, 3) := by decide +kernel
theorem dX6_usedOnPastDays_51 : decode cX6_usedOnPastDays 51 = .ok (.goto (-38), 3) := by decide +kernel
theorem dX6_usedOnPastDays_54 : decode cX6_usedOnPastDays 54 = .ok (.lload_n 2, 1) := by decide +kernel
theorem dX6_usedOnPastDays_55 : decode cX6_usedOnPastDays 55 = .ok (.lreturn, 1) := by decide +kernel
abbrev cX6_fadingUse : ByteArray := prog_1_method_27_code
def yX6_fadingUse : MethodName := ⟨RX6, "fadingUse", "(LReplenishRules$Place;)J"⟩
abbrev wX6_fadingUse : Cond := .code yX6_fadingUse cX6_fadingUse 5 (some .long)
theorem kX6_fadingUse : wX6_fadingUse ∈ wG := mG 547 (by decide +kernel) rfl
theorem dX6_fadingUse_0 : decode cX6_fadingUse 0 = .ok (.lconst 0, 1) := by decide +kernel
theorem dX6_fadingUse_1 : decode cX6_fadingUse 1 = .ok (.lstore_n 2, 1) := by decide +kernel
theorem dX6_fadingUse_2 : decode cX6_fadingUse 2 = .ok (.aload_n 0, 1) := by decide +kernel
theorem dX6_fadingUse_3 : decode cX6_fadingUse 3 = .ok (.getfield 34, 3) := by decide +kernel
theorem dX6_fadingUse_6 : decode cX6_fadingUse 6 = .ok (.bipush 28, 2) := by decide +kernel
theorem dX6_fadingUse_8 : decode cX6_fadingUse 8 = .ok (.invokevirtual 254, 3) := by decide +kernel
theorem dX6_fadingUse_11 : decode cX6_fadingUse 11 = .ok (.istore 4, 2) := by decide +kernel
theorem dX6_fadingUse_13 : decode cX6_fadingUse 13 = .ok (.iload 4, 2) := by decide +kernel
