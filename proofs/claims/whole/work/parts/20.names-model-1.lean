theorem dX7_put_77 : decode cX7_put 77 = .ok (.getfield 16, 3) := by decide +kernel
theorem dX7_put_80 : decode cX7_put 80 = .ok (.iload_n 1, 1) := by decide +kernel
theorem dX7_put_81 : decode cX7_put 81 = .ok (.iaload, 1) := by decide +kernel
theorem dX7_put_82 : decode cX7_put 82 = .ok (.iload_n 3, 1) := by decide +kernel
theorem dX7_put_83 : decode cX7_put 83 = .ok (.iadd, 1) := by decide +kernel
theorem dX7_put_84 : decode cX7_put 84 = .ok (.aload_n 0, 1) := by decide +kernel
theorem dX7_put_85 : decode cX7_put 85 = .ok (.getfield 7, 3) := by decide +kernel
theorem dX7_put_88 : decode cX7_put 88 = .ok (.iload_n 1, 1) := by decide +kernel
theorem dX7_put_89 : decode cX7_put 89 = .ok (.iaload, 1) := by decide +kernel
theorem dX7_put_90 : decode cX7_put 90 = .ok (.if_icmp .le 7, 3) := by decide +kernel
theorem dX7_put_93 : decode cX7_put 93 = .ok (.iconst 3, 1) := by decide +kernel
theorem dX7_put_94 : decode cX7_put 94 = .ok (.goto 4, 3) := by decide +kernel
theorem dX7_put_97 : decode cX7_put 97 = .ok (.iconst 0, 1) := by decide +kernel
theorem dX7_put_98 : decode cX7_put 98 = .ok (.putfield 98, 3) := by decide +kernel
theorem dX7_put_101 : decode cX7_put 101 = .ok (.aload_n 0, 1) := by decide +kernel
theorem dX7_put_102 : decode cX7_put 102 = .ok (.getfield 98, 3) := by decide +kernel
theorem dX7_put_105 : decode cX7_put 105 = .ok (.ifCond .ne 20, 3) := by decide +kernel
theorem dX7_put_108 : decode cX7_put 108 = .ok (.aload_n 0, 1) := by decide +kernel
theorem dX7_put_109 : decode cX7_put 109 = .ok (.getfield 16, 3) := by decide +kernel
theorem dX7_put_112 : decode cX7_put 112 = .ok (.iload_n 1, 1) := by decide +kernel
theorem dX7_put_113 : decode cX7_put 113 = .ok (.dup2, 1) := by decide +kernel
theorem dX7_put_114 : decode cX7_put 114 = .ok (.iaload, 1) := by decide +kernel
theorem dX7_put_115 : decode cX7_put 115 = .ok (.iload_n 3, 1) := by decide +kernel
theorem dX7_put_116 : decode cX7_put 116 = .ok (.iadd, 1) := by decide +kernel
theorem dX7_put_117 : decode cX7_put 117 = .ok (.iastore, 1) := by decide +kernel
theorem dX7_put_118 : decode cX7_put 118 = .ok (.aload_n 0, 1) := by decide +kernel
theorem dX7_put_119 : decode cX7_put 119 = .ok (.getfield 19, 3) := by decide +kernel
theorem dX7_put_122 : decode cX7_put 122 = .ok (.iload_n 1, 1) := by decide +kernel
theorem dX7_put_123 : decode cX7_put 123 = .ok (.iload_n 2, 1) := by decide +kernel
theorem dX7_put_124 : decode cX7_put 124 = .ok (.iastore, 1) := by decide +kernel
theorem dX7_put_125 : decode cX7_put 125 = .ok (.return_, 1) := by decide +kernel
abbrev cX7_takes : ByteArray := prog_9_method_9_code
def yX7_takes : MethodName := ⟨RX7, "takes", "(II)V"⟩
abbrev wX7_takes : Cond := .code yX7_takes cX7_takes 3 none
theorem kX7_takes : wX7_takes ∈ wG := mG 847 (by decide +kernel) rfl
theorem dX7_takes_0 : decode cX7_takes 0 = .ok (.aload_n 0, 1) := by decide +kernel
theorem dX7_takes_1 : decode cX7_takes 1 = .ok (.getfield 16, 3) := by decide +kernel
theorem dX7_takes_4 : decode cX7_takes 4 = .ok (.iload_n 1, 1) := by decide +kernel
theorem dX7_takes_5 : decode cX7_takes 5 = .ok (.dup2, 1) := by decide +kernel
theorem dX7_takes_6 : decode cX7_takes 6 = .ok (.iaload, 1) := by decide +kernel
theorem dX7_takes_7 : decode cX7_takes 7 = .ok (.iload_n 2, 1) := by decide +kernel
theorem dX7_takes_8 : decode cX7_takes 8 = .ok (.isub, 1) := by decide +kernel
theorem dX7_takes_9 : decode cX7_takes 9 = .ok (.iastore, 1) := by decide +kernel
theorem dX7_takes_10 : decode cX7_takes 10 = .ok (.aload_n 0, 1) := by decide +kernel
theorem dX7_takes_11 : decode cX7_takes 11 = .ok (.getfield 19, 3) := by decide +kernel
theorem dX7_takes_14 : decode cX7_takes 14 = .ok (.iload_n 1, 1) := by decide +kernel
theorem dX7_takes_15 : decode cX7_takes 15 = .ok (.aload_n 0, 1) := by decide +kernel
theorem dX7_takes_16 : decode cX7_takes 16 = .ok (.getfield 16, 3) := by decide +kernel
theorem dX7_takes_19 : decode cX7_takes 19 = .ok (.iload_n 1, 1) := by decide +kernel
theorem dX7_takes_20 : decode cX7_takes 20 = .ok (.iaload, 1) := by decide +kernel
theorem dX7_takes_21 : decode cX7_takes 21 = .ok (.ifCond .ne 7, 3) := by decide +kernel
theorem dX7_takes_24 : decode cX7_takes 24 = .ok (.iconst (-1), 1) := by decide +kernel
theorem dX7_takes_25 : decode cX7_takes 25 = .ok (.goto 9, 3) := by decide +kernel
theorem dX7_takes_28 : decode cX7_takes 28 = .ok (.aload_n 0, 1) := by decide +kernel
theorem dX7_takes_29 : decode cX7_takes 29 = .ok (.getfield 19, 3) := by decide +kernel
theorem dX7_takes_32 : decode cX7_takes 32 = .ok (.iload_n 1, 1) := by decide +kernel
theorem dX7_takes_33 : decode cX7_takes 33 = .ok (.iaload, 1) := by decide +kernel
theorem dX7_takes_34 : decode cX7_takes 34 = .ok (.iastore, 1) := by decide +kernel
theorem dX7_takes_35 : decode cX7_takes 35 = .ok (.return_, 1) := by decide +kernel
abbrev cX7_free : ByteArray := prog_9_method_10_code
def yX7_free : MethodName := ⟨RX7, "free", "(I)I"⟩
abbrev wX7_free : Cond := .code yX7_free cX7_free 2 (some .int)
theorem kX7_free : wX7_free ∈ wG := mG 843 (by decide +kernel) rfl
theorem dX7_free_0 : decode cX7_free 0 = .ok (.aload_n 0, 1) := by decide +kernel
theorem dX7_free_1 : decode cX7_free 1 = .ok (.getfield 16, 3) := by decide +kernel
theorem dX7_free_4 : decode cX7_free 4 = .ok (.iload_n 1, 1) := by decide +kernel
theorem dX7_free_5 : decode cX7_free 5 = .ok (.iaload, 1) := by decide +kernel
theorem dX7_free_6 : decode cX7_free 6 = .ok (.aload_n 0, 1) := by decide +kernel
theorem dX7_free_7 : decode cX7_free 7 = .ok (.getfield 22, 3) := by decide +kernel
theorem dX7_free_10 : decode cX7_free 10 = .ok (.iload_n 1, 1) := by decide +kernel
theorem dX7_free_11 : decode cX7_free 11 = .ok (.iaload, 1) := by decide +kernel
theorem dX7_free_12 : decode cX7_free 12 = .ok (.isub, 1) := by decide +kernel
theorem dX7_free_13 : decode cX7_free 13 = .ok (.ireturn, 1) := by decide +kernel
abbrev cX7_use : ByteArray := prog_9_method_11_code
def yX7_use : MethodName := ⟨RX7, "use", "(II)V"⟩
abbrev wX7_use : Cond := .code yX7_use cX7_use 3 none
theorem kX7_use : wX7_use ∈ wG := mG 839 (by decide +kernel) rfl
theorem dX7_use_0 : decode cX7_use 0 = .ok (.aload_n 0, 1) := by decide +kernel
theorem dX7_use_1 : decode cX7_use 1 = .ok (.iload_n 1, 1) := by decide +kernel
theorem dX7_use_2 : decode cX7_use 2 = .ok (.invokestatic 106, 3) := by decide +kernel
theorem dX7_use_5 : decode cX7_use 5 = .ok (.ifCond .eq 13, 3) := by decide +kernel
theorem dX7_use_8 : decode cX7_use 8 = .ok (.iload_n 2, 1) := by decide +kernel
theorem dX7_use_9 : decode cX7_use 9 = .ok (.iconst 1, 1) := by decide +kernel
theorem dX7_use_10 : decode cX7_use 10 = .ok (.ldc 110, 2) := by decide +kernel
theorem dX7_use_12 : decode cX7_use 12 = .ok (.invokestatic 102, 3) := by decide +kernel
theorem dX7_use_15 : decode cX7_use 15 = .ok (.ifCond .ne 7, 3) := by decide +kernel
theorem dX7_use_18 : decode cX7_use 18 = .ok (.iconst 1, 1) := by decide +kernel
theorem dX7_use_19 : decode cX7_use 19 = .ok (.goto 26, 3) := by decide +kernel
theorem dX7_use_22 : decode cX7_use 22 = .ok (.aload_n 0, 1) := by decide +kernel
theorem dX7_use_23 : decode cX7_use 23 = .ok (.getfield 25, 3) := by decide +kernel
theorem dX7_use_26 : decode cX7_use 26 = .ok (.iload_n 1, 1) := by decide +kernel
theorem dX7_use_27 : decode cX7_use 27 = .ok (.baload, 1) := by decide +kernel
theorem dX7_use_28 : decode cX7_use 28 = .ok (.ifCond .eq 12, 3) := by decide +kernel
theorem dX7_use_31 : decode cX7_use 31 = .ok (.aload_n 0, 1) := by decide +kernel
theorem dX7_use_32 : decode cX7_use 32 = .ok (.iload_n 1, 1) := by decide +kernel
theorem dX7_use_33 : decode cX7_use 33 = .ok (.invokevirtual 115, 3) := by decide +kernel
theorem dX7_use_36 : decode cX7_use 36 = .ok (.iload_n 2, 1) := by decide +kernel
theorem dX7_use_37 : decode cX7_use 37 = .ok (.if_icmp .ge 7, 3) := by decide +kernel
theorem dX7_use_40 : decode cX7_use 40 = .ok (.iconst 2, 1) := by decide +kernel
theorem dX7_use_41 : decode cX7_use 41 = .ok (.goto 4, 3) := by decide +kernel
theorem dX7_use_44 : decode cX7_use 44 = .ok (.iconst 0, 1) := by decide +kernel
theorem dX7_use_45 : decode cX7_use 45 = .ok (.putfield 98, 3) := by decide +kernel
theorem dX7_use_48 : decode cX7_use 48 = .ok (.aload_n 0, 1) := by decide +kernel
theorem dX7_use_49 : decode cX7_use 49 = .ok (.getfield 98, 3) := by decide +kernel
theorem dX7_use_52 : decode cX7_use 52 = .ok (.ifCond .ne 28, 3) := by decide +kernel
theorem dX7_use_55 : decode cX7_use 55 = .ok (.aload_n 0, 1) := by decide +kernel
theorem dX7_use_56 : decode cX7_use 56 = .ok (.iload_n 1, 1) := by decide +kernel
theorem dX7_use_57 : decode cX7_use 57 = .ok (.iload_n 2, 1) := by decide +kernel
theorem dX7_use_58 : decode cX7_use 58 = .ok (.invokevirtual 119, 3) := by decide +kernel
theorem dX7_use_61 : decode cX7_use 61 = .ok (.aload_n 0, 1) := by decide +kernel
theorem dX7_use_62 : decode cX7_use 62 = .ok (.getfield 44, 3) := by decide +kernel
theorem dX7_use_65 : decode cX7_use 65 = .ok (.sipush 400, 3) := by decide +kernel
theorem dX7_use_68 : decode cX7_use 68 = .ok (.iload_n 1, 1) := by decide +kernel
theorem dX7_use_69 : decode cX7_use 69 = .ok (.imul, 1) := by decide +kernel
theorem dX7_use_70 : decode cX7_use 70 = .ok (.aload_n 0, 1) := by decide +kernel
theorem dX7_use_71 : decode cX7_use 71 = .ok (.getfield 123, 3) := by decide +kernel
theorem dX7_use_74 : decode cX7_use 74 = .ok (.iadd, 1) := by decide +kernel
theorem dX7_use_75 : decode cX7_use 75 = .ok (.dup2, 1) := by decide +kernel
theorem dX7_use_76 : decode cX7_use 76 = .ok (.iaload, 1) := by decide +kernel
theorem dX7_use_77 : decode cX7_use 77 = .ok (.iload_n 2, 1) := by decide +kernel
theorem dX7_use_78 : decode cX7_use 78 = .ok (.iadd, 1) := by decide +kernel
theorem dX7_use_79 : decode cX7_use 79 = .ok (.iastore, 1) := by decide +kernel
theorem dX7_use_80 : decode cX7_use 80 = .ok (.return_, 1) := by decide +kernel
abbrev cX7_hold : ByteArray := prog_9_method_12_code
def yX7_hold : MethodName := ⟨RX7, "hold", "(II)V"⟩
abbrev wX7_hold : Cond := .code yX7_hold cX7_hold 3 none
theorem kX7_hold : wX7_hold ∈ wG := mG 851 (by decide +kernel) rfl
theorem dX7_hold_0 : decode cX7_hold 0 = .ok (.aload_n 0, 1) := by decide +kernel
theorem dX7_hold_1 : decode cX7_hold 1 = .ok (.iload_n 1, 1) := by decide +kernel
theorem dX7_hold_2 : decode cX7_hold 2 = .ok (.invokestatic 106, 3) := by decide +kernel
theorem dX7_hold_5 : decode cX7_hold 5 = .ok (.ifCond .eq 7, 3) := by decide +kernel
theorem dX7_hold_8 : decode cX7_hold 8 = .ok (.iload_n 2, 1) := by decide +kernel
theorem dX7_hold_9 : decode cX7_hold 9 = .ok (.ifCond .ge 7, 3) := by decide +kernel
theorem dX7_hold_12 : decode cX7_hold 12 = .ok (.iconst 1, 1) := by decide +kernel
theorem dX7_hold_13 : decode cX7_hold 13 = .ok (.goto 18, 3) := by decide +kernel
theorem dX7_hold_16 : decode cX7_hold 16 = .ok (.iload_n 2, 1) := by decide +kernel
theorem dX7_hold_17 : decode cX7_hold 17 = .ok (.aload_n 0, 1) := by decide +kernel
theorem dX7_hold_18 : decode cX7_hold 18 = .ok (.getfield 16, 3) := by decide +kernel
theorem dX7_hold_21 : decode cX7_hold 21 = .ok (.iload_n 1, 1) := by decide +kernel
theorem dX7_hold_22 : decode cX7_hold 22 = .ok (.iaload, 1) := by decide +kernel
theorem dX7_hold_23 : decode cX7_hold 23 = .ok (.if_icmp .le 7, 3) := by decide +kernel
theorem dX7_hold_26 : decode cX7_hold 26 = .ok (.iconst 2, 1) := by decide +kernel
theorem dX7_hold_27 : decode cX7_hold 27 = .ok (.goto 4, 3) := by decide +kernel
theorem dX7_hold_30 : decode cX7_hold 30 = .ok (.iconst 0, 1) := by decide +kernel
theorem dX7_hold_31 : decode cX7_hold 31 = .ok (.putfield 98, 3) := by decide +kernel
theorem dX7_hold_34 : decode cX7_hold 34 = .ok (.aload_n 0, 1) := by decide +kernel
theorem dX7_hold_35 : decode cX7_hold 35 = .ok (.getfield 98, 3) := by decide +kernel
theorem dX7_hold_38 : decode cX7_hold 38 = .ok (.ifCond .ne 10, 3) := by decide +kernel
theorem dX7_hold_41 : decode cX7_hold 41 = .ok (.aload_n 0, 1) := by decide +kernel
theorem dX7_hold_42 : decode cX7_hold 42 = .ok (.getfield 22, 3) := by decide +kernel
theorem dX7_hold_45 : decode cX7_hold 45 = .ok (.iload_n 1, 1) := by decide +kernel
theorem dX7_hold_46 : decode cX7_hold 46 = .ok (.iload_n 2, 1) := by decide +kernel
theorem dX7_hold_47 : decode cX7_hold 47 = .ok (.iastore, 1) := by decide +kernel
theorem dX7_hold_48 : decode cX7_hold 48 = .ok (.return_, 1) := by decide +kernel
abbrev cX7_cases : ByteArray := prog_9_method_13_code
def yX7_cases : MethodName := ⟨RX7, "cases", "(II)V"⟩
abbrev wX7_cases : Cond := .code yX7_cases cX7_cases 3 none
theorem kX7_cases : wX7_cases ∈ wG := mG 855 (by decide +kernel) rfl
theorem dX7_cases_0 : decode cX7_cases 0 = .ok (.aload_n 0, 1) := by decide +kernel
theorem dX7_cases_1 : decode cX7_cases 1 = .ok (.iload_n 1, 1) := by decide +kernel
theorem dX7_cases_2 : decode cX7_cases 2 = .ok (.iconst 0, 1) := by decide +kernel
theorem dX7_cases_3 : decode cX7_cases 3 = .ok (.bipush 7, 2) := by decide +kernel
theorem dX7_cases_5 : decode cX7_cases 5 = .ok (.invokestatic 102, 3) := by decide +kernel
theorem dX7_cases_8 : decode cX7_cases 8 = .ok (.ifCond .eq 18, 3) := by decide +kernel
theorem dX7_cases_11 : decode cX7_cases 11 = .ok (.iload_n 2, 1) := by decide +kernel
theorem dX7_cases_12 : decode cX7_cases 12 = .ok (.iconst 1, 1) := by decide +kernel
theorem dX7_cases_13 : decode cX7_cases 13 = .ok (.sipush 1000, 3) := by decide +kernel
theorem dX7_cases_16 : decode cX7_cases 16 = .ok (.invokestatic 102, 3) := by decide +kernel
theorem dX7_cases_19 : decode cX7_cases 19 = .ok (.ifCond .eq 7, 3) := by decide +kernel
theorem dX7_cases_22 : decode cX7_cases 22 = .ok (.iconst 0, 1) := by decide +kernel
theorem dX7_cases_23 : decode cX7_cases 23 = .ok (.goto 4, 3) := by decide +kernel
theorem dX7_cases_26 : decode cX7_cases 26 = .ok (.iconst 1, 1) := by decide +kernel
theorem dX7_cases_27 : decode cX7_cases 27 = .ok (.putfield 98, 3) := by decide +kernel
theorem dX7_cases_30 : decode cX7_cases 30 = .ok (.aload_n 0, 1) := by decide +kernel
theorem dX7_cases_31 : decode cX7_cases 31 = .ok (.getfield 98, 3) := by decide +kernel
theorem dX7_cases_34 : decode cX7_cases 34 = .ok (.ifCond .ne 10, 3) := by decide +kernel
theorem dX7_cases_37 : decode cX7_cases 37 = .ok (.aload_n 0, 1) := by decide +kernel
theorem dX7_cases_38 : decode cX7_cases 38 = .ok (.getfield 38, 3) := by decide +kernel
theorem dX7_cases_41 : decode cX7_cases 41 = .ok (.iload_n 1, 1) := by decide +kernel
theorem dX7_cases_42 : decode cX7_cases 42 = .ok (.iload_n 2, 1) := by decide +kernel
theorem dX7_cases_43 : decode cX7_cases 43 = .ok (.iastore, 1) := by decide +kernel
theorem dX7_cases_44 : decode cX7_cases 44 = .ok (.return_, 1) := by decide +kernel
abbrev cX7_rule : ByteArray := prog_9_method_14_code
def yX7_rule : MethodName := ⟨RX7, "rule", "(IIII)V"⟩
abbrev wX7_rule : Cond := .code yX7_rule cX7_rule 5 none
theorem kX7_rule : wX7_rule ∈ wG := mG 859 (by decide +kernel) rfl
theorem dX7_rule_0 : decode cX7_rule 0 = .ok (.aload_n 0, 1) := by decide +kernel
theorem dX7_rule_1 : decode cX7_rule 1 = .ok (.iload_n 1, 1) := by decide +kernel
theorem dX7_rule_2 : decode cX7_rule 2 = .ok (.iconst 0, 1) := by decide +kernel
theorem dX7_rule_3 : decode cX7_rule 3 = .ok (.iconst 3, 1) := by decide +kernel
theorem dX7_rule_4 : decode cX7_rule 4 = .ok (.invokestatic 102, 3) := by decide +kernel
theorem dX7_rule_7 : decode cX7_rule 7 = .ok (.ifCond .eq 38, 3) := by decide +kernel
theorem dX7_rule_10 : decode cX7_rule 10 = .ok (.iload_n 2, 1) := by decide +kernel
theorem dX7_rule_11 : decode cX7_rule 11 = .ok (.iconst 0, 1) := by decide +kernel
theorem dX7_rule_12 : decode cX7_rule 12 = .ok (.iconst 2, 1) := by decide +kernel
theorem dX7_rule_13 : decode cX7_rule 13 = .ok (.invokestatic 102, 3) := by decide +kernel
theorem dX7_rule_16 : decode cX7_rule 16 = .ok (.ifCond .eq 29, 3) := by decide +kernel
theorem dX7_rule_19 : decode cX7_rule 19 = .ok (.iload_n 3, 1) := by decide +kernel
theorem dX7_rule_20 : decode cX7_rule 20 = .ok (.iconst 1, 1) := by decide +kernel
theorem dX7_rule_21 : decode cX7_rule 21 = .ok (.bipush 30, 2) := by decide +kernel
theorem dX7_rule_23 : decode cX7_rule 23 = .ok (.invokestatic 102, 3) := by decide +kernel
theorem dX7_rule_26 : decode cX7_rule 26 = .ok (.ifCond .eq 19, 3) := by decide +kernel
theorem dX7_rule_29 : decode cX7_rule 29 = .ok (.iload 4, 2) := by decide +kernel
theorem dX7_rule_31 : decode cX7_rule 31 = .ok (.iconst 0, 1) := by decide +kernel
theorem dX7_rule_32 : decode cX7_rule 32 = .ok (.sipush 399, 3) := by decide +kernel
theorem dX7_rule_35 : decode cX7_rule 35 = .ok (.invokestatic 102, 3) := by decide +kernel
theorem dX7_rule_38 : decode cX7_rule 38 = .ok (.ifCond .eq 7, 3) := by decide +kernel
theorem dX7_rule_41 : decode cX7_rule 41 = .ok (.iconst 0, 1) := by decide +kernel
theorem dX7_rule_42 : decode cX7_rule 42 = .ok (.goto 4, 3) := by decide +kernel
theorem dX7_rule_45 : decode cX7_rule 45 = .ok (.iconst 1, 1) := by decide +kernel
theorem dX7_rule_46 : decode cX7_rule 46 = .ok (.putfield 98, 3) := by decide +kernel
theorem dX7_rule_49 : decode cX7_rule 49 = .ok (.aload_n 0, 1) := by decide +kernel
theorem dX7_rule_50 : decode cX7_rule 50 = .ok (.getfield 98, 3) := by decide +kernel
theorem dX7_rule_53 : decode cX7_rule 53 = .ok (.ifCond .ne 25, 3) := by decide +kernel
theorem dX7_rule_56 : decode cX7_rule 56 = .ok (.aload_n 0, 1) := by decide +kernel
theorem dX7_rule_57 : decode cX7_rule 57 = .ok (.getfield 47, 3) := by decide +kernel
theorem dX7_rule_60 : decode cX7_rule 60 = .ok (.iload_n 1, 1) := by decide +kernel
theorem dX7_rule_61 : decode cX7_rule 61 = .ok (.iload_n 2, 1) := by decide +kernel
theorem dX7_rule_62 : decode cX7_rule 62 = .ok (.iastore, 1) := by decide +kernel
theorem dX7_rule_63 : decode cX7_rule 63 = .ok (.aload_n 0, 1) := by decide +kernel
theorem dX7_rule_64 : decode cX7_rule 64 = .ok (.getfield 50, 3) := by decide +kernel
theorem dX7_rule_67 : decode cX7_rule 67 = .ok (.iload_n 1, 1) := by decide +kernel
theorem dX7_rule_68 : decode cX7_rule 68 = .ok (.iload_n 3, 1) := by decide +kernel
theorem dX7_rule_69 : decode cX7_rule 69 = .ok (.iastore, 1) := by decide +kernel
theorem dX7_rule_70 : decode cX7_rule 70 = .ok (.aload_n 0, 1) := by decide +kernel
theorem dX7_rule_71 : decode cX7_rule 71 = .ok (.getfield 53, 3) := by decide +kernel
theorem dX7_rule_74 : decode cX7_rule 74 = .ok (.iload_n 1, 1) := by decide +kernel
theorem dX7_rule_75 : decode cX7_rule 75 = .ok (.iload 4, 2) := by decide +kernel
theorem dX7_rule_77 : decode cX7_rule 77 = .ok (.iastore, 1) := by decide +kernel
theorem dX7_rule_78 : decode cX7_rule 78 = .ok (.return_, 1) := by decide +kernel
abbrev cX7_factor : ByteArray := prog_9_method_15_code
def yX7_factor : MethodName := ⟨RX7, "factor", "(III)V"⟩
abbrev wX7_factor : Cond := .code yX7_factor cX7_factor 4 none
theorem kX7_factor : wX7_factor ∈ wG := mG 863 (by decide +kernel) rfl
theorem dX7_factor_0 : decode cX7_factor 0 = .ok (.aload_n 0, 1) := by decide +kernel
theorem dX7_factor_1 : decode cX7_factor 1 = .ok (.iload_n 1, 1) := by decide +kernel
theorem dX7_factor_2 : decode cX7_factor 2 = .ok (.iconst 0, 1) := by decide +kernel
theorem dX7_factor_3 : decode cX7_factor 3 = .ok (.bipush 11, 2) := by decide +kernel
theorem dX7_factor_5 : decode cX7_factor 5 = .ok (.invokestatic 102, 3) := by decide +kernel
theorem dX7_factor_8 : decode cX7_factor 8 = .ok (.ifCond .eq 29, 3) := by decide +kernel
theorem dX7_factor_11 : decode cX7_factor 11 = .ok (.iload_n 2, 1) := by decide +kernel
theorem dX7_factor_12 : decode cX7_factor 12 = .ok (.iconst 0, 1) := by decide +kernel
theorem dX7_factor_13 : decode cX7_factor 13 = .ok (.sipush 1000, 3) := by decide +kernel
theorem dX7_factor_16 : decode cX7_factor 16 = .ok (.invokestatic 102, 3) := by decide +kernel
theorem dX7_factor_19 : decode cX7_factor 19 = .ok (.ifCond .eq 18, 3) := by decide +kernel
theorem dX7_factor_22 : decode cX7_factor 22 = .ok (.iload_n 3, 1) := by decide +kernel
theorem dX7_factor_23 : decode cX7_factor 23 = .ok (.iconst 1, 1) := by decide +kernel
theorem dX7_factor_24 : decode cX7_factor 24 = .ok (.sipush 1000, 3) := by decide +kernel
theorem dX7_factor_27 : decode cX7_factor 27 = .ok (.invokestatic 102, 3) := by decide +kernel
theorem dX7_factor_30 : decode cX7_factor 30 = .ok (.ifCond .eq 7, 3) := by decide +kernel
theorem dX7_factor_33 : decode cX7_factor 33 = .ok (.iconst 0, 1) := by decide +kernel
theorem dX7_factor_34 : decode cX7_factor 34 = .ok (.goto 4, 3) := by decide +kernel
theorem dX7_factor_37 : decode cX7_factor 37 = .ok (.iconst 1, 1) := by decide +kernel
theorem dX7_factor_38 : decode cX7_factor 38 = .ok (.putfield 98, 3) := by decide +kernel
theorem dX7_factor_41 : decode cX7_factor 41 = .ok (.aload_n 0, 1) := by decide +kernel
theorem dX7_factor_42 : decode cX7_factor 42 = .ok (.getfield 98, 3) := by decide +kernel
theorem dX7_factor_45 : decode cX7_factor 45 = .ok (.ifCond .ne 17, 3) := by decide +kernel
theorem dX7_factor_48 : decode cX7_factor 48 = .ok (.aload_n 0, 1) := by decide +kernel
theorem dX7_factor_49 : decode cX7_factor 49 = .ok (.getfield 56, 3) := by decide +kernel
theorem dX7_factor_52 : decode cX7_factor 52 = .ok (.iload_n 1, 1) := by decide +kernel
theorem dX7_factor_53 : decode cX7_factor 53 = .ok (.iload_n 2, 1) := by decide +kernel
theorem dX7_factor_54 : decode cX7_factor 54 = .ok (.iastore, 1) := by decide +kernel
theorem dX7_factor_55 : decode cX7_factor 55 = .ok (.aload_n 0, 1) := by decide +kernel
theorem dX7_factor_56 : decode cX7_factor 56 = .ok (.getfield 59, 3) := by decide +kernel
theorem dX7_factor_59 : decode cX7_factor 59 = .ok (.iload_n 1, 1) := by decide +kernel
theorem dX7_factor_60 : decode cX7_factor 60 = .ok (.iload_n 3, 1) := by decide +kernel
theorem dX7_factor_61 : decode cX7_factor 61 = .ok (.iastore, 1) := by decide +kernel
theorem dX7_factor_62 : decode cX7_factor 62 = .ok (.return_, 1) := by decide +kernel
abbrev cX7_wave : ByteArray := prog_9_method_16_code
def yX7_wave : MethodName := ⟨RX7, "wave", "(III)V"⟩
abbrev wX7_wave : Cond := .code yX7_wave cX7_wave 4 none
theorem kX7_wave : wX7_wave ∈ wG := mG 867 (by decide +kernel) rfl
theorem dX7_wave_0 : decode cX7_wave 0 = .ok (.aload_n 0, 1) := by decide +kernel
theorem dX7_wave_1 : decode cX7_wave 1 = .ok (.iload_n 1, 1) := by decide +kernel
theorem dX7_wave_2 : decode cX7_wave 2 = .ok (.invokestatic 106, 3) := by decide +kernel
theorem dX7_wave_5 : decode cX7_wave 5 = .ok (.ifCond .eq 27, 3) := by decide +kernel
theorem dX7_wave_8 : decode cX7_wave 8 = .ok (.iload_n 2, 1) := by decide +kernel
theorem dX7_wave_9 : decode cX7_wave 9 = .ok (.iconst 1, 1) := by decide +kernel
theorem dX7_wave_10 : decode cX7_wave 10 = .ok (.ldc 110, 2) := by decide +kernel
theorem dX7_wave_12 : decode cX7_wave 12 = .ok (.invokestatic 102, 3) := by decide +kernel
theorem dX7_wave_15 : decode cX7_wave 15 = .ok (.ifCond .eq 17, 3) := by decide +kernel
theorem dX7_wave_18 : decode cX7_wave 18 = .ok (.iload_n 3, 1) := by decide +kernel
theorem dX7_wave_19 : decode cX7_wave 19 = .ok (.aload_n 0, 1) := by decide +kernel
theorem dX7_wave_20 : decode cX7_wave 20 = .ok (.getfield 123, 3) := by decide +kernel
theorem dX7_wave_23 : decode cX7_wave 23 = .ok (.sipush 399, 3) := by decide +kernel
theorem dX7_wave_26 : decode cX7_wave 26 = .ok (.invokestatic 102, 3) := by decide +kernel
theorem dX7_wave_29 : decode cX7_wave 29 = .ok (.ifCond .ne 7, 3) := by decide +kernel
theorem dX7_wave_32 : decode cX7_wave 32 = .ok (.iconst 1, 1) := by decide +kernel
theorem dX7_wave_33 : decode cX7_wave 33 = .ok (.goto 30, 3) := by decide +kernel
theorem dX7_wave_36 : decode cX7_wave 36 = .ok (.aload_n 0, 1) := by decide +kernel
theorem dX7_wave_37 : decode cX7_wave 37 = .ok (.getfield 25, 3) := by decide +kernel
theorem dX7_wave_40 : decode cX7_wave 40 = .ok (.iload_n 1, 1) := by decide +kernel
theorem dX7_wave_41 : decode cX7_wave 41 = .ok (.baload, 1) := by decide +kernel
theorem dX7_wave_42 : decode cX7_wave 42 = .ok (.ifCond .ne 7, 3) := by decide +kernel
theorem dX7_wave_45 : decode cX7_wave 45 = .ok (.iconst 2, 1) := by decide +kernel
theorem dX7_wave_46 : decode cX7_wave 46 = .ok (.goto 17, 3) := by decide +kernel
theorem dX7_wave_49 : decode cX7_wave 49 = .ok (.aload_n 0, 1) := by decide +kernel
theorem dX7_wave_50 : decode cX7_wave 50 = .ok (.getfield 126, 3) := by decide +kernel
theorem dX7_wave_53 : decode cX7_wave 53 = .ok (.bipush 30, 2) := by decide +kernel
theorem dX7_wave_55 : decode cX7_wave 55 = .ok (.if_icmp .ne 7, 3) := by decide +kernel
theorem dX7_wave_58 : decode cX7_wave 58 = .ok (.iconst 3, 1) := by decide +kernel
theorem dX7_wave_59 : decode cX7_wave 59 = .ok (.goto 4, 3) := by decide +kernel
theorem dX7_wave_62 : decode cX7_wave 62 = .ok (.iconst 0, 1) := by decide +kernel
theorem dX7_wave_63 : decode cX7_wave 63 = .ok (.putfield 98, 3) := by decide +kernel
theorem dX7_wave_66 : decode cX7_wave 66 = .ok (.aload_n 0, 1) := by decide +kernel
theorem dX7_wave_67 : decode cX7_wave 67 = .ok (.getfield 98, 3) := by decide +kernel
theorem dX7_wave_70 : decode cX7_wave 70 = .ok (.ifCond .ne 43, 3) := by decide +kernel
theorem dX7_wave_73 : decode cX7_wave 73 = .ok (.aload_n 0, 1) := by decide +kernel
theorem dX7_wave_74 : decode cX7_wave 74 = .ok (.getfield 62, 3) := by decide +kernel
theorem dX7_wave_77 : decode cX7_wave 77 = .ok (.aload_n 0, 1) := by decide +kernel
theorem dX7_wave_78 : decode cX7_wave 78 = .ok (.getfield 126, 3) := by decide +kernel
theorem dX7_wave_81 : decode cX7_wave 81 = .ok (.iload_n 1, 1) := by decide +kernel
theorem dX7_wave_82 : decode cX7_wave 82 = .ok (.iastore, 1) := by decide +kernel
theorem dX7_wave_83 : decode cX7_wave 83 = .ok (.aload_n 0, 1) := by decide +kernel
theorem dX7_wave_84 : decode cX7_wave 84 = .ok (.getfield 65, 3) := by decide +kernel
theorem dX7_wave_87 : decode cX7_wave 87 = .ok (.aload_n 0, 1) := by decide +kernel
theorem dX7_wave_88 : decode cX7_wave 88 = .ok (.getfield 126, 3) := by decide +kernel
theorem dX7_wave_91 : decode cX7_wave 91 = .ok (.iload_n 2, 1) := by decide +kernel
theorem dX7_wave_92 : decode cX7_wave 92 = .ok (.iastore, 1) := by decide +kernel
theorem dX7_wave_93 : decode cX7_wave 93 = .ok (.aload_n 0, 1) := by decide +kernel
theorem dX7_wave_94 : decode cX7_wave 94 = .ok (.getfield 68, 3) := by decide +kernel
theorem dX7_wave_97 : decode cX7_wave 97 = .ok (.aload_n 0, 1) := by decide +kernel
theorem dX7_wave_98 : decode cX7_wave 98 = .ok (.getfield 126, 3) := by decide +kernel
theorem dX7_wave_101 : decode cX7_wave 101 = .ok (.iload_n 3, 1) := by decide +kernel
theorem dX7_wave_102 : decode cX7_wave 102 = .ok (.iastore, 1) := by decide +kernel
theorem dX7_wave_103 : decode cX7_wave 103 = .ok (.aload_n 0, 1) := by decide +kernel
theorem dX7_wave_104 : decode cX7_wave 104 = .ok (.dup, 1) := by decide +kernel
theorem dX7_wave_105 : decode cX7_wave 105 = .ok (.getfield 126, 3) := by decide +kernel
theorem dX7_wave_108 : decode cX7_wave 108 = .ok (.iconst 1, 1) := by decide +kernel
theorem dX7_wave_109 : decode cX7_wave 109 = .ok (.iadd, 1) := by decide +kernel
theorem dX7_wave_110 : decode cX7_wave 110 = .ok (.putfield 126, 3) := by decide +kernel
theorem dX7_wave_113 : decode cX7_wave 113 = .ok (.return_, 1) := by decide +kernel
abbrev cX7_open : ByteArray := prog_9_method_17_code
def yX7_open : MethodName := ⟨RX7, "open", "(IZ)V"⟩
abbrev wX7_open : Cond := .code yX7_open cX7_open 3 none
theorem kX7_open : wX7_open ∈ wG := mG 871 (by decide +kernel) rfl
theorem dX7_open_0 : decode cX7_open 0 = .ok (.aload_n 0, 1) := by decide +kernel
theorem dX7_open_1 : decode cX7_open 1 = .ok (.iload_n 1, 1) := by decide +kernel
theorem dX7_open_2 : decode cX7_open 2 = .ok (.iconst 0, 1) := by decide +kernel
theorem dX7_open_3 : decode cX7_open 3 = .ok (.sipush 399, 3) := by decide +kernel
theorem dX7_open_6 : decode cX7_open 6 = .ok (.invokestatic 102, 3) := by decide +kernel
theorem dX7_open_9 : decode cX7_open 9 = .ok (.ifCond .ne 7, 3) := by decide +kernel
theorem dX7_open_12 : decode cX7_open 12 = .ok (.iconst 1, 1) := by decide +kernel
theorem dX7_open_13 : decode cX7_open 13 = .ok (.goto 16, 3) := by decide +kernel
theorem dX7_open_16 : decode cX7_open 16 = .ok (.iload_n 1, 1) := by decide +kernel
theorem dX7_open_17 : decode cX7_open 17 = .ok (.aload_n 0, 1) := by decide +kernel
theorem dX7_open_18 : decode cX7_open 18 = .ok (.getfield 123, 3) := by decide +kernel
theorem dX7_open_21 : decode cX7_open 21 = .ok (.if_icmp .ge 7, 3) := by decide +kernel
theorem dX7_open_24 : decode cX7_open 24 = .ok (.iconst 2, 1) := by decide +kernel
theorem dX7_open_25 : decode cX7_open 25 = .ok (.goto 4, 3) := by decide +kernel
theorem dX7_open_28 : decode cX7_open 28 = .ok (.iconst 0, 1) := by decide +kernel
theorem dX7_open_29 : decode cX7_open 29 = .ok (.putfield 98, 3) := by decide +kernel
theorem dX7_open_32 : decode cX7_open 32 = .ok (.aload_n 0, 1) := by decide +kernel
theorem dX7_open_33 : decode cX7_open 33 = .ok (.getfield 98, 3) := by decide +kernel
theorem dX7_open_36 : decode cX7_open 36 = .ok (.ifCond .ne 18, 3) := by decide +kernel
theorem dX7_open_39 : decode cX7_open 39 = .ok (.aload_n 0, 1) := by decide +kernel
theorem dX7_open_40 : decode cX7_open 40 = .ok (.getfield 41, 3) := by decide +kernel
theorem dX7_open_43 : decode cX7_open 43 = .ok (.iload_n 1, 1) := by decide +kernel
theorem dX7_open_44 : decode cX7_open 44 = .ok (.iload_n 2, 1) := by decide +kernel
theorem dX7_open_45 : decode cX7_open 45 = .ok (.ifCond .ne 7, 3) := by decide +kernel
theorem dX7_open_48 : decode cX7_open 48 = .ok (.iconst 1, 1) := by decide +kernel
theorem dX7_open_49 : decode cX7_open 49 = .ok (.goto 4, 3) := by decide +kernel
theorem dX7_open_52 : decode cX7_open 52 = .ok (.iconst 0, 1) := by decide +kernel
theorem dX7_open_53 : decode cX7_open 53 = .ok (.bastore, 1) := by decide +kernel
theorem dX7_open_54 : decode cX7_open 54 = .ok (.return_, 1) := by decide +kernel
abbrev cX7_day : ByteArray := prog_9_method_18_code
def yX7_day : MethodName := ⟨RX7, "day", "(I)V"⟩
abbrev wX7_day : Cond := .code yX7_day cX7_day 2 none
theorem kX7_day : wX7_day ∈ wG := mG 875 (by decide +kernel) rfl
theorem dX7_day_0 : decode cX7_day 0 = .ok (.aload_n 0, 1) := by decide +kernel
theorem dX7_day_1 : decode cX7_day 1 = .ok (.iload_n 1, 1) := by decide +kernel
theorem dX7_day_2 : decode cX7_day 2 = .ok (.aload_n 0, 1) := by decide +kernel
theorem dX7_day_3 : decode cX7_day 3 = .ok (.getfield 123, 3) := by decide +kernel
theorem dX7_day_6 : decode cX7_day 6 = .ok (.sipush 399, 3) := by decide +kernel
theorem dX7_day_9 : decode cX7_day 9 = .ok (.invokestatic 102, 3) := by decide +kernel
theorem dX7_day_12 : decode cX7_day 12 = .ok (.ifCond .eq 7, 3) := by decide +kernel
theorem dX7_day_15 : decode cX7_day 15 = .ok (.iconst 0, 1) := by decide +kernel
theorem dX7_day_16 : decode cX7_day 16 = .ok (.goto 4, 3) := by decide +kernel
theorem dX7_day_19 : decode cX7_day 19 = .ok (.iconst 1, 1) := by decide +kernel
theorem dX7_day_20 : decode cX7_day 20 = .ok (.putfield 98, 3) := by decide +kernel
theorem dX7_day_23 : decode cX7_day 23 = .ok (.aload_n 0, 1) := by decide +kernel
theorem dX7_day_24 : decode cX7_day 24 = .ok (.getfield 98, 3) := by decide +kernel
theorem dX7_day_27 : decode cX7_day 27 = .ok (.ifCond .ne 8, 3) := by decide +kernel
theorem dX7_day_30 : decode cX7_day 30 = .ok (.aload_n 0, 1) := by decide +kernel
theorem dX7_day_31 : decode cX7_day 31 = .ok (.iload_n 1, 1) := by decide +kernel
theorem dX7_day_32 : decode cX7_day 32 = .ok (.putfield 123, 3) := by decide +kernel
theorem dX7_day_35 : decode cX7_day 35 = .ok (.return_, 1) := by decide +kernel
abbrev cX7_sum : ByteArray := prog_9_method_19_code
def yX7_sum : MethodName := ⟨RX7, "sum", "(IIZ)I"⟩
abbrev wX7_sum : Cond := .code yX7_sum cX7_sum 6 (some .int)
theorem kX7_sum : wX7_sum ∈ wG := mG 887 (by decide +kernel) rfl
theorem dX7_sum_0 : decode cX7_sum 0 = .ok (.iconst 0, 1) := by decide +kernel
theorem dX7_sum_1 : decode cX7_sum 1 = .ok (.istore 4, 2) := by decide +kernel
theorem dX7_sum_3 : decode cX7_sum 3 = .ok (.aload_n 0, 1) := by decide +kernel
theorem dX7_sum_4 : decode cX7_sum 4 = .ok (.getfield 123, 3) := by decide +kernel
theorem dX7_sum_7 : decode cX7_sum 7 = .ok (.iconst 1, 1) := by decide +kernel
theorem dX7_sum_8 : decode cX7_sum 8 = .ok (.isub, 1) := by decide +kernel
theorem dX7_sum_9 : decode cX7_sum 9 = .ok (.istore 5, 2) := by decide +kernel
theorem dX7_sum_11 : decode cX7_sum 11 = .ok (.iload 5, 2) := by decide +kernel
theorem dX7_sum_13 : decode cX7_sum 13 = .ok (.ifCond .lt 56, 3) := by decide +kernel
