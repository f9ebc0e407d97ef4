theorem dX7_plan_106 : decode cX7_plan 106 = .ok (.isub, 1) := by decide +kernel
theorem dX7_plan_107 : decode cX7_plan 107 = .ok (.iaload, 1) := by decide +kernel
theorem dX7_plan_108 : decode cX7_plan 108 = .ok (.istore 4, 2) := by decide +kernel
theorem dX7_plan_110 : decode cX7_plan 110 = .ok (.iconst 0, 1) := by decide +kernel
theorem dX7_plan_111 : decode cX7_plan 111 = .ok (.istore 5, 2) := by decide +kernel
theorem dX7_plan_113 : decode cX7_plan 113 = .ok (.iconst 0, 1) := by decide +kernel
theorem dX7_plan_114 : decode cX7_plan 114 = .ok (.istore 6, 2) := by decide +kernel
theorem dX7_plan_116 : decode cX7_plan 116 = .ok (.iload 6, 2) := by decide +kernel
theorem dX7_plan_118 : decode cX7_plan 118 = .ok (.aload_n 0, 1) := by decide +kernel
theorem dX7_plan_119 : decode cX7_plan 119 = .ok (.getfield 174, 3) := by decide +kernel
theorem dX7_plan_122 : decode cX7_plan 122 = .ok (.if_icmp .ge 31, 3) := by decide +kernel
theorem dX7_plan_125 : decode cX7_plan 125 = .ok (.iload 5, 2) := by decide +kernel
theorem dX7_plan_127 : decode cX7_plan 127 = .ok (.aload_n 0, 1) := by decide +kernel
theorem dX7_plan_128 : decode cX7_plan 128 = .ok (.getfield 83, 3) := by decide +kernel
theorem dX7_plan_131 : decode cX7_plan 131 = .ok (.iload 6, 2) := by decide +kernel
theorem dX7_plan_133 : decode cX7_plan 133 = .ok (.iaload, 1) := by decide +kernel
theorem dX7_plan_134 : decode cX7_plan 134 = .ok (.iload 4, 2) := by decide +kernel
theorem dX7_plan_136 : decode cX7_plan 136 = .ok (.if_icmp .ne 7, 3) := by decide +kernel
theorem dX7_plan_139 : decode cX7_plan 139 = .ok (.iconst 1, 1) := by decide +kernel
theorem dX7_plan_140 : decode cX7_plan 140 = .ok (.goto 4, 3) := by decide +kernel
theorem dX7_plan_143 : decode cX7_plan 143 = .ok (.iconst 0, 1) := by decide +kernel
theorem dX7_plan_144 : decode cX7_plan 144 = .ok (.iadd, 1) := by decide +kernel
theorem dX7_plan_145 : decode cX7_plan 145 = .ok (.istore 5, 2) := by decide +kernel
theorem dX7_plan_147 : decode cX7_plan 147 = .ok (.iinc 6 1, 3) := by decide +kernel
theorem dX7_plan_150 : decode cX7_plan 150 = .ok (.goto (-34), 3) := by decide +kernel
theorem dX7_plan_153 : decode cX7_plan 153 = .ok (.aload_n 0, 1) := by decide +kernel
theorem dX7_plan_154 : decode cX7_plan 154 = .ok (.getfield 174, 3) := by decide +kernel
theorem dX7_plan_157 : decode cX7_plan 157 = .ok (.ifCond .eq 34, 3) := by decide +kernel
theorem dX7_plan_160 : decode cX7_plan 160 = .ok (.aload_n 0, 1) := by decide +kernel
theorem dX7_plan_161 : decode cX7_plan 161 = .ok (.getfield 13, 3) := by decide +kernel
theorem dX7_plan_164 : decode cX7_plan 164 = .ok (.aload_n 0, 1) := by decide +kernel
theorem dX7_plan_165 : decode cX7_plan 165 = .ok (.getfield 71, 3) := by decide +kernel
theorem dX7_plan_168 : decode cX7_plan 168 = .ok (.aload_n 0, 1) := by decide +kernel
theorem dX7_plan_169 : decode cX7_plan 169 = .ok (.getfield 174, 3) := by decide +kernel
theorem dX7_plan_172 : decode cX7_plan 172 = .ok (.iconst 1, 1) := by decide +kernel
theorem dX7_plan_173 : decode cX7_plan 173 = .ok (.isub, 1) := by decide +kernel
theorem dX7_plan_174 : decode cX7_plan 174 = .ok (.iaload, 1) := by decide +kernel
theorem dX7_plan_175 : decode cX7_plan 175 = .ok (.iaload, 1) := by decide +kernel
theorem dX7_plan_176 : decode cX7_plan 176 = .ok (.aload_n 0, 1) := by decide +kernel
theorem dX7_plan_177 : decode cX7_plan 177 = .ok (.getfield 13, 3) := by decide +kernel
theorem dX7_plan_180 : decode cX7_plan 180 = .ok (.iload_n 1, 1) := by decide +kernel
theorem dX7_plan_181 : decode cX7_plan 181 = .ok (.iaload, 1) := by decide +kernel
theorem dX7_plan_182 : decode cX7_plan 182 = .ok (.if_icmp .ne 13, 3) := by decide +kernel
theorem dX7_plan_185 : decode cX7_plan 185 = .ok (.iload 5, 2) := by decide +kernel
theorem dX7_plan_187 : decode cX7_plan 187 = .ok (.iconst 3, 1) := by decide +kernel
theorem dX7_plan_188 : decode cX7_plan 188 = .ok (.if_icmp .ge 7, 3) := by decide +kernel
theorem dX7_plan_191 : decode cX7_plan 191 = .ok (.iconst 1, 1) := by decide +kernel
theorem dX7_plan_192 : decode cX7_plan 192 = .ok (.goto 4, 3) := by decide +kernel
theorem dX7_plan_195 : decode cX7_plan 195 = .ok (.iconst 0, 1) := by decide +kernel
theorem dX7_plan_196 : decode cX7_plan 196 = .ok (.istore 6, 2) := by decide +kernel
theorem dX7_plan_198 : decode cX7_plan 198 = .ok (.aload_n 0, 1) := by decide +kernel
theorem dX7_plan_199 : decode cX7_plan 199 = .ok (.getfield 83, 3) := by decide +kernel
theorem dX7_plan_202 : decode cX7_plan 202 = .ok (.aload_n 0, 1) := by decide +kernel
theorem dX7_plan_203 : decode cX7_plan 203 = .ok (.getfield 174, 3) := by decide +kernel
theorem dX7_plan_206 : decode cX7_plan 206 = .ok (.iload 6, 2) := by decide +kernel
theorem dX7_plan_208 : decode cX7_plan 208 = .ok (.ifCond .eq 8, 3) := by decide +kernel
theorem dX7_plan_211 : decode cX7_plan 211 = .ok (.iload 4, 2) := by decide +kernel
theorem dX7_plan_213 : decode cX7_plan 213 = .ok (.goto 7, 3) := by decide +kernel
theorem dX7_plan_216 : decode cX7_plan 216 = .ok (.iload 4, 2) := by decide +kernel
theorem dX7_plan_218 : decode cX7_plan 218 = .ok (.iconst 1, 1) := by decide +kernel
theorem dX7_plan_219 : decode cX7_plan 219 = .ok (.iadd, 1) := by decide +kernel
theorem dX7_plan_220 : decode cX7_plan 220 = .ok (.iastore, 1) := by decide +kernel
theorem dX7_plan_221 : decode cX7_plan 221 = .ok (.aload_n 0, 1) := by decide +kernel
theorem dX7_plan_222 : decode cX7_plan 222 = .ok (.dup, 1) := by decide +kernel
theorem dX7_plan_223 : decode cX7_plan 223 = .ok (.getfield 174, 3) := by decide +kernel
theorem dX7_plan_226 : decode cX7_plan 226 = .ok (.iconst 1, 1) := by decide +kernel
theorem dX7_plan_227 : decode cX7_plan 227 = .ok (.iadd, 1) := by decide +kernel
theorem dX7_plan_228 : decode cX7_plan 228 = .ok (.putfield 174, 3) := by decide +kernel
theorem dX7_plan_231 : decode cX7_plan 231 = .ok (.return_, 1) := by decide +kernel
abbrev cX7_run : ByteArray := prog_9_method_38_code
def yX7_run : MethodName := ⟨RX7, "run", "()I"⟩
abbrev wX7_run : Cond := .code yX7_run cX7_run 5 (some .int)
theorem kX7_run : wX7_run ∈ wG := mG 933 (by decide +kernel) rfl
theorem dX7_run_0 : decode cX7_run 0 = .ok (.aload_n 0, 1) := by decide +kernel
theorem dX7_run_1 : decode cX7_run 1 = .ok (.aload_n 0, 1) := by decide +kernel
theorem dX7_run_2 : decode cX7_run 2 = .ok (.getfield 41, 3) := by decide +kernel
theorem dX7_run_5 : decode cX7_run 5 = .ok (.aload_n 0, 1) := by decide +kernel
theorem dX7_run_6 : decode cX7_run 6 = .ok (.getfield 123, 3) := by decide +kernel
theorem dX7_run_9 : decode cX7_run 9 = .ok (.baload, 1) := by decide +kernel
theorem dX7_run_10 : decode cX7_run 10 = .ok (.ifCond .eq 7, 3) := by decide +kernel
theorem dX7_run_13 : decode cX7_run 13 = .ok (.iconst 1, 1) := by decide +kernel
theorem dX7_run_14 : decode cX7_run 14 = .ok (.goto 4, 3) := by decide +kernel
theorem dX7_run_17 : decode cX7_run 17 = .ok (.iconst 0, 1) := by decide +kernel
theorem dX7_run_18 : decode cX7_run 18 = .ok (.putfield 98, 3) := by decide +kernel
theorem dX7_run_21 : decode cX7_run 21 = .ok (.aload_n 0, 1) := by decide +kernel
theorem dX7_run_22 : decode cX7_run 22 = .ok (.getfield 98, 3) := by decide +kernel
theorem dX7_run_25 : decode cX7_run 25 = .ok (.ifCond .le 5, 3) := by decide +kernel
theorem dX7_run_28 : decode cX7_run 28 = .ok (.iconst 0, 1) := by decide +kernel
theorem dX7_run_29 : decode cX7_run 29 = .ok (.ireturn, 1) := by decide +kernel
theorem dX7_run_30 : decode cX7_run 30 = .ok (.aload_n 0, 1) := by decide +kernel
theorem dX7_run_31 : decode cX7_run 31 = .ok (.iconst 0, 1) := by decide +kernel
theorem dX7_run_32 : decode cX7_run 32 = .ok (.putfield 174, 3) := by decide +kernel
theorem dX7_run_35 : decode cX7_run 35 = .ok (.iconst 0, 1) := by decide +kernel
theorem dX7_run_36 : decode cX7_run 36 = .ok (.istore_n 1, 1) := by decide +kernel
theorem dX7_run_37 : decode cX7_run 37 = .ok (.iload_n 1, 1) := by decide +kernel
theorem dX7_run_38 : decode cX7_run 38 = .ok (.bipush 16, 2) := by decide +kernel
theorem dX7_run_40 : decode cX7_run 40 = .ok (.if_icmp .ge 23, 3) := by decide +kernel
theorem dX7_run_43 : decode cX7_run 43 = .ok (.aload_n 0, 1) := by decide +kernel
theorem dX7_run_44 : decode cX7_run 44 = .ok (.getfield 92, 3) := by decide +kernel
theorem dX7_run_47 : decode cX7_run 47 = .ok (.iload_n 1, 1) := by decide +kernel
theorem dX7_run_48 : decode cX7_run 48 = .ok (.iconst 0, 1) := by decide +kernel
theorem dX7_run_49 : decode cX7_run 49 = .ok (.iastore, 1) := by decide +kernel
theorem dX7_run_50 : decode cX7_run 50 = .ok (.aload_n 0, 1) := by decide +kernel
theorem dX7_run_51 : decode cX7_run 51 = .ok (.getfield 95, 3) := by decide +kernel
theorem dX7_run_54 : decode cX7_run 54 = .ok (.iload_n 1, 1) := by decide +kernel
theorem dX7_run_55 : decode cX7_run 55 = .ok (.iconst 0, 1) := by decide +kernel
theorem dX7_run_56 : decode cX7_run 56 = .ok (.bastore, 1) := by decide +kernel
theorem dX7_run_57 : decode cX7_run 57 = .ok (.iinc 1 1, 3) := by decide +kernel
theorem dX7_run_60 : decode cX7_run 60 = .ok (.goto (-23), 3) := by decide +kernel
theorem dX7_run_63 : decode cX7_run 63 = .ok (.aload_n 0, 1) := by decide +kernel
theorem dX7_run_64 : decode cX7_run 64 = .ok (.invokevirtual 177, 3) := by decide +kernel
theorem dX7_run_67 : decode cX7_run 67 = .ok (.istore_n 1, 1) := by decide +kernel
theorem dX7_run_68 : decode cX7_run 68 = .ok (.iload_n 1, 1) := by decide +kernel
theorem dX7_run_69 : decode cX7_run 69 = .ok (.iconst (-1), 1) := by decide +kernel
theorem dX7_run_70 : decode cX7_run 70 = .ok (.if_icmp .eq 99, 3) := by decide +kernel
theorem dX7_run_73 : decode cX7_run 73 = .ok (.aload_n 0, 1) := by decide +kernel
theorem dX7_run_74 : decode cX7_run 74 = .ok (.getfield 174, 3) := by decide +kernel
theorem dX7_run_77 : decode cX7_run 77 = .ok (.bipush 30, 2) := by decide +kernel
theorem dX7_run_79 : decode cX7_run 79 = .ok (.if_icmp .ge 90, 3) := by decide +kernel
theorem dX7_run_82 : decode cX7_run 82 = .ok (.aload_n 0, 1) := by decide +kernel
theorem dX7_run_83 : decode cX7_run 83 = .ok (.getfield 95, 3) := by decide +kernel
theorem dX7_run_86 : decode cX7_run 86 = .ok (.iload_n 1, 1) := by decide +kernel
theorem dX7_run_87 : decode cX7_run 87 = .ok (.iconst 1, 1) := by decide +kernel
theorem dX7_run_88 : decode cX7_run 88 = .ok (.bastore, 1) := by decide +kernel
theorem dX7_run_89 : decode cX7_run 89 = .ok (.aload_n 0, 1) := by decide +kernel
theorem dX7_run_90 : decode cX7_run 90 = .ok (.iload_n 1, 1) := by decide +kernel
theorem dX7_run_91 : decode cX7_run 91 = .ok (.invokevirtual 165, 3) := by decide +kernel
theorem dX7_run_94 : decode cX7_run 94 = .ok (.istore_n 2, 1) := by decide +kernel
theorem dX7_run_95 : decode cX7_run 95 = .ok (.aload_n 0, 1) := by decide +kernel
theorem dX7_run_96 : decode cX7_run 96 = .ok (.iload_n 1, 1) := by decide +kernel
theorem dX7_run_97 : decode cX7_run 97 = .ok (.invokevirtual 181, 3) := by decide +kernel
theorem dX7_run_100 : decode cX7_run 100 = .ok (.istore_n 3, 1) := by decide +kernel
theorem dX7_run_101 : decode cX7_run 101 = .ok (.iload_n 2, 1) := by decide +kernel
theorem dX7_run_102 : decode cX7_run 102 = .ok (.ifCond .le 59, 3) := by decide +kernel
theorem dX7_run_105 : decode cX7_run 105 = .ok (.iload_n 3, 1) := by decide +kernel
theorem dX7_run_106 : decode cX7_run 106 = .ok (.iconst (-1), 1) := by decide +kernel
theorem dX7_run_107 : decode cX7_run 107 = .ok (.if_icmp .eq 54, 3) := by decide +kernel
theorem dX7_run_110 : decode cX7_run 110 = .ok (.aload_n 0, 1) := by decide +kernel
theorem dX7_run_111 : decode cX7_run 111 = .ok (.getfield 174, 3) := by decide +kernel
theorem dX7_run_114 : decode cX7_run 114 = .ok (.bipush 30, 2) := by decide +kernel
theorem dX7_run_116 : decode cX7_run 116 = .ok (.if_icmp .ge 45, 3) := by decide +kernel
theorem dX7_run_119 : decode cX7_run 119 = .ok (.aload_n 0, 1) := by decide +kernel
theorem dX7_run_120 : decode cX7_run 120 = .ok (.iload_n 3, 1) := by decide +kernel
theorem dX7_run_121 : decode cX7_run 121 = .ok (.invokevirtual 171, 3) := by decide +kernel
theorem dX7_run_124 : decode cX7_run 124 = .ok (.iload_n 2, 1) := by decide +kernel
theorem dX7_run_125 : decode cX7_run 125 = .ok (.if_icmp .ge 11, 3) := by decide +kernel
theorem dX7_run_128 : decode cX7_run 128 = .ok (.aload_n 0, 1) := by decide +kernel
theorem dX7_run_129 : decode cX7_run 129 = .ok (.iload_n 3, 1) := by decide +kernel
theorem dX7_run_130 : decode cX7_run 130 = .ok (.invokevirtual 171, 3) := by decide +kernel
theorem dX7_run_133 : decode cX7_run 133 = .ok (.goto 4, 3) := by decide +kernel
theorem dX7_run_136 : decode cX7_run 136 = .ok (.iload_n 2, 1) := by decide +kernel
theorem dX7_run_137 : decode cX7_run 137 = .ok (.istore 4, 2) := by decide +kernel
theorem dX7_run_139 : decode cX7_run 139 = .ok (.aload_n 0, 1) := by decide +kernel
theorem dX7_run_140 : decode cX7_run 140 = .ok (.iload_n 3, 1) := by decide +kernel
theorem dX7_run_141 : decode cX7_run 141 = .ok (.iload_n 1, 1) := by decide +kernel
theorem dX7_run_142 : decode cX7_run 142 = .ok (.iload 4, 2) := by decide +kernel
theorem dX7_run_144 : decode cX7_run 144 = .ok (.invokevirtual 184, 3) := by decide +kernel
theorem dX7_run_147 : decode cX7_run 147 = .ok (.iload_n 2, 1) := by decide +kernel
theorem dX7_run_148 : decode cX7_run 148 = .ok (.iload 4, 2) := by decide +kernel
theorem dX7_run_150 : decode cX7_run 150 = .ok (.isub, 1) := by decide +kernel
theorem dX7_run_151 : decode cX7_run 151 = .ok (.istore_n 2, 1) := by decide +kernel
theorem dX7_run_152 : decode cX7_run 152 = .ok (.aload_n 0, 1) := by decide +kernel
theorem dX7_run_153 : decode cX7_run 153 = .ok (.iload_n 1, 1) := by decide +kernel
theorem dX7_run_154 : decode cX7_run 154 = .ok (.invokevirtual 181, 3) := by decide +kernel
theorem dX7_run_157 : decode cX7_run 157 = .ok (.istore_n 3, 1) := by decide +kernel
theorem dX7_run_158 : decode cX7_run 158 = .ok (.goto (-57), 3) := by decide +kernel
theorem dX7_run_161 : decode cX7_run 161 = .ok (.aload_n 0, 1) := by decide +kernel
theorem dX7_run_162 : decode cX7_run 162 = .ok (.invokevirtual 177, 3) := by decide +kernel
theorem dX7_run_165 : decode cX7_run 165 = .ok (.istore_n 1, 1) := by decide +kernel
theorem dX7_run_166 : decode cX7_run 166 = .ok (.goto (-98), 3) := by decide +kernel
theorem dX7_run_169 : decode cX7_run 169 = .ok (.aload_n 0, 1) := by decide +kernel
theorem dX7_run_170 : decode cX7_run 170 = .ok (.getfield 174, 3) := by decide +kernel
theorem dX7_run_173 : decode cX7_run 173 = .ok (.ireturn, 1) := by decide +kernel
abbrev cX7_move : ByteArray := prog_9_method_39_code
def yX7_move : MethodName := ⟨RX7, "move", "(II)I"⟩
abbrev wX7_move : Cond := .code yX7_move cX7_move 3 (some .int)
theorem kX7_move : wX7_move ∈ wG := mG 961 (by decide +kernel) rfl
theorem dX7_move_0 : decode cX7_move 0 = .ok (.aload_n 0, 1) := by decide +kernel
theorem dX7_move_1 : decode cX7_move 1 = .ok (.iload_n 1, 1) := by decide +kernel
theorem dX7_move_2 : decode cX7_move 2 = .ok (.iconst 0, 1) := by decide +kernel
theorem dX7_move_3 : decode cX7_move 3 = .ok (.aload_n 0, 1) := by decide +kernel
theorem dX7_move_4 : decode cX7_move 4 = .ok (.getfield 174, 3) := by decide +kernel
theorem dX7_move_7 : decode cX7_move 7 = .ok (.iconst 1, 1) := by decide +kernel
theorem dX7_move_8 : decode cX7_move 8 = .ok (.isub, 1) := by decide +kernel
theorem dX7_move_9 : decode cX7_move 9 = .ok (.invokestatic 102, 3) := by decide +kernel
theorem dX7_move_12 : decode cX7_move 12 = .ok (.ifCond .ne 7, 3) := by decide +kernel
theorem dX7_move_15 : decode cX7_move 15 = .ok (.iconst 1, 1) := by decide +kernel
theorem dX7_move_16 : decode cX7_move 16 = .ok (.goto 18, 3) := by decide +kernel
theorem dX7_move_19 : decode cX7_move 19 = .ok (.iload_n 2, 1) := by decide +kernel
theorem dX7_move_20 : decode cX7_move 20 = .ok (.iconst 0, 1) := by decide +kernel
theorem dX7_move_21 : decode cX7_move 21 = .ok (.bipush 6, 2) := by decide +kernel
theorem dX7_move_23 : decode cX7_move 23 = .ok (.invokestatic 102, 3) := by decide +kernel
theorem dX7_move_26 : decode cX7_move 26 = .ok (.ifCond .ne 7, 3) := by decide +kernel
theorem dX7_move_29 : decode cX7_move 29 = .ok (.iconst 2, 1) := by decide +kernel
theorem dX7_move_30 : decode cX7_move 30 = .ok (.goto 4, 3) := by decide +kernel
theorem dX7_move_33 : decode cX7_move 33 = .ok (.iconst 0, 1) := by decide +kernel
theorem dX7_move_34 : decode cX7_move 34 = .ok (.putfield 98, 3) := by decide +kernel
theorem dX7_move_37 : decode cX7_move 37 = .ok (.aload_n 0, 1) := by decide +kernel
theorem dX7_move_38 : decode cX7_move 38 = .ok (.getfield 98, 3) := by decide +kernel
theorem dX7_move_41 : decode cX7_move 41 = .ok (.ifCond .le 5, 3) := by decide +kernel
theorem dX7_move_44 : decode cX7_move 44 = .ok (.iconst 0, 1) := by decide +kernel
theorem dX7_move_45 : decode cX7_move 45 = .ok (.ireturn, 1) := by decide +kernel
theorem dX7_move_46 : decode cX7_move 46 = .ok (.iload_n 2, 1) := by decide +kernel
theorem dX7_move_47 : decode cX7_move 47 = .ok (.tableswitch 87 0 5 #[37, 44, 51, 58, 65, 72], 37) := by decide +kernel
theorem dX7_move_84 : decode cX7_move 84 = .ok (.aload_n 0, 1) := by decide +kernel
theorem dX7_move_85 : decode cX7_move 85 = .ok (.getfield 71, 3) := by decide +kernel
theorem dX7_move_88 : decode cX7_move 88 = .ok (.iload_n 1, 1) := by decide +kernel
theorem dX7_move_89 : decode cX7_move 89 = .ok (.iaload, 1) := by decide +kernel
theorem dX7_move_90 : decode cX7_move 90 = .ok (.ireturn, 1) := by decide +kernel
theorem dX7_move_91 : decode cX7_move 91 = .ok (.aload_n 0, 1) := by decide +kernel
theorem dX7_move_92 : decode cX7_move 92 = .ok (.getfield 74, 3) := by decide +kernel
theorem dX7_move_95 : decode cX7_move 95 = .ok (.iload_n 1, 1) := by decide +kernel
theorem dX7_move_96 : decode cX7_move 96 = .ok (.iaload, 1) := by decide +kernel
theorem dX7_move_97 : decode cX7_move 97 = .ok (.ireturn, 1) := by decide +kernel
theorem dX7_move_98 : decode cX7_move 98 = .ok (.aload_n 0, 1) := by decide +kernel
theorem dX7_move_99 : decode cX7_move 99 = .ok (.getfield 77, 3) := by decide +kernel
theorem dX7_move_102 : decode cX7_move 102 = .ok (.iload_n 1, 1) := by decide +kernel
theorem dX7_move_103 : decode cX7_move 103 = .ok (.iaload, 1) := by decide +kernel
theorem dX7_move_104 : decode cX7_move 104 = .ok (.ireturn, 1) := by decide +kernel
theorem dX7_move_105 : decode cX7_move 105 = .ok (.aload_n 0, 1) := by decide +kernel
theorem dX7_move_106 : decode cX7_move 106 = .ok (.getfield 80, 3) := by decide +kernel
theorem dX7_move_109 : decode cX7_move 109 = .ok (.iload_n 1, 1) := by decide +kernel
theorem dX7_move_110 : decode cX7_move 110 = .ok (.iaload, 1) := by decide +kernel
theorem dX7_move_111 : decode cX7_move 111 = .ok (.ireturn, 1) := by decide +kernel
theorem dX7_move_112 : decode cX7_move 112 = .ok (.aload_n 0, 1) := by decide +kernel
theorem dX7_move_113 : decode cX7_move 113 = .ok (.getfield 83, 3) := by decide +kernel
theorem dX7_move_116 : decode cX7_move 116 = .ok (.iload_n 1, 1) := by decide +kernel
theorem dX7_move_117 : decode cX7_move 117 = .ok (.iaload, 1) := by decide +kernel
theorem dX7_move_118 : decode cX7_move 118 = .ok (.ireturn, 1) := by decide +kernel
theorem dX7_move_119 : decode cX7_move 119 = .ok (.aload_n 0, 1) := by decide +kernel
theorem dX7_move_120 : decode cX7_move 120 = .ok (.getfield 86, 3) := by decide +kernel
theorem dX7_move_123 : decode cX7_move 123 = .ok (.iload_n 1, 1) := by decide +kernel
theorem dX7_move_124 : decode cX7_move 124 = .ok (.baload, 1) := by decide +kernel
theorem dX7_move_125 : decode cX7_move 125 = .ok (.ifCond .eq 7, 3) := by decide +kernel
theorem dX7_move_128 : decode cX7_move 128 = .ok (.iconst 1, 1) := by decide +kernel
theorem dX7_move_129 : decode cX7_move 129 = .ok (.goto 4, 3) := by decide +kernel
theorem dX7_move_132 : decode cX7_move 132 = .ok (.iconst 0, 1) := by decide +kernel
theorem dX7_move_133 : decode cX7_move 133 = .ok (.ireturn, 1) := by decide +kernel
theorem dX7_move_134 : decode cX7_move 134 = .ok (.aload_n 0, 1) := by decide +kernel
theorem dX7_move_135 : decode cX7_move 135 = .ok (.getfield 89, 3) := by decide +kernel
theorem dX7_move_138 : decode cX7_move 138 = .ok (.iload_n 1, 1) := by decide +kernel
theorem dX7_move_139 : decode cX7_move 139 = .ok (.baload, 1) := by decide +kernel
theorem dX7_move_140 : decode cX7_move 140 = .ok (.ifCond .eq 7, 3) := by decide +kernel
theorem dX7_move_143 : decode cX7_move 143 = .ok (.iconst 1, 1) := by decide +kernel
theorem dX7_move_144 : decode cX7_move 144 = .ok (.goto 4, 3) := by decide +kernel
theorem dX7_move_147 : decode cX7_move 147 = .ok (.iconst 0, 1) := by decide +kernel
theorem dX7_move_148 : decode cX7_move 148 = .ok (.ireturn, 1) := by decide +kernel
abbrev cX7_done : ByteArray := prog_9_method_40_code
def yX7_done : MethodName := ⟨RX7, "done", "(I)V"⟩
abbrev wX7_done : Cond := .code yX7_done cX7_done 6 none
theorem kX7_done : wX7_done ∈ wG := mG 965 (by decide +kernel) rfl
theorem dX7_done_0 : decode cX7_done 0 = .ok (.iload_n 1, 1) := by decide +kernel
theorem dX7_done_1 : decode cX7_done 1 = .ok (.iconst 0, 1) := by decide +kernel
theorem dX7_done_2 : decode cX7_done 2 = .ok (.aload_n 0, 1) := by decide +kernel
theorem dX7_done_3 : decode cX7_done 3 = .ok (.getfield 174, 3) := by decide +kernel
theorem dX7_done_6 : decode cX7_done 6 = .ok (.iconst 1, 1) := by decide +kernel
theorem dX7_done_7 : decode cX7_done 7 = .ok (.isub, 1) := by decide +kernel
theorem dX7_done_8 : decode cX7_done 8 = .ok (.invokestatic 102, 3) := by decide +kernel
theorem dX7_done_11 : decode cX7_done 11 = .ok (.ifCond .ne 9, 3) := by decide +kernel
theorem dX7_done_14 : decode cX7_done 14 = .ok (.aload_n 0, 1) := by decide +kernel
theorem dX7_done_15 : decode cX7_done 15 = .ok (.iconst 1, 1) := by decide +kernel
theorem dX7_done_16 : decode cX7_done 16 = .ok (.putfield 98, 3) := by decide +kernel
theorem dX7_done_19 : decode cX7_done 19 = .ok (.return_, 1) := by decide +kernel
theorem dX7_done_20 : decode cX7_done 20 = .ok (.aload_n 0, 1) := by decide +kernel
theorem dX7_done_21 : decode cX7_done 21 = .ok (.getfield 71, 3) := by decide +kernel
theorem dX7_done_24 : decode cX7_done 24 = .ok (.iload_n 1, 1) := by decide +kernel
theorem dX7_done_25 : decode cX7_done 25 = .ok (.iaload, 1) := by decide +kernel
theorem dX7_done_26 : decode cX7_done 26 = .ok (.istore_n 2, 1) := by decide +kernel
theorem dX7_done_27 : decode cX7_done 27 = .ok (.aload_n 0, 1) := by decide +kernel
theorem dX7_done_28 : decode cX7_done 28 = .ok (.getfield 74, 3) := by decide +kernel
theorem dX7_done_31 : decode cX7_done 31 = .ok (.iload_n 1, 1) := by decide +kernel
theorem dX7_done_32 : decode cX7_done 32 = .ok (.iaload, 1) := by decide +kernel
theorem dX7_done_33 : decode cX7_done 33 = .ok (.istore_n 3, 1) := by decide +kernel
theorem dX7_done_34 : decode cX7_done 34 = .ok (.aload_n 0, 1) := by decide +kernel
theorem dX7_done_35 : decode cX7_done 35 = .ok (.getfield 29, 3) := by decide +kernel
theorem dX7_done_38 : decode cX7_done 38 = .ok (.iload_n 3, 1) := by decide +kernel
theorem dX7_done_39 : decode cX7_done 39 = .ok (.iaload, 1) := by decide +kernel
theorem dX7_done_40 : decode cX7_done 40 = .ok (.istore 4, 2) := by decide +kernel
theorem dX7_done_42 : decode cX7_done 42 = .ok (.aload_n 0, 1) := by decide +kernel
theorem dX7_done_43 : decode cX7_done 43 = .ok (.getfield 19, 3) := by decide +kernel
theorem dX7_done_46 : decode cX7_done 46 = .ok (.iload_n 2, 1) := by decide +kernel
theorem dX7_done_47 : decode cX7_done 47 = .ok (.iaload, 1) := by decide +kernel
theorem dX7_done_48 : decode cX7_done 48 = .ok (.iload 4, 2) := by decide +kernel
theorem dX7_done_50 : decode cX7_done 50 = .ok (.if_icmp .ne 17, 3) := by decide +kernel
theorem dX7_done_53 : decode cX7_done 53 = .ok (.aload_n 0, 1) := by decide +kernel
theorem dX7_done_54 : decode cX7_done 54 = .ok (.iload_n 2, 1) := by decide +kernel
theorem dX7_done_55 : decode cX7_done 55 = .ok (.invokevirtual 115, 3) := by decide +kernel
theorem dX7_done_58 : decode cX7_done 58 = .ok (.aload_n 0, 1) := by decide +kernel
theorem dX7_done_59 : decode cX7_done 59 = .ok (.getfield 77, 3) := by decide +kernel
theorem dX7_done_62 : decode cX7_done 62 = .ok (.iload_n 1, 1) := by decide +kernel
theorem dX7_done_63 : decode cX7_done 63 = .ok (.iaload, 1) := by decide +kernel
theorem dX7_done_64 : decode cX7_done 64 = .ok (.if_icmp .ge 7, 3) := by decide +kernel
theorem dX7_done_67 : decode cX7_done 67 = .ok (.iconst 1, 1) := by decide +kernel
theorem dX7_done_68 : decode cX7_done 68 = .ok (.goto 4, 3) := by decide +kernel
theorem dX7_done_71 : decode cX7_done 71 = .ok (.iconst 0, 1) := by decide +kernel
theorem dX7_done_72 : decode cX7_done 72 = .ok (.istore 5, 2) := by decide +kernel
theorem dX7_done_74 : decode cX7_done 74 = .ok (.aload_n 0, 1) := by decide +kernel
theorem dX7_done_75 : decode cX7_done 75 = .ok (.aload_n 0, 1) := by decide +kernel
theorem dX7_done_76 : decode cX7_done 76 = .ok (.getfield 89, 3) := by decide +kernel
theorem dX7_done_79 : decode cX7_done 79 = .ok (.iload_n 1, 1) := by decide +kernel
theorem dX7_done_80 : decode cX7_done 80 = .ok (.baload, 1) := by decide +kernel
theorem dX7_done_81 : decode cX7_done 81 = .ok (.ifCond .ne 18, 3) := by decide +kernel
theorem dX7_done_84 : decode cX7_done 84 = .ok (.iload 5, 2) := by decide +kernel
theorem dX7_done_86 : decode cX7_done 86 = .ok (.ifCond .ne 13, 3) := by decide +kernel
theorem dX7_done_89 : decode cX7_done 89 = .ok (.aload_n 0, 1) := by decide +kernel
theorem dX7_done_90 : decode cX7_done 90 = .ok (.iload_n 3, 1) := by decide +kernel
theorem dX7_done_91 : decode cX7_done 91 = .ok (.iload 4, 2) := by decide +kernel
theorem dX7_done_93 : decode cX7_done 93 = .ok (.invokevirtual 111, 3) := by decide +kernel
theorem dX7_done_96 : decode cX7_done 96 = .ok (.ifCond .eq 7, 3) := by decide +kernel
theorem dX7_done_99 : decode cX7_done 99 = .ok (.iconst 2, 1) := by decide +kernel
theorem dX7_done_100 : decode cX7_done 100 = .ok (.goto 30, 3) := by decide +kernel
theorem dX7_done_103 : decode cX7_done 103 = .ok (.aload_n 0, 1) := by decide +kernel
theorem dX7_done_104 : decode cX7_done 104 = .ok (.getfield 16, 3) := by decide +kernel
theorem dX7_done_107 : decode cX7_done 107 = .ok (.iload_n 3, 1) := by decide +kernel
theorem dX7_done_108 : decode cX7_done 108 = .ok (.iaload, 1) := by decide +kernel
theorem dX7_done_109 : decode cX7_done 109 = .ok (.aload_n 0, 1) := by decide +kernel
theorem dX7_done_110 : decode cX7_done 110 = .ok (.getfield 77, 3) := by decide +kernel
theorem dX7_done_113 : decode cX7_done 113 = .ok (.iload_n 1, 1) := by decide +kernel
theorem dX7_done_114 : decode cX7_done 114 = .ok (.iaload, 1) := by decide +kernel
theorem dX7_done_115 : decode cX7_done 115 = .ok (.iadd, 1) := by decide +kernel
theorem dX7_done_116 : decode cX7_done 116 = .ok (.aload_n 0, 1) := by decide +kernel
theorem dX7_done_117 : decode cX7_done 117 = .ok (.getfield 7, 3) := by decide +kernel
theorem dX7_done_120 : decode cX7_done 120 = .ok (.iload_n 3, 1) := by decide +kernel
theorem dX7_done_121 : decode cX7_done 121 = .ok (.iaload, 1) := by decide +kernel
theorem dX7_done_122 : decode cX7_done 122 = .ok (.if_icmp .le 7, 3) := by decide +kernel
theorem dX7_done_125 : decode cX7_done 125 = .ok (.iconst 3, 1) := by decide +kernel
theorem dX7_done_126 : decode cX7_done 126 = .ok (.goto 4, 3) := by decide +kernel
theorem dX7_done_129 : decode cX7_done 129 = .ok (.iconst 0, 1) := by decide +kernel
theorem dX7_done_130 : decode cX7_done 130 = .ok (.putfield 98, 3) := by decide +kernel
theorem dX7_done_133 : decode cX7_done 133 = .ok (.aload_n 0, 1) := by decide +kernel
theorem dX7_done_134 : decode cX7_done 134 = .ok (.getfield 98, 3) := by decide +kernel
theorem dX7_done_137 : decode cX7_done 137 = .ok (.ifCond .ne 44, 3) := by decide +kernel
theorem dX7_done_140 : decode cX7_done 140 = .ok (.aload_n 0, 1) := by decide +kernel
theorem dX7_done_141 : decode cX7_done 141 = .ok (.iload_n 2, 1) := by decide +kernel
theorem dX7_done_142 : decode cX7_done 142 = .ok (.aload_n 0, 1) := by decide +kernel
theorem dX7_done_143 : decode cX7_done 143 = .ok (.getfield 77, 3) := by decide +kernel
theorem dX7_done_146 : decode cX7_done 146 = .ok (.iload_n 1, 1) := by decide +kernel
theorem dX7_done_147 : decode cX7_done 147 = .ok (.iaload, 1) := by decide +kernel
theorem dX7_done_148 : decode cX7_done 148 = .ok (.invokevirtual 119, 3) := by decide +kernel
theorem dX7_done_151 : decode cX7_done 151 = .ok (.aload_n 0, 1) := by decide +kernel
theorem dX7_done_152 : decode cX7_done 152 = .ok (.getfield 16, 3) := by decide +kernel
theorem dX7_done_155 : decode cX7_done 155 = .ok (.iload_n 3, 1) := by decide +kernel
theorem dX7_done_156 : decode cX7_done 156 = .ok (.dup2, 1) := by decide +kernel
theorem dX7_done_157 : decode cX7_done 157 = .ok (.iaload, 1) := by decide +kernel
theorem dX7_done_158 : decode cX7_done 158 = .ok (.aload_n 0, 1) := by decide +kernel
theorem dX7_done_159 : decode cX7_done 159 = .ok (.getfield 77, 3) := by decide +kernel
theorem dX7_done_162 : decode cX7_done 162 = .ok (.iload_n 1, 1) := by decide +kernel
theorem dX7_done_163 : decode cX7_done 163 = .ok (.iaload, 1) := by decide +kernel
theorem dX7_done_164 : decode cX7_done 164 = .ok (.iadd, 1) := by decide +kernel
theorem dX7_done_165 : decode cX7_done 165 = .ok (.iastore, 1) := by decide +kernel
theorem dX7_done_166 : decode cX7_done 166 = .ok (.aload_n 0, 1) := by decide +kernel
theorem dX7_done_167 : decode cX7_done 167 = .ok (.getfield 19, 3) := by decide +kernel
theorem dX7_done_170 : decode cX7_done 170 = .ok (.iload_n 3, 1) := by decide +kernel
theorem dX7_done_171 : decode cX7_done 171 = .ok (.iload 4, 2) := by decide +kernel
theorem dX7_done_173 : decode cX7_done 173 = .ok (.iastore, 1) := by decide +kernel
theorem dX7_done_174 : decode cX7_done 174 = .ok (.aload_n 0, 1) := by decide +kernel
theorem dX7_done_175 : decode cX7_done 175 = .ok (.getfield 89, 3) := by decide +kernel
theorem dX7_done_178 : decode cX7_done 178 = .ok (.iload_n 1, 1) := by decide +kernel
theorem dX7_done_179 : decode cX7_done 179 = .ok (.iconst 1, 1) := by decide +kernel
theorem dX7_done_180 : decode cX7_done 180 = .ok (.bastore, 1) := by decide +kernel
theorem dX7_done_181 : decode cX7_done 181 = .ok (.return_, 1) := by decide +kernel
abbrev cX7_told : ByteArray := prog_9_method_41_code
def yX7_told : MethodName := ⟨RX7, "told", "(II)I"⟩
abbrev wX7_told : Cond := .code yX7_told cX7_told 3 (some .int)
theorem kX7_told : wX7_told ∈ wG := mG 969 (by decide +kernel) rfl
theorem dX7_told_0 : decode cX7_told 0 = .ok (.aload_n 0, 1) := by decide +kernel
theorem dX7_told_1 : decode cX7_told 1 = .ok (.iload_n 1, 1) := by decide +kernel
theorem dX7_told_2 : decode cX7_told 2 = .ok (.invokestatic 106, 3) := by decide +kernel
theorem dX7_told_5 : decode cX7_told 5 = .ok (.ifCond .eq 16, 3) := by decide +kernel
theorem dX7_told_8 : decode cX7_told 8 = .ok (.iload_n 2, 1) := by decide +kernel
theorem dX7_told_9 : decode cX7_told 9 = .ok (.iconst 0, 1) := by decide +kernel
theorem dX7_told_10 : decode cX7_told 10 = .ok (.iconst 5, 1) := by decide +kernel
theorem dX7_told_11 : decode cX7_told 11 = .ok (.invokestatic 102, 3) := by decide +kernel
theorem dX7_told_14 : decode cX7_told 14 = .ok (.ifCond .eq 7, 3) := by decide +kernel
theorem dX7_told_17 : decode cX7_told 17 = .ok (.iconst 0, 1) := by decide +kernel
theorem dX7_told_18 : decode cX7_told 18 = .ok (.goto 4, 3) := by decide +kernel
theorem dX7_told_21 : decode cX7_told 21 = .ok (.iconst 1, 1) := by decide +kernel
theorem dX7_told_22 : decode cX7_told 22 = .ok (.putfield 98, 3) := by decide +kernel
theorem dX7_told_25 : decode cX7_told 25 = .ok (.aload_n 0, 1) := by decide +kernel
theorem dX7_told_26 : decode cX7_told 26 = .ok (.getfield 98, 3) := by decide +kernel
theorem dX7_told_29 : decode cX7_told 29 = .ok (.ifCond .le 5, 3) := by decide +kernel
theorem dX7_told_32 : decode cX7_told 32 = .ok (.iconst 0, 1) := by decide +kernel
theorem dX7_told_33 : decode cX7_told 33 = .ok (.ireturn, 1) := by decide +kernel
theorem dX7_told_34 : decode cX7_told 34 = .ok (.iload_n 2, 1) := by decide +kernel
theorem dX7_told_35 : decode cX7_told 35 = .ok (.tableswitch 89 0 4 #[33, 40, 47, 54, 69], 33) := by decide +kernel
theorem dX7_told_68 : decode cX7_told 68 = .ok (.aload_n 0, 1) := by decide +kernel
theorem dX7_told_69 : decode cX7_told 69 = .ok (.getfield 16, 3) := by decide +kernel
theorem dX7_told_72 : decode cX7_told 72 = .ok (.iload_n 1, 1) := by decide +kernel
theorem dX7_told_73 : decode cX7_told 73 = .ok (.iaload, 1) := by decide +kernel
theorem dX7_told_74 : decode cX7_told 74 = .ok (.ireturn, 1) := by decide +kernel
theorem dX7_told_75 : decode cX7_told 75 = .ok (.aload_n 0, 1) := by decide +kernel
theorem dX7_told_76 : decode cX7_told 76 = .ok (.getfield 22, 3) := by decide +kernel
theorem dX7_told_79 : decode cX7_told 79 = .ok (.iload_n 1, 1) := by decide +kernel
theorem dX7_told_80 : decode cX7_told 80 = .ok (.iaload, 1) := by decide +kernel
theorem dX7_told_81 : decode cX7_told 81 = .ok (.ireturn, 1) := by decide +kernel
theorem dX7_told_82 : decode cX7_told 82 = .ok (.aload_n 0, 1) := by decide +kernel
theorem dX7_told_83 : decode cX7_told 83 = .ok (.getfield 19, 3) := by decide +kernel
theorem dX7_told_86 : decode cX7_told 86 = .ok (.iload_n 1, 1) := by decide +kernel
theorem dX7_told_87 : decode cX7_told 87 = .ok (.iaload, 1) := by decide +kernel
theorem dX7_told_88 : decode cX7_told 88 = .ok (.ireturn, 1) := by decide +kernel
