abbrev cX6_init : ByteArray := prog_1_method_1_code
def yX6_init : MethodName := ⟨RX6, "<init>", "()V"⟩
abbrev wX6_init : Cond := .code yX6_init cX6_init 2 none
theorem kX6_init : wX6_init ∈ wG := mG 22 (by decide +kernel) rfl
theorem dX6_init_0 : decode cX6_init 0 = .ok (.aload_n 0, 1) := by decide +kernel
theorem dX6_init_1 : decode cX6_init 1 = .ok (.invokespecial 1, 3) := by decide +kernel
theorem dX6_init_4 : decode cX6_init 4 = .ok (.aload_n 0, 1) := by decide +kernel
theorem dX6_init_5 : decode cX6_init 5 = .ok (.bipush 16, 2) := by decide +kernel
theorem dX6_init_7 : decode cX6_init 7 = .ok (.anewarray 9, 3) := by decide +kernel
theorem dX6_init_10 : decode cX6_init 10 = .ok (.putfield 11, 3) := by decide +kernel
theorem dX6_init_13 : decode cX6_init 13 = .ok (.aload_n 0, 1) := by decide +kernel
theorem dX6_init_14 : decode cX6_init 14 = .ok (.iconst 4, 1) := by decide +kernel
theorem dX6_init_15 : decode cX6_init 15 = .ok (.anewarray 15, 3) := by decide +kernel
theorem dX6_init_18 : decode cX6_init 18 = .ok (.putfield 17, 3) := by decide +kernel
theorem dX6_init_21 : decode cX6_init 21 = .ok (.aload_n 0, 1) := by decide +kernel
theorem dX6_init_22 : decode cX6_init 22 = .ok (.bipush 8, 2) := by decide +kernel
theorem dX6_init_24 : decode cX6_init 24 = .ok (.newarray .int, 2) := by decide +kernel
theorem dX6_init_26 : decode cX6_init 26 = .ok (.putfield 21, 3) := by decide +kernel
theorem dX6_init_29 : decode cX6_init 29 = .ok (.aload_n 0, 1) := by decide +kernel
theorem dX6_init_30 : decode cX6_init 30 = .ok (.bipush 12, 2) := by decide +kernel
theorem dX6_init_32 : decode cX6_init 32 = .ok (.newarray .int, 2) := by decide +kernel
theorem dX6_init_34 : decode cX6_init 34 = .ok (.putfield 25, 3) := by decide +kernel
theorem dX6_init_37 : decode cX6_init 37 = .ok (.aload_n 0, 1) := by decide +kernel
theorem dX6_init_38 : decode cX6_init 38 = .ok (.bipush 12, 2) := by decide +kernel
theorem dX6_init_40 : decode cX6_init 40 = .ok (.newarray .int, 2) := by decide +kernel
theorem dX6_init_42 : decode cX6_init 42 = .ok (.putfield 28, 3) := by decide +kernel
theorem dX6_init_45 : decode cX6_init 45 = .ok (.aload_n 0, 1) := by decide +kernel
theorem dX6_init_46 : decode cX6_init 46 = .ok (.new 31, 3) := by decide +kernel
theorem dX6_init_49 : decode cX6_init 49 = .ok (.dup, 1) := by decide +kernel
theorem dX6_init_50 : decode cX6_init 50 = .ok (.invokespecial 33, 3) := by decide +kernel
theorem dX6_init_53 : decode cX6_init 53 = .ok (.putfield 34, 3) := by decide +kernel
theorem dX6_init_56 : decode cX6_init 56 = .ok (.aload_n 0, 1) := by decide +kernel
theorem dX6_init_57 : decode cX6_init 57 = .ok (.new 38, 3) := by decide +kernel
theorem dX6_init_60 : decode cX6_init 60 = .ok (.dup, 1) := by decide +kernel
theorem dX6_init_61 : decode cX6_init 61 = .ok (.invokespecial 40, 3) := by decide +kernel
theorem dX6_init_64 : decode cX6_init 64 = .ok (.putfield 41, 3) := by decide +kernel
theorem dX6_init_67 : decode cX6_init 67 = .ok (.aload_n 0, 1) := by decide +kernel
theorem dX6_init_68 : decode cX6_init 68 = .ok (.new 45, 3) := by decide +kernel
theorem dX6_init_71 : decode cX6_init 71 = .ok (.dup, 1) := by decide +kernel
theorem dX6_init_72 : decode cX6_init 72 = .ok (.invokespecial 47, 3) := by decide +kernel
theorem dX6_init_75 : decode cX6_init 75 = .ok (.putfield 48, 3) := by decide +kernel
theorem dX6_init_78 : decode cX6_init 78 = .ok (.iconst 0, 1) := by decide +kernel
theorem dX6_init_79 : decode cX6_init 79 = .ok (.istore_n 1, 1) := by decide +kernel
theorem dX6_init_80 : decode cX6_init 80 = .ok (.iload_n 1, 1) := by decide +kernel
theorem dX6_init_81 : decode cX6_init 81 = .ok (.bipush 16, 2) := by decide +kernel
theorem dX6_init_83 : decode cX6_init 83 = .ok (.if_icmp .ge 23, 3) := by decide +kernel
theorem dX6_init_86 : decode cX6_init 86 = .ok (.aload_n 0, 1) := by decide +kernel
theorem dX6_init_87 : decode cX6_init 87 = .ok (.getfield 11, 3) := by decide +kernel
theorem dX6_init_90 : decode cX6_init 90 = .ok (.iload_n 1, 1) := by decide +kernel
theorem dX6_init_91 : decode cX6_init 91 = .ok (.new 9, 3) := by decide +kernel
theorem dX6_init_94 : decode cX6_init 94 = .ok (.dup, 1) := by decide +kernel
theorem dX6_init_95 : decode cX6_init 95 = .ok (.iload_n 1, 1) := by decide +kernel
theorem dX6_init_96 : decode cX6_init 96 = .ok (.invokespecial 52, 3) := by decide +kernel
theorem dX6_init_99 : decode cX6_init 99 = .ok (.aastore, 1) := by decide +kernel
theorem dX6_init_100 : decode cX6_init 100 = .ok (.iinc 1 1, 3) := by decide +kernel
theorem dX6_init_103 : decode cX6_init 103 = .ok (.goto (-23), 3) := by decide +kernel
theorem dX6_init_106 : decode cX6_init 106 = .ok (.iconst 0, 1) := by decide +kernel
theorem dX6_init_107 : decode cX6_init 107 = .ok (.istore_n 1, 1) := by decide +kernel
theorem dX6_init_108 : decode cX6_init 108 = .ok (.iload_n 1, 1) := by decide +kernel
theorem dX6_init_109 : decode cX6_init 109 = .ok (.iconst 4, 1) := by decide +kernel
theorem dX6_init_110 : decode cX6_init 110 = .ok (.if_icmp .ge 22, 3) := by decide +kernel
theorem dX6_init_113 : decode cX6_init 113 = .ok (.aload_n 0, 1) := by decide +kernel
theorem dX6_init_114 : decode cX6_init 114 = .ok (.getfield 17, 3) := by decide +kernel
theorem dX6_init_117 : decode cX6_init 117 = .ok (.iload_n 1, 1) := by decide +kernel
theorem dX6_init_118 : decode cX6_init 118 = .ok (.new 15, 3) := by decide +kernel
theorem dX6_init_121 : decode cX6_init 121 = .ok (.dup, 1) := by decide +kernel
theorem dX6_init_122 : decode cX6_init 122 = .ok (.invokespecial 55, 3) := by decide +kernel
theorem dX6_init_125 : decode cX6_init 125 = .ok (.aastore, 1) := by decide +kernel
theorem dX6_init_126 : decode cX6_init 126 = .ok (.iinc 1 1, 3) := by decide +kernel
theorem dX6_init_129 : decode cX6_init 129 = .ok (.goto (-21), 3) := by decide +kernel
theorem dX6_init_132 : decode cX6_init 132 = .ok (.iconst 0, 1) := by decide +kernel
theorem dX6_init_133 : decode cX6_init 133 = .ok (.istore_n 1, 1) := by decide +kernel
theorem dX6_init_134 : decode cX6_init 134 = .ok (.iload_n 1, 1) := by decide +kernel
theorem dX6_init_135 : decode cX6_init 135 = .ok (.bipush 8, 2) := by decide +kernel
theorem dX6_init_137 : decode cX6_init 137 = .ok (.if_icmp .ge 16, 3) := by decide +kernel
theorem dX6_init_140 : decode cX6_init 140 = .ok (.aload_n 0, 1) := by decide +kernel
theorem dX6_init_141 : decode cX6_init 141 = .ok (.getfield 21, 3) := by decide +kernel
theorem dX6_init_144 : decode cX6_init 144 = .ok (.iload_n 1, 1) := by decide +kernel
theorem dX6_init_145 : decode cX6_init 145 = .ok (.iconst 1, 1) := by decide +kernel
theorem dX6_init_146 : decode cX6_init 146 = .ok (.iastore, 1) := by decide +kernel
theorem dX6_init_147 : decode cX6_init 147 = .ok (.iinc 1 1, 3) := by decide +kernel
theorem dX6_init_150 : decode cX6_init 150 = .ok (.goto (-16), 3) := by decide +kernel
theorem dX6_init_153 : decode cX6_init 153 = .ok (.iconst 0, 1) := by decide +kernel
theorem dX6_init_154 : decode cX6_init 154 = .ok (.istore_n 1, 1) := by decide +kernel
theorem dX6_init_155 : decode cX6_init 155 = .ok (.iload_n 1, 1) := by decide +kernel
theorem dX6_init_156 : decode cX6_init 156 = .ok (.bipush 12, 2) := by decide +kernel
theorem dX6_init_158 : decode cX6_init 158 = .ok (.if_icmp .ge 23, 3) := by decide +kernel
theorem dX6_init_161 : decode cX6_init 161 = .ok (.aload_n 0, 1) := by decide +kernel
theorem dX6_init_162 : decode cX6_init 162 = .ok (.getfield 25, 3) := by decide +kernel
theorem dX6_init_165 : decode cX6_init 165 = .ok (.iload_n 1, 1) := by decide +kernel
theorem dX6_init_166 : decode cX6_init 166 = .ok (.iconst 1, 1) := by decide +kernel
theorem dX6_init_167 : decode cX6_init 167 = .ok (.iastore, 1) := by decide +kernel
theorem dX6_init_168 : decode cX6_init 168 = .ok (.aload_n 0, 1) := by decide +kernel
theorem dX6_init_169 : decode cX6_init 169 = .ok (.getfield 28, 3) := by decide +kernel
theorem dX6_init_172 : decode cX6_init 172 = .ok (.iload_n 1, 1) := by decide +kernel
theorem dX6_init_173 : decode cX6_init 173 = .ok (.iconst 1, 1) := by decide +kernel
theorem dX6_init_174 : decode cX6_init 174 = .ok (.iastore, 1) := by decide +kernel
theorem dX6_init_175 : decode cX6_init 175 = .ok (.iinc 1 1, 3) := by decide +kernel
theorem dX6_init_178 : decode cX6_init 178 = .ok (.goto (-23), 3) := by decide +kernel
theorem dX6_init_181 : decode cX6_init 181 = .ok (.return_, 1) := by decide +kernel
abbrev cX6_place : ByteArray := prog_1_method_2_code
def yX6_place : MethodName := ⟨RX6, "place", "(III)V"⟩
abbrev wX6_place : Cond := .code yX6_place cX6_place 5 none
theorem kX6_place : wX6_place ∈ wG := mG 242 (by decide +kernel) rfl
theorem dX6_place_0 : decode cX6_place 0 = .ok (.aload_n 0, 1) := by decide +kernel
theorem dX6_place_1 : decode cX6_place 1 = .ok (.iload_n 1, 1) := by decide +kernel
theorem dX6_place_2 : decode cX6_place 2 = .ok (.invokevirtual 56, 3) := by decide +kernel
theorem dX6_place_5 : decode cX6_place 5 = .ok (.astore 4, 2) := by decide +kernel
theorem dX6_place_7 : decode cX6_place 7 = .ok (.iload_n 2, 1) := by decide +kernel
theorem dX6_place_8 : decode cX6_place 8 = .ok (.iconst 1, 1) := by decide +kernel
theorem dX6_place_9 : decode cX6_place 9 = .ok (.ldc 60, 2) := by decide +kernel
theorem dX6_place_11 : decode cX6_place 11 = .ok (.invokestatic 61, 3) := by decide +kernel
theorem dX6_place_14 : decode cX6_place 14 = .ok (.iload_n 3, 1) := by decide +kernel
theorem dX6_place_15 : decode cX6_place 15 = .ok (.iconst 0, 1) := by decide +kernel
theorem dX6_place_16 : decode cX6_place 16 = .ok (.iconst 3, 1) := by decide +kernel
theorem dX6_place_17 : decode cX6_place 17 = .ok (.invokestatic 61, 3) := by decide +kernel
theorem dX6_place_20 : decode cX6_place 20 = .ok (.aload 4, 2) := by decide +kernel
theorem dX6_place_22 : decode cX6_place 22 = .ok (.getfield 65, 3) := by decide +kernel
theorem dX6_place_25 : decode cX6_place 25 = .ok (.iload_n 2, 1) := by decide +kernel
theorem dX6_place_26 : decode cX6_place 26 = .ok (.if_icmp .gt 12, 3) := by decide +kernel
theorem dX6_place_29 : decode cX6_place 29 = .ok (.aload 4, 2) := by decide +kernel
theorem dX6_place_31 : decode cX6_place 31 = .ok (.getfield 69, 3) := by decide +kernel
theorem dX6_place_34 : decode cX6_place 34 = .ok (.iload_n 2, 1) := by decide +kernel
theorem dX6_place_35 : decode cX6_place 35 = .ok (.if_icmp .le 13, 3) := by decide +kernel
theorem dX6_place_38 : decode cX6_place 38 = .ok (.new 72, 3) := by decide +kernel
theorem dX6_place_41 : decode cX6_place 41 = .ok (.dup, 1) := by decide +kernel
theorem dX6_place_42 : decode cX6_place 42 = .ok (.ldc 74, 2) := by decide +kernel
theorem dX6_place_44 : decode cX6_place 44 = .ok (.invokespecial 76, 3) := by decide +kernel
theorem dX6_place_47 : decode cX6_place 47 = .ok (.athrow, 1) := by decide +kernel
theorem dX6_place_48 : decode cX6_place 48 = .ok (.aload 4, 2) := by decide +kernel
theorem dX6_place_50 : decode cX6_place 50 = .ok (.iload_n 2, 1) := by decide +kernel
theorem dX6_place_51 : decode cX6_place 51 = .ok (.putfield 79, 3) := by decide +kernel
theorem dX6_place_54 : decode cX6_place 54 = .ok (.aload 4, 2) := by decide +kernel
theorem dX6_place_56 : decode cX6_place 56 = .ok (.iload_n 3, 1) := by decide +kernel
theorem dX6_place_57 : decode cX6_place 57 = .ok (.putfield 82, 3) := by decide +kernel
theorem dX6_place_60 : decode cX6_place 60 = .ok (.return_, 1) := by decide +kernel
abbrev cX6_face : ByteArray := prog_1_method_3_code
def yX6_face : MethodName := ⟨RX6, "face", "(IIII)V"⟩
abbrev wX6_face : Cond := .code yX6_face cX6_face 6 none
theorem kX6_face : wX6_face ∈ wG := mG 343 (by decide +kernel) rfl
theorem dX6_face_0 : decode cX6_face 0 = .ok (.aload_n 0, 1) := by decide +kernel
theorem dX6_face_1 : decode cX6_face 1 = .ok (.iload_n 1, 1) := by decide +kernel
theorem dX6_face_2 : decode cX6_face 2 = .ok (.invokevirtual 56, 3) := by decide +kernel
theorem dX6_face_5 : decode cX6_face 5 = .ok (.astore 5, 2) := by decide +kernel
theorem dX6_face_7 : decode cX6_face 7 = .ok (.iload_n 2, 1) := by decide +kernel
theorem dX6_face_8 : decode cX6_face 8 = .ok (.iconst 0, 1) := by decide +kernel
theorem dX6_face_9 : decode cX6_face 9 = .ok (.bipush 7, 2) := by decide +kernel
theorem dX6_face_11 : decode cX6_face 11 = .ok (.invokestatic 61, 3) := by decide +kernel
theorem dX6_face_14 : decode cX6_face 14 = .ok (.iload 4, 2) := by decide +kernel
theorem dX6_face_16 : decode cX6_face 16 = .ok (.iconst 0, 1) := by decide +kernel
theorem dX6_face_17 : decode cX6_face 17 = .ok (.aload 5, 2) := by decide +kernel
theorem dX6_face_19 : decode cX6_face 19 = .ok (.getfield 79, 3) := by decide +kernel
theorem dX6_face_22 : decode cX6_face 22 = .ok (.invokestatic 61, 3) := by decide +kernel
theorem dX6_face_25 : decode cX6_face 25 = .ok (.iload_n 3, 1) := by decide +kernel
theorem dX6_face_26 : decode cX6_face 26 = .ok (.iconst 0, 1) := by decide +kernel
theorem dX6_face_27 : decode cX6_face 27 = .ok (.iload 4, 2) := by decide +kernel
theorem dX6_face_29 : decode cX6_face 29 = .ok (.invokestatic 61, 3) := by decide +kernel
theorem dX6_face_32 : decode cX6_face 32 = .ok (.aload 5, 2) := by decide +kernel
theorem dX6_face_34 : decode cX6_face 34 = .ok (.iload_n 2, 1) := by decide +kernel
theorem dX6_face_35 : decode cX6_face 35 = .ok (.invokevirtual 85, 3) := by decide +kernel
theorem dX6_face_38 : decode cX6_face 38 = .ok (.ifCond .eq 13, 3) := by decide +kernel
theorem dX6_face_41 : decode cX6_face 41 = .ok (.new 72, 3) := by decide +kernel
theorem dX6_face_44 : decode cX6_face 44 = .ok (.dup, 1) := by decide +kernel
theorem dX6_face_45 : decode cX6_face 45 = .ok (.ldc 89, 2) := by decide +kernel
theorem dX6_face_47 : decode cX6_face 47 = .ok (.invokespecial 76, 3) := by decide +kernel
theorem dX6_face_50 : decode cX6_face 50 = .ok (.athrow, 1) := by decide +kernel
theorem dX6_face_51 : decode cX6_face 51 = .ok (.aload 5, 2) := by decide +kernel
theorem dX6_face_53 : decode cX6_face 53 = .ok (.iload_n 2, 1) := by decide +kernel
theorem dX6_face_54 : decode cX6_face 54 = .ok (.putfield 91, 3) := by decide +kernel
theorem dX6_face_57 : decode cX6_face 57 = .ok (.aload 5, 2) := by decide +kernel
theorem dX6_face_59 : decode cX6_face 59 = .ok (.iload_n 3, 1) := by decide +kernel
theorem dX6_face_60 : decode cX6_face 60 = .ok (.putfield 94, 3) := by decide +kernel
theorem dX6_face_63 : decode cX6_face 63 = .ok (.aload 5, 2) := by decide +kernel
theorem dX6_face_65 : decode cX6_face 65 = .ok (.iload 4, 2) := by decide +kernel
theorem dX6_face_67 : decode cX6_face 67 = .ok (.putfield 69, 3) := by decide +kernel
theorem dX6_face_70 : decode cX6_face 70 = .ok (.return_, 1) := by decide +kernel
abbrev cX6_put : ByteArray := prog_1_method_4_code
def yX6_put : MethodName := ⟨RX6, "put", "(III)V"⟩
abbrev wX6_put : Cond := .code yX6_put cX6_put 5 none
theorem kX6_put : wX6_put ∈ wG := mG 356 (by decide +kernel) rfl
theorem dX6_put_0 : decode cX6_put 0 = .ok (.aload_n 0, 1) := by decide +kernel
theorem dX6_put_1 : decode cX6_put 1 = .ok (.iload_n 1, 1) := by decide +kernel
theorem dX6_put_2 : decode cX6_put 2 = .ok (.invokevirtual 56, 3) := by decide +kernel
theorem dX6_put_5 : decode cX6_put 5 = .ok (.astore 4, 2) := by decide +kernel
theorem dX6_put_7 : decode cX6_put 7 = .ok (.iload_n 2, 1) := by decide +kernel
theorem dX6_put_8 : decode cX6_put 8 = .ok (.iconst 0, 1) := by decide +kernel
theorem dX6_put_9 : decode cX6_put 9 = .ok (.bipush 7, 2) := by decide +kernel
theorem dX6_put_11 : decode cX6_put 11 = .ok (.invokestatic 61, 3) := by decide +kernel
theorem dX6_put_14 : decode cX6_put 14 = .ok (.iload_n 3, 1) := by decide +kernel
theorem dX6_put_15 : decode cX6_put 15 = .ok (.iconst 1, 1) := by decide +kernel
theorem dX6_put_16 : decode cX6_put 16 = .ok (.ldc 60, 2) := by decide +kernel
theorem dX6_put_18 : decode cX6_put 18 = .ok (.invokestatic 61, 3) := by decide +kernel
theorem dX6_put_21 : decode cX6_put 21 = .ok (.aload 4, 2) := by decide +kernel
theorem dX6_put_23 : decode cX6_put 23 = .ok (.iload_n 2, 1) := by decide +kernel
theorem dX6_put_24 : decode cX6_put 24 = .ok (.invokevirtual 85, 3) := by decide +kernel
theorem dX6_put_27 : decode cX6_put 27 = .ok (.ifCond .ne 12, 3) := by decide +kernel
theorem dX6_put_30 : decode cX6_put 30 = .ok (.aload 4, 2) := by decide +kernel
theorem dX6_put_32 : decode cX6_put 32 = .ok (.iload_n 2, 1) := by decide +kernel
theorem dX6_put_33 : decode cX6_put 33 = .ok (.invokevirtual 97, 3) := by decide +kernel
theorem dX6_put_36 : decode cX6_put 36 = .ok (.ifCond .eq 13, 3) := by decide +kernel
theorem dX6_put_39 : decode cX6_put 39 = .ok (.new 72, 3) := by decide +kernel
theorem dX6_put_42 : decode cX6_put 42 = .ok (.dup, 1) := by decide +kernel
theorem dX6_put_43 : decode cX6_put 43 = .ok (.ldc 100, 2) := by decide +kernel
theorem dX6_put_45 : decode cX6_put 45 = .ok (.invokespecial 76, 3) := by decide +kernel
theorem dX6_put_48 : decode cX6_put 48 = .ok (.athrow, 1) := by decide +kernel
theorem dX6_put_49 : decode cX6_put 49 = .ok (.aload 4, 2) := by decide +kernel
theorem dX6_put_51 : decode cX6_put 51 = .ok (.iload_n 3, 1) := by decide +kernel
theorem dX6_put_52 : decode cX6_put 52 = .ok (.invokestatic 102, 3) := by decide +kernel
theorem dX6_put_55 : decode cX6_put 55 = .ok (.aload 4, 2) := by decide +kernel
theorem dX6_put_57 : decode cX6_put 57 = .ok (.iload_n 2, 1) := by decide +kernel
theorem dX6_put_58 : decode cX6_put 58 = .ok (.iload_n 3, 1) := by decide +kernel
theorem dX6_put_59 : decode cX6_put 59 = .ok (.invokevirtual 106, 3) := by decide +kernel
theorem dX6_put_62 : decode cX6_put 62 = .ok (.return_, 1) := by decide +kernel
abbrev cX6_use : ByteArray := prog_1_method_5_code
def yX6_use : MethodName := ⟨RX6, "use", "(II)V"⟩
abbrev wX6_use : Cond := .code yX6_use cX6_use 4 none
theorem kX6_use : wX6_use ∈ wG := mG 399 (by decide +kernel) rfl
theorem dX6_use_0 : decode cX6_use 0 = .ok (.iload_n 2, 1) := by decide +kernel
theorem dX6_use_1 : decode cX6_use 1 = .ok (.iconst 1, 1) := by decide +kernel
theorem dX6_use_2 : decode cX6_use 2 = .ok (.ldc 60, 2) := by decide +kernel
theorem dX6_use_4 : decode cX6_use 4 = .ok (.invokestatic 61, 3) := by decide +kernel
theorem dX6_use_7 : decode cX6_use 7 = .ok (.aload_n 0, 1) := by decide +kernel
theorem dX6_use_8 : decode cX6_use 8 = .ok (.iload_n 1, 1) := by decide +kernel
theorem dX6_use_9 : decode cX6_use 9 = .ok (.invokevirtual 110, 3) := by decide +kernel
theorem dX6_use_12 : decode cX6_use 12 = .ok (.astore_n 3, 1) := by decide +kernel
theorem dX6_use_13 : decode cX6_use 13 = .ok (.aload_n 3, 1) := by decide +kernel
theorem dX6_use_14 : decode cX6_use 14 = .ok (.invokevirtual 113, 3) := by decide +kernel
theorem dX6_use_17 : decode cX6_use 17 = .ok (.iload_n 2, 1) := by decide +kernel
theorem dX6_use_18 : decode cX6_use 18 = .ok (.if_icmp .ge 13, 3) := by decide +kernel
theorem dX6_use_21 : decode cX6_use 21 = .ok (.new 72, 3) := by decide +kernel
theorem dX6_use_24 : decode cX6_use 24 = .ok (.dup, 1) := by decide +kernel
theorem dX6_use_25 : decode cX6_use 25 = .ok (.ldc 117, 2) := by decide +kernel
theorem dX6_use_27 : decode cX6_use 27 = .ok (.invokespecial 76, 3) := by decide +kernel
theorem dX6_use_30 : decode cX6_use 30 = .ok (.athrow, 1) := by decide +kernel
theorem dX6_use_31 : decode cX6_use 31 = .ok (.aload_n 3, 1) := by decide +kernel
theorem dX6_use_32 : decode cX6_use 32 = .ok (.iload_n 2, 1) := by decide +kernel
theorem dX6_use_33 : decode cX6_use 33 = .ok (.invokevirtual 119, 3) := by decide +kernel
theorem dX6_use_36 : decode cX6_use 36 = .ok (.aload_n 3, 1) := by decide +kernel
theorem dX6_use_37 : decode cX6_use 37 = .ok (.getfield 122, 3) := by decide +kernel
theorem dX6_use_40 : decode cX6_use 40 = .ok (.aload_n 0, 1) := by decide +kernel
theorem dX6_use_41 : decode cX6_use 41 = .ok (.getfield 34, 3) := by decide +kernel
theorem dX6_use_44 : decode cX6_use 44 = .ok (.getfield 125, 3) := by decide +kernel
theorem dX6_use_47 : decode cX6_use 47 = .ok (.dup2, 1) := by decide +kernel
theorem dX6_use_48 : decode cX6_use 48 = .ok (.iaload, 1) := by decide +kernel
theorem dX6_use_49 : decode cX6_use 49 = .ok (.iload_n 2, 1) := by decide +kernel
theorem dX6_use_50 : decode cX6_use 50 = .ok (.iadd, 1) := by decide +kernel
theorem dX6_use_51 : decode cX6_use 51 = .ok (.iastore, 1) := by decide +kernel
theorem dX6_use_52 : decode cX6_use 52 = .ok (.return_, 1) := by decide +kernel
abbrev cX6_hold : ByteArray := prog_1_method_6_code
def yX6_hold : MethodName := ⟨RX6, "hold", "(II)V"⟩
abbrev wX6_hold : Cond := .code yX6_hold cX6_hold 4 none
theorem kX6_hold : wX6_hold ∈ wG := mG 421 (by decide +kernel) rfl
theorem dX6_hold_0 : decode cX6_hold 0 = .ok (.aload_n 0, 1) := by decide +kernel
theorem dX6_hold_1 : decode cX6_hold 1 = .ok (.iload_n 1, 1) := by decide +kernel
theorem dX6_hold_2 : decode cX6_hold 2 = .ok (.invokevirtual 56, 3) := by decide +kernel
theorem dX6_hold_5 : decode cX6_hold 5 = .ok (.astore_n 3, 1) := by decide +kernel
theorem dX6_hold_6 : decode cX6_hold 6 = .ok (.iload_n 2, 1) := by decide +kernel
theorem dX6_hold_7 : decode cX6_hold 7 = .ok (.ifCond .ge 13, 3) := by decide +kernel
theorem dX6_hold_10 : decode cX6_hold 10 = .ok (.new 128, 3) := by decide +kernel
theorem dX6_hold_13 : decode cX6_hold 13 = .ok (.dup, 1) := by decide +kernel
theorem dX6_hold_14 : decode cX6_hold 14 = .ok (.ldc 130, 2) := by decide +kernel
theorem dX6_hold_16 : decode cX6_hold 16 = .ok (.invokespecial 132, 3) := by decide +kernel
theorem dX6_hold_19 : decode cX6_hold 19 = .ok (.athrow, 1) := by decide +kernel
theorem dX6_hold_20 : decode cX6_hold 20 = .ok (.aload_n 3, 1) := by decide +kernel
theorem dX6_hold_21 : decode cX6_hold 21 = .ok (.getfield 65, 3) := by decide +kernel
theorem dX6_hold_24 : decode cX6_hold 24 = .ok (.iload_n 2, 1) := by decide +kernel
theorem dX6_hold_25 : decode cX6_hold 25 = .ok (.if_icmp .ge 13, 3) := by decide +kernel
theorem dX6_hold_28 : decode cX6_hold 28 = .ok (.new 72, 3) := by decide +kernel
theorem dX6_hold_31 : decode cX6_hold 31 = .ok (.dup, 1) := by decide +kernel
theorem dX6_hold_32 : decode cX6_hold 32 = .ok (.ldc 133, 2) := by decide +kernel
theorem dX6_hold_34 : decode cX6_hold 34 = .ok (.invokespecial 76, 3) := by decide +kernel
theorem dX6_hold_37 : decode cX6_hold 37 = .ok (.athrow, 1) := by decide +kernel
theorem dX6_hold_38 : decode cX6_hold 38 = .ok (.aload_n 3, 1) := by decide +kernel
theorem dX6_hold_39 : decode cX6_hold 39 = .ok (.iload_n 2, 1) := by decide +kernel
theorem dX6_hold_40 : decode cX6_hold 40 = .ok (.putfield 135, 3) := by decide +kernel
theorem dX6_hold_43 : decode cX6_hold 43 = .ok (.return_, 1) := by decide +kernel
abbrev cX6_cases : ByteArray := prog_1_method_7_code
def yX6_cases : MethodName := ⟨RX6, "cases", "(II)V"⟩
abbrev wX6_cases : Cond := .code yX6_cases cX6_cases 3 none
theorem kX6_cases : wX6_cases ∈ wG := mG 430 (by decide +kernel) rfl
theorem dX6_cases_0 : decode cX6_cases 0 = .ok (.iload_n 1, 1) := by decide +kernel
theorem dX6_cases_1 : decode cX6_cases 1 = .ok (.iconst 0, 1) := by decide +kernel
theorem dX6_cases_2 : decode cX6_cases 2 = .ok (.bipush 7, 2) := by decide +kernel
theorem dX6_cases_4 : decode cX6_cases 4 = .ok (.invokestatic 61, 3) := by decide +kernel
theorem dX6_cases_7 : decode cX6_cases 7 = .ok (.iload_n 2, 1) := by decide +kernel
theorem dX6_cases_8 : decode cX6_cases 8 = .ok (.iconst 1, 1) := by decide +kernel
theorem dX6_cases_9 : decode cX6_cases 9 = .ok (.sipush 1000, 3) := by decide +kernel
theorem dX6_cases_12 : decode cX6_cases 12 = .ok (.invokestatic 61, 3) := by decide +kernel
theorem dX6_cases_15 : decode cX6_cases 15 = .ok (.aload_n 0, 1) := by decide +kernel
theorem dX6_cases_16 : decode cX6_cases 16 = .ok (.getfield 21, 3) := by decide +kernel
theorem dX6_cases_19 : decode cX6_cases 19 = .ok (.iload_n 1, 1) := by decide +kernel
theorem dX6_cases_20 : decode cX6_cases 20 = .ok (.iload_n 2, 1) := by decide +kernel
theorem dX6_cases_21 : decode cX6_cases 21 = .ok (.iastore, 1) := by decide +kernel
theorem dX6_cases_22 : decode cX6_cases 22 = .ok (.return_, 1) := by decide +kernel
abbrev cX6_rule : ByteArray := prog_1_method_8_code
def yX6_rule : MethodName := ⟨RX6, "rule", "(IIII)V"⟩
abbrev wX6_rule : Cond := .code yX6_rule cX6_rule 6 none
theorem kX6_rule : wX6_rule ∈ wG := mG 437 (by decide +kernel) rfl
theorem dX6_rule_0 : decode cX6_rule 0 = .ok (.iload_n 1, 1) := by decide +kernel
theorem dX6_rule_1 : decode cX6_rule 1 = .ok (.iconst 0, 1) := by decide +kernel
theorem dX6_rule_2 : decode cX6_rule 2 = .ok (.iconst 3, 1) := by decide +kernel
theorem dX6_rule_3 : decode cX6_rule 3 = .ok (.invokestatic 61, 3) := by decide +kernel
theorem dX6_rule_6 : decode cX6_rule 6 = .ok (.iload_n 2, 1) := by decide +kernel
theorem dX6_rule_7 : decode cX6_rule 7 = .ok (.iconst 0, 1) := by decide +kernel
theorem dX6_rule_8 : decode cX6_rule 8 = .ok (.iconst 2, 1) := by decide +kernel
theorem dX6_rule_9 : decode cX6_rule 9 = .ok (.invokestatic 61, 3) := by decide +kernel
theorem dX6_rule_12 : decode cX6_rule 12 = .ok (.iload_n 3, 1) := by decide +kernel
theorem dX6_rule_13 : decode cX6_rule 13 = .ok (.iconst 1, 1) := by decide +kernel
theorem dX6_rule_14 : decode cX6_rule 14 = .ok (.bipush 30, 2) := by decide +kernel
theorem dX6_rule_16 : decode cX6_rule 16 = .ok (.invokestatic 61, 3) := by decide +kernel
theorem dX6_rule_19 : decode cX6_rule 19 = .ok (.iload 4, 2) := by decide +kernel
theorem dX6_rule_21 : decode cX6_rule 21 = .ok (.iconst 0, 1) := by decide +kernel
theorem dX6_rule_22 : decode cX6_rule 22 = .ok (.sipush 399, 3) := by decide +kernel
theorem dX6_rule_25 : decode cX6_rule 25 = .ok (.invokestatic 61, 3) := by decide +kernel
theorem dX6_rule_28 : decode cX6_rule 28 = .ok (.aload_n 0, 1) := by decide +kernel
theorem dX6_rule_29 : decode cX6_rule 29 = .ok (.getfield 17, 3) := by decide +kernel
theorem dX6_rule_32 : decode cX6_rule 32 = .ok (.iload_n 1, 1) := by decide +kernel
theorem dX6_rule_33 : decode cX6_rule 33 = .ok (.aaload, 1) := by decide +kernel
theorem dX6_rule_34 : decode cX6_rule 34 = .ok (.astore 5, 2) := by decide +kernel
theorem dX6_rule_36 : decode cX6_rule 36 = .ok (.aload 5, 2) := by decide +kernel
theorem dX6_rule_38 : decode cX6_rule 38 = .ok (.iload_n 2, 1) := by decide +kernel
theorem dX6_rule_39 : decode cX6_rule 39 = .ok (.putfield 138, 3) := by decide +kernel
theorem dX6_rule_42 : decode cX6_rule 42 = .ok (.aload 5, 2) := by decide +kernel
theorem dX6_rule_44 : decode cX6_rule 44 = .ok (.iload_n 3, 1) := by decide +kernel
theorem dX6_rule_45 : decode cX6_rule 45 = .ok (.putfield 141, 3) := by decide +kernel
theorem dX6_rule_48 : decode cX6_rule 48 = .ok (.aload 5, 2) := by decide +kernel
theorem dX6_rule_50 : decode cX6_rule 50 = .ok (.iload 4, 2) := by decide +kernel
theorem dX6_rule_52 : decode cX6_rule 52 = .ok (.putfield 144, 3) := by decide +kernel
theorem dX6_rule_55 : decode cX6_rule 55 = .ok (.return_, 1) := by decide +kernel
abbrev cX6_factor : ByteArray := prog_1_method_9_code
def yX6_factor : MethodName := ⟨RX6, "factor", "(III)V"⟩
abbrev wX6_factor : Cond := .code yX6_factor cX6_factor 4 none
theorem kX6_factor : wX6_factor ∈ wG := mG 444 (by decide +kernel) rfl
theorem dX6_factor_0 : decode cX6_factor 0 = .ok (.iload_n 1, 1) := by decide +kernel
theorem dX6_factor_1 : decode cX6_factor 1 = .ok (.iconst 0, 1) := by decide +kernel
theorem dX6_factor_2 : decode cX6_factor 2 = .ok (.bipush 11, 2) := by decide +kernel
theorem dX6_factor_4 : decode cX6_factor 4 = .ok (.invokestatic 61, 3) := by decide +kernel
theorem dX6_factor_7 : decode cX6_factor 7 = .ok (.iload_n 2, 1) := by decide +kernel
theorem dX6_factor_8 : decode cX6_factor 8 = .ok (.iconst 0, 1) := by decide +kernel
theorem dX6_factor_9 : decode cX6_factor 9 = .ok (.sipush 1000, 3) := by decide +kernel
theorem dX6_factor_12 : decode cX6_factor 12 = .ok (.invokestatic 61, 3) := by decide +kernel
theorem dX6_factor_15 : decode cX6_factor 15 = .ok (.iload_n 3, 1) := by decide +kernel
theorem dX6_factor_16 : decode cX6_factor 16 = .ok (.iconst 1, 1) := by decide +kernel
theorem dX6_factor_17 : decode cX6_factor 17 = .ok (.sipush 1000, 3) := by decide +kernel
theorem dX6_factor_20 : decode cX6_factor 20 = .ok (.invokestatic 61, 3) := by decide +kernel
theorem dX6_factor_23 : decode cX6_factor 23 = .ok (.aload_n 0, 1) := by decide +kernel
theorem dX6_factor_24 : decode cX6_factor 24 = .ok (.getfield 25, 3) := by decide +kernel
theorem dX6_factor_27 : decode cX6_factor 27 = .ok (.iload_n 1, 1) := by decide +kernel
theorem dX6_factor_28 : decode cX6_factor 28 = .ok (.iload_n 2, 1) := by decide +kernel
theorem dX6_factor_29 : decode cX6_factor 29 = .ok (.iastore, 1) := by decide +kernel
theorem dX6_factor_30 : decode cX6_factor 30 = .ok (.aload_n 0, 1) := by decide +kernel
theorem dX6_factor_31 : decode cX6_factor 31 = .ok (.getfield 28, 3) := by decide +kernel
theorem dX6_factor_34 : decode cX6_factor 34 = .ok (.iload_n 1, 1) := by decide +kernel
theorem dX6_factor_35 : decode cX6_factor 35 = .ok (.iload_n 3, 1) := by decide +kernel
theorem dX6_factor_36 : decode cX6_factor 36 = .ok (.iastore, 1) := by decide +kernel
theorem dX6_factor_37 : decode cX6_factor 37 = .ok (.return_, 1) := by decide +kernel
abbrev cX6_wave : ByteArray := prog_1_method_10_code
def yX6_wave : MethodName := ⟨RX6, "wave", "(III)V"⟩
abbrev wX6_wave : Cond := .code yX6_wave cX6_wave 5 none
theorem kX6_wave : wX6_wave ∈ wG := mG 451 (by decide +kernel) rfl
theorem dX6_wave_0 : decode cX6_wave 0 = .ok (.iload_n 2, 1) := by decide +kernel
theorem dX6_wave_1 : decode cX6_wave 1 = .ok (.iconst 1, 1) := by decide +kernel
theorem dX6_wave_2 : decode cX6_wave 2 = .ok (.ldc 60, 2) := by decide +kernel
theorem dX6_wave_4 : decode cX6_wave 4 = .ok (.invokestatic 61, 3) := by decide +kernel
theorem dX6_wave_7 : decode cX6_wave 7 = .ok (.iload_n 3, 1) := by decide +kernel
theorem dX6_wave_8 : decode cX6_wave 8 = .ok (.aload_n 0, 1) := by decide +kernel
theorem dX6_wave_9 : decode cX6_wave 9 = .ok (.getfield 34, 3) := by decide +kernel
theorem dX6_wave_12 : decode cX6_wave 12 = .ok (.getfield 125, 3) := by decide +kernel
theorem dX6_wave_15 : decode cX6_wave 15 = .ok (.sipush 399, 3) := by decide +kernel
theorem dX6_wave_18 : decode cX6_wave 18 = .ok (.invokestatic 61, 3) := by decide +kernel
theorem dX6_wave_21 : decode cX6_wave 21 = .ok (.aload_n 0, 1) := by decide +kernel
theorem dX6_wave_22 : decode cX6_wave 22 = .ok (.iload_n 1, 1) := by decide +kernel
theorem dX6_wave_23 : decode cX6_wave 23 = .ok (.invokevirtual 110, 3) := by decide +kernel
theorem dX6_wave_26 : decode cX6_wave 26 = .ok (.astore 4, 2) := by decide +kernel
theorem dX6_wave_28 : decode cX6_wave 28 = .ok (.aload_n 0, 1) := by decide +kernel
theorem dX6_wave_29 : decode cX6_wave 29 = .ok (.getfield 41, 3) := by decide +kernel
theorem dX6_wave_32 : decode cX6_wave 32 = .ok (.getfield 147, 3) := by decide +kernel
theorem dX6_wave_35 : decode cX6_wave 35 = .ok (.bipush 30, 2) := by decide +kernel
theorem dX6_wave_37 : decode cX6_wave 37 = .ok (.if_icmp .lt 13, 3) := by decide +kernel
theorem dX6_wave_40 : decode cX6_wave 40 = .ok (.new 150, 3) := by decide +kernel
theorem dX6_wave_43 : decode cX6_wave 43 = .ok (.dup, 1) := by decide +kernel
theorem dX6_wave_44 : decode cX6_wave 44 = .ok (.ldc 152, 2) := by decide +kernel
theorem dX6_wave_46 : decode cX6_wave 46 = .ok (.invokespecial 154, 3) := by decide +kernel
theorem dX6_wave_49 : decode cX6_wave 49 = .ok (.athrow, 1) := by decide +kernel
theorem dX6_wave_50 : decode cX6_wave 50 = .ok (.aload_n 0, 1) := by decide +kernel
theorem dX6_wave_51 : decode cX6_wave 51 = .ok (.getfield 41, 3) := by decide +kernel
theorem dX6_wave_54 : decode cX6_wave 54 = .ok (.aload 4, 2) := by decide +kernel
theorem dX6_wave_56 : decode cX6_wave 56 = .ok (.getfield 155, 3) := by decide +kernel
theorem dX6_wave_59 : decode cX6_wave 59 = .ok (.iload_n 2, 1) := by decide +kernel
theorem dX6_wave_60 : decode cX6_wave 60 = .ok (.iload_n 3, 1) := by decide +kernel
theorem dX6_wave_61 : decode cX6_wave 61 = .ok (.invokevirtual 158, 3) := by decide +kernel
theorem dX6_wave_64 : decode cX6_wave 64 = .ok (.return_, 1) := by decide +kernel
abbrev cX6_open : ByteArray := prog_1_method_11_code
def yX6_open : MethodName := ⟨RX6, "open", "(IZ)V"⟩
abbrev wX6_open : Cond := .code yX6_open cX6_open 3 none
theorem kX6_open : wX6_open ∈ wG := mG 463 (by decide +kernel) rfl
theorem dX6_open_0 : decode cX6_open 0 = .ok (.iload_n 1, 1) := by decide +kernel
theorem dX6_open_1 : decode cX6_open 1 = .ok (.iconst 0, 1) := by decide +kernel
theorem dX6_open_2 : decode cX6_open 2 = .ok (.sipush 399, 3) := by decide +kernel
theorem dX6_open_5 : decode cX6_open 5 = .ok (.invokestatic 61, 3) := by decide +kernel
