theorem dX7_told_89 : decode cX7_told 89 = .ok (.aload_n 0, 1) := by decide +kernel
theorem dX7_told_90 : decode cX7_told 90 = .ok (.getfield 25, 3) := by decide +kernel
theorem dX7_told_93 : decode cX7_told 93 = .ok (.iload_n 1, 1) := by decide +kernel
theorem dX7_told_94 : decode cX7_told 94 = .ok (.baload, 1) := by decide +kernel
theorem dX7_told_95 : decode cX7_told 95 = .ok (.ifCond .eq 7, 3) := by decide +kernel
theorem dX7_told_98 : decode cX7_told 98 = .ok (.iconst 1, 1) := by decide +kernel
theorem dX7_told_99 : decode cX7_told 99 = .ok (.goto 4, 3) := by decide +kernel
theorem dX7_told_102 : decode cX7_told 102 = .ok (.iconst 0, 1) := by decide +kernel
theorem dX7_told_103 : decode cX7_told 103 = .ok (.ireturn, 1) := by decide +kernel
theorem dX7_told_104 : decode cX7_told 104 = .ok (.aload_n 0, 1) := by decide +kernel
theorem dX7_told_105 : decode cX7_told 105 = .ok (.getfield 25, 3) := by decide +kernel
theorem dX7_told_108 : decode cX7_told 108 = .ok (.iload_n 1, 1) := by decide +kernel
theorem dX7_told_109 : decode cX7_told 109 = .ok (.baload, 1) := by decide +kernel
theorem dX7_told_110 : decode cX7_told 110 = .ok (.ifCond .eq 12, 3) := by decide +kernel
theorem dX7_told_113 : decode cX7_told 113 = .ok (.aload_n 0, 1) := by decide +kernel
theorem dX7_told_114 : decode cX7_told 114 = .ok (.getfield 32, 3) := by decide +kernel
theorem dX7_told_117 : decode cX7_told 117 = .ok (.iload_n 1, 1) := by decide +kernel
theorem dX7_told_118 : decode cX7_told 118 = .ok (.iaload, 1) := by decide +kernel
theorem dX7_told_119 : decode cX7_told 119 = .ok (.goto 4, 3) := by decide +kernel
theorem dX7_told_122 : decode cX7_told 122 = .ok (.iconst 0, 1) := by decide +kernel
theorem dX7_told_123 : decode cX7_told 123 = .ok (.ireturn, 1) := by decide +kernel
theorem dX7_told_124 : decode cX7_told 124 = .ok (.aload_n 0, 1) := by decide +kernel
theorem dX7_told_125 : decode cX7_told 125 = .ok (.getfield 25, 3) := by decide +kernel
theorem dX7_told_128 : decode cX7_told 128 = .ok (.iload_n 1, 1) := by decide +kernel
theorem dX7_told_129 : decode cX7_told 129 = .ok (.baload, 1) := by decide +kernel
theorem dX7_told_130 : decode cX7_told 130 = .ok (.ifCond .eq 12, 3) := by decide +kernel
theorem dX7_told_133 : decode cX7_told 133 = .ok (.aload_n 0, 1) := by decide +kernel
theorem dX7_told_134 : decode cX7_told 134 = .ok (.getfield 35, 3) := by decide +kernel
theorem dX7_told_137 : decode cX7_told 137 = .ok (.iload_n 1, 1) := by decide +kernel
theorem dX7_told_138 : decode cX7_told 138 = .ok (.iaload, 1) := by decide +kernel
theorem dX7_told_139 : decode cX7_told 139 = .ok (.goto 4, 3) := by decide +kernel
theorem dX7_told_142 : decode cX7_told 142 = .ok (.iconst 0, 1) := by decide +kernel
theorem dX7_told_143 : decode cX7_told 143 = .ok (.ireturn, 1) := by decide +kernel
