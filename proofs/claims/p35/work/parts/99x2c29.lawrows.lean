/-! ===== rows of the law's methods, 29 ===== -/
theorem dL_alike_86 : decode cL_alike 86 = .ok (.iload_n 2, 1) := by decide +kernel
theorem dL_alike_87 : decode cL_alike 87 = .ok (.bipush 8, 2) := by decide +kernel
theorem dL_alike_89 : decode cL_alike 89 = .ok (.irem, 1) := by decide +kernel
theorem dL_alike_90 : decode cL_alike 90 = .ok (.iload_n 2, 1) := by decide +kernel
theorem dL_alike_91 : decode cL_alike 91 = .ok (.bipush 10, 2) := by decide +kernel
theorem dL_alike_93 : decode cL_alike 93 = .ok (.irem, 1) := by decide +kernel
theorem dL_alike_94 : decode cL_alike 94 = .ok (.invokestatic 177, 3) := by decide +kernel
theorem dL_alike_97 : decode cL_alike 97 = .ok (.lcmp, 1) := by decide +kernel
theorem dL_alike_98 : decode cL_alike 98 = .ok (.ifCond .ne 75, 3) := by decide +kernel
theorem dL_alike_101 : decode cL_alike 101 = .ok (.aload_n 0, 1) := by decide +kernel
theorem dL_alike_102 : decode cL_alike 102 = .ok (.iload_n 2, 1) := by decide +kernel
theorem dL_alike_103 : decode cL_alike 103 = .ok (.bipush 24, 2) := by decide +kernel
theorem dL_alike_105 : decode cL_alike 105 = .ok (.irem, 1) := by decide +kernel
theorem dL_alike_106 : decode cL_alike 106 = .ok (.iload_n 2, 1) := by decide +kernel
theorem dL_alike_107 : decode cL_alike 107 = .ok (.bipush 17, 2) := by decide +kernel
theorem dL_alike_109 : decode cL_alike 109 = .ok (.irem, 1) := by decide +kernel
theorem dL_alike_110 : decode cL_alike 110 = .ok (.invokestatic 145, 3) := by decide +kernel
theorem dL_alike_113 : decode cL_alike 113 = .ok (.aload_n 1, 1) := by decide +kernel
theorem dL_alike_114 : decode cL_alike 114 = .ok (.iload_n 2, 1) := by decide +kernel
theorem dL_alike_115 : decode cL_alike 115 = .ok (.bipush 24, 2) := by decide +kernel
theorem dL_alike_117 : decode cL_alike 117 = .ok (.irem, 1) := by decide +kernel
theorem dL_alike_118 : decode cL_alike 118 = .ok (.iload_n 2, 1) := by decide +kernel
theorem dL_alike_119 : decode cL_alike 119 = .ok (.bipush 17, 2) := by decide +kernel
theorem dL_alike_121 : decode cL_alike 121 = .ok (.irem, 1) := by decide +kernel
theorem dL_alike_122 : decode cL_alike 122 = .ok (.invokestatic 145, 3) := by decide +kernel
theorem dL_alike_125 : decode cL_alike 125 = .ok (.lcmp, 1) := by decide +kernel
theorem dL_alike_126 : decode cL_alike 126 = .ok (.ifCond .ne 47, 3) := by decide +kernel
theorem dL_alike_129 : decode cL_alike 129 = .ok (.aload_n 0, 1) := by decide +kernel
theorem dL_alike_130 : decode cL_alike 130 = .ok (.iload_n 2, 1) := by decide +kernel
theorem dL_alike_131 : decode cL_alike 131 = .ok (.i2l, 1) := by decide +kernel
theorem dL_alike_132 : decode cL_alike 132 = .ok (.bipush 15, 2) := by decide +kernel
theorem dL_alike_134 : decode cL_alike 134 = .ok (.invokestatic 193, 3) := by decide +kernel
theorem dL_alike_137 : decode cL_alike 137 = .ok (.aload_n 1, 1) := by decide +kernel
theorem dL_alike_138 : decode cL_alike 138 = .ok (.iload_n 2, 1) := by decide +kernel
theorem dL_alike_139 : decode cL_alike 139 = .ok (.i2l, 1) := by decide +kernel
theorem dL_alike_140 : decode cL_alike 140 = .ok (.bipush 15, 2) := by decide +kernel
theorem dL_alike_142 : decode cL_alike 142 = .ok (.invokestatic 193, 3) := by decide +kernel
theorem dL_alike_145 : decode cL_alike 145 = .ok (.lcmp, 1) := by decide +kernel
theorem dL_alike_146 : decode cL_alike 146 = .ok (.ifCond .ne 27, 3) := by decide +kernel
theorem dL_alike_149 : decode cL_alike 149 = .ok (.aload_n 0, 1) := by decide +kernel
theorem dL_alike_150 : decode cL_alike 150 = .ok (.iconst 3, 1) := by decide +kernel
theorem dL_alike_151 : decode cL_alike 151 = .ok (.ldc2_w 247, 3) := by decide +kernel
theorem dL_alike_154 : decode cL_alike 154 = .ok (.invokestatic 187, 3) := by decide +kernel
theorem dL_alike_157 : decode cL_alike 157 = .ok (.aload_n 1, 1) := by decide +kernel
theorem dL_alike_158 : decode cL_alike 158 = .ok (.iconst 3, 1) := by decide +kernel
theorem dL_alike_159 : decode cL_alike 159 = .ok (.ldc2_w 247, 3) := by decide +kernel
theorem dL_alike_162 : decode cL_alike 162 = .ok (.invokestatic 187, 3) := by decide +kernel
theorem dL_alike_165 : decode cL_alike 165 = .ok (.lcmp, 1) := by decide +kernel
theorem dL_alike_166 : decode cL_alike 166 = .ok (.ifCond .ne 7, 3) := by decide +kernel
theorem dL_alike_169 : decode cL_alike 169 = .ok (.iconst 1, 1) := by decide +kernel
theorem dL_alike_170 : decode cL_alike 170 = .ok (.goto 4, 3) := by decide +kernel
theorem dL_alike_173 : decode cL_alike 173 = .ok (.iconst 0, 1) := by decide +kernel
theorem dL_alike_174 : decode cL_alike 174 = .ok (.ireturn, 1) := by decide +kernel
theorem dL_says_0 : decode cL_says 0 = .ok (.aload_n 0, 1) := by decide +kernel
theorem dL_says_1 : decode cL_says 1 = .ok (.iload_n 1, 1) := by decide +kernel
theorem dL_says_2 : decode cL_says 2 = .ok (.invokestatic 200, 3) := by decide +kernel
theorem dL_says_5 : decode cL_says 5 = .ok (.lconst 0, 1) := by decide +kernel
theorem dL_says_6 : decode cL_says 6 = .ok (.lcmp, 1) := by decide +kernel
theorem dL_says_7 : decode cL_says 7 = .ok (.ifCond .le 7, 3) := by decide +kernel
theorem dL_says_10 : decode cL_says 10 = .ok (.iconst 1, 1) := by decide +kernel
theorem dL_says_11 : decode cL_says 11 = .ok (.goto 4, 3) := by decide +kernel
theorem dL_says_14 : decode cL_says 14 = .ok (.iconst 0, 1) := by decide +kernel
theorem dL_says_15 : decode cL_says 15 = .ok (.ireturn, 1) := by decide +kernel
theorem dL_digit_0 : decode cL_digit 0 = .ok (.aload_n 0, 1) := by decide +kernel
theorem dL_digit_1 : decode cL_digit 1 = .ok (.bipush 44, 2) := by decide +kernel
theorem dL_digit_3 : decode cL_digit 3 = .ok (.invokestatic 249, 3) := by decide +kernel
theorem dL_digit_6 : decode cL_digit 6 = .ok (.ifCond .eq 18, 3) := by decide +kernel
theorem dL_digit_9 : decode cL_digit 9 = .ok (.aload_n 0, 1) := by decide +kernel
theorem dL_digit_10 : decode cL_digit 10 = .ok (.bipush 48, 2) := by decide +kernel
theorem dL_digit_12 : decode cL_digit 12 = .ok (.iload_n 1, 1) := by decide +kernel
theorem dL_digit_13 : decode cL_digit 13 = .ok (.iadd, 1) := by decide +kernel
theorem dL_digit_14 : decode cL_digit 14 = .ok (.invokestatic 249, 3) := by decide +kernel
theorem dL_digit_17 : decode cL_digit 17 = .ok (.ifCond .eq 7, 3) := by decide +kernel
theorem dL_digit_20 : decode cL_digit 20 = .ok (.iconst 1, 1) := by decide +kernel
theorem dL_digit_21 : decode cL_digit 21 = .ok (.goto 4, 3) := by decide +kernel
theorem dL_digit_24 : decode cL_digit 24 = .ok (.iconst 0, 1) := by decide +kernel
theorem dL_digit_25 : decode cL_digit 25 = .ok (.ireturn, 1) := by decide +kernel
theorem dL_tells_0 : decode cL_tells 0 = .ok (.aload_n 0, 1) := by decide +kernel
theorem dL_tells_1 : decode cL_tells 1 = .ok (.invokevirtual 253, 3) := by decide +kernel
theorem dL_tells_4 : decode cL_tells 4 = .ok (.ifCond .lt 7, 3) := by decide +kernel
