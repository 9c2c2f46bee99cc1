/-! ===== rows of the law's methods, 6 ===== -/
theorem dL_errors_29 : decode cL_errors 29 = .ok (.iconst (-1), 1) := by decide +kernel
theorem dL_errors_30 : decode cL_errors 30 = .ok (.invokestatic 125, 3) := by decide +kernel
theorem dL_errors_33 : decode cL_errors 33 = .ok (.ldc2_w 17, 3) := by decide +kernel
theorem dL_errors_36 : decode cL_errors 36 = .ok (.lcmp, 1) := by decide +kernel
theorem dL_errors_37 : decode cL_errors 37 = .ok (.ifCond .ne 505, 3) := by decide +kernel
theorem dL_errors_40 : decode cL_errors 40 = .ok (.aload_n 0, 1) := by decide +kernel
theorem dL_errors_41 : decode cL_errors 41 = .ok (.bipush 11, 2) := by decide +kernel
theorem dL_errors_43 : decode cL_errors 43 = .ok (.invokestatic 125, 3) := by decide +kernel
theorem dL_errors_46 : decode cL_errors 46 = .ok (.ldc2_w 17, 3) := by decide +kernel
theorem dL_errors_49 : decode cL_errors 49 = .ok (.lcmp, 1) := by decide +kernel
theorem dL_errors_50 : decode cL_errors 50 = .ok (.ifCond .ne 492, 3) := by decide +kernel
theorem dL_errors_53 : decode cL_errors 53 = .ok (.aload_n 0, 1) := by decide +kernel
theorem dL_errors_54 : decode cL_errors 54 = .ok (.iload_n 3, 1) := by decide +kernel
theorem dL_errors_55 : decode cL_errors 55 = .ok (.bipush 9, 2) := by decide +kernel
theorem dL_errors_57 : decode cL_errors 57 = .ok (.invokestatic 132, 3) := by decide +kernel
theorem dL_errors_60 : decode cL_errors 60 = .ok (.ldc2_w 36, 3) := by decide +kernel
theorem dL_errors_63 : decode cL_errors 63 = .ok (.lcmp, 1) := by decide +kernel
theorem dL_errors_64 : decode cL_errors 64 = .ok (.ifCond .ne 478, 3) := by decide +kernel
theorem dL_errors_67 : decode cL_errors 67 = .ok (.aload_n 0, 1) := by decide +kernel
theorem dL_errors_68 : decode cL_errors 68 = .ok (.bipush 10, 2) := by decide +kernel
theorem dL_errors_70 : decode cL_errors 70 = .ok (.bipush 9, 2) := by decide +kernel
theorem dL_errors_72 : decode cL_errors 72 = .ok (.invokestatic 135, 3) := by decide +kernel
theorem dL_errors_75 : decode cL_errors 75 = .ok (.ldc2_w 36, 3) := by decide +kernel
theorem dL_errors_78 : decode cL_errors 78 = .ok (.lcmp, 1) := by decide +kernel
theorem dL_errors_79 : decode cL_errors 79 = .ok (.ifCond .ne 463, 3) := by decide +kernel
theorem dL_errors_82 : decode cL_errors 82 = .ok (.aload_n 0, 1) := by decide +kernel
theorem dL_errors_83 : decode cL_errors 83 = .ok (.iconst 0, 1) := by decide +kernel
theorem dL_errors_84 : decode cL_errors 84 = .ok (.iconst 5, 1) := by decide +kernel
theorem dL_errors_85 : decode cL_errors 85 = .ok (.invokestatic 135, 3) := by decide +kernel
theorem dL_errors_88 : decode cL_errors 88 = .ok (.ldc2_w 17, 3) := by decide +kernel
theorem dL_errors_91 : decode cL_errors 91 = .ok (.lcmp, 1) := by decide +kernel
theorem dL_errors_92 : decode cL_errors 92 = .ok (.ifCond .ne 450, 3) := by decide +kernel
theorem dL_errors_95 : decode cL_errors 95 = .ok (.aload_n 0, 1) := by decide +kernel
theorem dL_errors_96 : decode cL_errors 96 = .ok (.iload 4, 2) := by decide +kernel
theorem dL_errors_98 : decode cL_errors 98 = .ok (.bipush 9, 2) := by decide +kernel
theorem dL_errors_100 : decode cL_errors 100 = .ok (.invokestatic 137, 3) := by decide +kernel
theorem dL_errors_103 : decode cL_errors 103 = .ok (.ldc2_w 36, 3) := by decide +kernel
theorem dL_errors_106 : decode cL_errors 106 = .ok (.lcmp, 1) := by decide +kernel
theorem dL_errors_107 : decode cL_errors 107 = .ok (.ifCond .ne 435, 3) := by decide +kernel
theorem dL_errors_110 : decode cL_errors 110 = .ok (.aload_n 0, 1) := by decide +kernel
theorem dL_errors_111 : decode cL_errors 111 = .ok (.iload 4, 2) := by decide +kernel
theorem dL_errors_113 : decode cL_errors 113 = .ok (.iconst (-1), 1) := by decide +kernel
theorem dL_errors_114 : decode cL_errors 114 = .ok (.invokestatic 145, 3) := by decide +kernel
theorem dL_errors_117 : decode cL_errors 117 = .ok (.ldc2_w 36, 3) := by decide +kernel
theorem dL_errors_120 : decode cL_errors 120 = .ok (.lcmp, 1) := by decide +kernel
theorem dL_errors_121 : decode cL_errors 121 = .ok (.ifCond .ne 421, 3) := by decide +kernel
theorem dL_errors_124 : decode cL_errors 124 = .ok (.aload_n 0, 1) := by decide +kernel
theorem dL_errors_125 : decode cL_errors 125 = .ok (.iconst (-1), 1) := by decide +kernel
theorem dL_errors_126 : decode cL_errors 126 = .ok (.invokestatic 139, 3) := by decide +kernel
theorem dL_errors_129 : decode cL_errors 129 = .ok (.ldc2_w 17, 3) := by decide +kernel
theorem dL_errors_132 : decode cL_errors 132 = .ok (.lcmp, 1) := by decide +kernel
theorem dL_errors_133 : decode cL_errors 133 = .ok (.ifCond .ne 409, 3) := by decide +kernel
theorem dL_errors_136 : decode cL_errors 136 = .ok (.aload_n 0, 1) := by decide +kernel
theorem dL_errors_137 : decode cL_errors 137 = .ok (.bipush 6, 2) := by decide +kernel
theorem dL_errors_139 : decode cL_errors 139 = .ok (.invokestatic 130, 3) := by decide +kernel
theorem dL_errors_142 : decode cL_errors 142 = .ok (.ldc2_w 17, 3) := by decide +kernel
theorem dL_errors_145 : decode cL_errors 145 = .ok (.lcmp, 1) := by decide +kernel
theorem dL_errors_146 : decode cL_errors 146 = .ok (.ifCond .ne 396, 3) := by decide +kernel
theorem dL_errors_149 : decode cL_errors 149 = .ok (.aload_n 0, 1) := by decide +kernel
theorem dL_errors_150 : decode cL_errors 150 = .ok (.iconst 4, 1) := by decide +kernel
theorem dL_errors_151 : decode cL_errors 151 = .ok (.invokestatic 147, 3) := by decide +kernel
theorem dL_errors_154 : decode cL_errors 154 = .ok (.ldc2_w 17, 3) := by decide +kernel
theorem dL_errors_157 : decode cL_errors 157 = .ok (.lcmp, 1) := by decide +kernel
theorem dL_errors_158 : decode cL_errors 158 = .ok (.ifCond .ne 384, 3) := by decide +kernel
theorem dL_errors_161 : decode cL_errors 161 = .ok (.aload_n 0, 1) := by decide +kernel
theorem dL_errors_162 : decode cL_errors 162 = .ok (.iconst (-1), 1) := by decide +kernel
theorem dL_errors_163 : decode cL_errors 163 = .ok (.invokestatic 147, 3) := by decide +kernel
theorem dL_errors_166 : decode cL_errors 166 = .ok (.ldc2_w 17, 3) := by decide +kernel
theorem dL_errors_169 : decode cL_errors 169 = .ok (.lcmp, 1) := by decide +kernel
theorem dL_errors_170 : decode cL_errors 170 = .ok (.ifCond .ne 372, 3) := by decide +kernel
theorem dL_errors_173 : decode cL_errors 173 = .ok (.iload_n 3, 1) := by decide +kernel
theorem dL_errors_174 : decode cL_errors 174 = .ok (.bipush 8, 2) := by decide +kernel
theorem dL_errors_176 : decode cL_errors 176 = .ok (.if_icmp .lt 15, 3) := by decide +kernel
theorem dL_errors_179 : decode cL_errors 179 = .ok (.aload_n 0, 1) := by decide +kernel
theorem dL_errors_180 : decode cL_errors 180 = .ok (.iconst 0, 1) := by decide +kernel
theorem dL_errors_181 : decode cL_errors 181 = .ok (.invokestatic 147, 3) := by decide +kernel
theorem dL_errors_184 : decode cL_errors 184 = .ok (.ldc2_w 21, 3) := by decide +kernel
theorem dL_errors_187 : decode cL_errors 187 = .ok (.lcmp, 1) := by decide +kernel
theorem dL_errors_188 : decode cL_errors 188 = .ok (.ifCond .ne 354, 3) := by decide +kernel
theorem dL_errors_191 : decode cL_errors 191 = .ok (.aload_n 0, 1) := by decide +kernel
