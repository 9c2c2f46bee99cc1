/-! ===== rows of the law's methods, 22 ===== -/
theorem dL_follows_68 : decode cL_follows 68 = .ok (.invokestatic 196, 3) := by decide +kernel
theorem dL_follows_71 : decode cL_follows 71 = .ok (.lload 4, 2) := by decide +kernel
theorem dL_follows_73 : decode cL_follows 73 = .ok (.lcmp, 1) := by decide +kernel
theorem dL_follows_74 : decode cL_follows 74 = .ok (.ifCond .ne 34, 3) := by decide +kernel
theorem dL_follows_77 : decode cL_follows 77 = .ok (.aload_n 0, 1) := by decide +kernel
theorem dL_follows_78 : decode cL_follows 78 = .ok (.iload_n 1, 1) := by decide +kernel
theorem dL_follows_79 : decode cL_follows 79 = .ok (.i2l, 1) := by decide +kernel
theorem dL_follows_80 : decode cL_follows 80 = .ok (.iconst 5, 1) := by decide +kernel
theorem dL_follows_81 : decode cL_follows 81 = .ok (.invokestatic 193, 3) := by decide +kernel
theorem dL_follows_84 : decode cL_follows 84 = .ok (.aload_n 0, 1) := by decide +kernel
theorem dL_follows_85 : decode cL_follows 85 = .ok (.iload_n 1, 1) := by decide +kernel
theorem dL_follows_86 : decode cL_follows 86 = .ok (.i2l, 1) := by decide +kernel
theorem dL_follows_87 : decode cL_follows 87 = .ok (.iconst 5, 1) := by decide +kernel
theorem dL_follows_88 : decode cL_follows 88 = .ok (.invokestatic 193, 3) := by decide +kernel
theorem dL_follows_91 : decode cL_follows 91 = .ok (.lcmp, 1) := by decide +kernel
theorem dL_follows_92 : decode cL_follows 92 = .ok (.ifCond .ne 16, 3) := by decide +kernel
theorem dL_follows_95 : decode cL_follows 95 = .ok (.aload_n 0, 1) := by decide +kernel
theorem dL_follows_96 : decode cL_follows 96 = .ok (.invokestatic 141, 3) := by decide +kernel
theorem dL_follows_99 : decode cL_follows 99 = .ok (.lload_n 2, 1) := by decide +kernel
theorem dL_follows_100 : decode cL_follows 100 = .ok (.lcmp, 1) := by decide +kernel
theorem dL_follows_101 : decode cL_follows 101 = .ok (.ifCond .ne 7, 3) := by decide +kernel
theorem dL_follows_104 : decode cL_follows 104 = .ok (.iconst 1, 1) := by decide +kernel
theorem dL_follows_105 : decode cL_follows 105 = .ok (.goto 4, 3) := by decide +kernel
theorem dL_follows_108 : decode cL_follows 108 = .ok (.iconst 0, 1) := by decide +kernel
theorem dL_follows_109 : decode cL_follows 109 = .ok (.istore 17, 2) := by decide +kernel
theorem dL_follows_111 : decode cL_follows 111 = .ok (.aload_n 0, 1) := by decide +kernel
theorem dL_follows_112 : decode cL_follows 112 = .ok (.iload 8, 2) := by decide +kernel
theorem dL_follows_114 : decode cL_follows 114 = .ok (.iconst 0, 1) := by decide +kernel
theorem dL_follows_115 : decode cL_follows 115 = .ok (.invokestatic 179, 3) := by decide +kernel
theorem dL_follows_118 : decode cL_follows 118 = .ok (.lstore 18, 2) := by decide +kernel
theorem dL_follows_120 : decode cL_follows 120 = .ok (.aload_n 0, 1) := by decide +kernel
theorem dL_follows_121 : decode cL_follows 121 = .ok (.iload 8, 2) := by decide +kernel
theorem dL_follows_123 : decode cL_follows 123 = .ok (.iconst 1, 1) := by decide +kernel
theorem dL_follows_124 : decode cL_follows 124 = .ok (.invokestatic 179, 3) := by decide +kernel
theorem dL_follows_127 : decode cL_follows 127 = .ok (.lstore 20, 2) := by decide +kernel
theorem dL_follows_129 : decode cL_follows 129 = .ok (.aload_n 0, 1) := by decide +kernel
theorem dL_follows_130 : decode cL_follows 130 = .ok (.iload 8, 2) := by decide +kernel
theorem dL_follows_132 : decode cL_follows 132 = .ok (.iconst 2, 1) := by decide +kernel
theorem dL_follows_133 : decode cL_follows 133 = .ok (.invokestatic 179, 3) := by decide +kernel
theorem dL_follows_136 : decode cL_follows 136 = .ok (.lstore 22, 2) := by decide +kernel
theorem dL_follows_138 : decode cL_follows 138 = .ok (.aload_n 0, 1) := by decide +kernel
theorem dL_follows_139 : decode cL_follows 139 = .ok (.iload 8, 2) := by decide +kernel
theorem dL_follows_141 : decode cL_follows 141 = .ok (.iconst 3, 1) := by decide +kernel
theorem dL_follows_142 : decode cL_follows 142 = .ok (.invokestatic 179, 3) := by decide +kernel
theorem dL_follows_145 : decode cL_follows 145 = .ok (.lstore 24, 2) := by decide +kernel
theorem dL_follows_147 : decode cL_follows 147 = .ok (.aload_n 0, 1) := by decide +kernel
theorem dL_follows_148 : decode cL_follows 148 = .ok (.iload 8, 2) := by decide +kernel
theorem dL_follows_150 : decode cL_follows 150 = .ok (.iconst 4, 1) := by decide +kernel
theorem dL_follows_151 : decode cL_follows 151 = .ok (.invokestatic 179, 3) := by decide +kernel
theorem dL_follows_154 : decode cL_follows 154 = .ok (.lstore 26, 2) := by decide +kernel
theorem dL_follows_156 : decode cL_follows 156 = .ok (.iload 17, 2) := by decide +kernel
theorem dL_follows_158 : decode cL_follows 158 = .ok (.ifCond .eq 121, 3) := by decide +kernel
theorem dL_follows_161 : decode cL_follows 161 = .ok (.aload_n 0, 1) := by decide +kernel
theorem dL_follows_162 : decode cL_follows 162 = .ok (.iload 8, 2) := by decide +kernel
theorem dL_follows_164 : decode cL_follows 164 = .ok (.invokestatic 171, 3) := by decide +kernel
theorem dL_follows_167 : decode cL_follows 167 = .ok (.lload 18, 2) := by decide +kernel
theorem dL_follows_169 : decode cL_follows 169 = .ok (.lcmp, 1) := by decide +kernel
theorem dL_follows_170 : decode cL_follows 170 = .ok (.ifCond .ne 109, 3) := by decide +kernel
theorem dL_follows_173 : decode cL_follows 173 = .ok (.aload_n 0, 1) := by decide +kernel
theorem dL_follows_174 : decode cL_follows 174 = .ok (.iconst 1, 1) := by decide +kernel
theorem dL_follows_175 : decode cL_follows 175 = .ok (.invokestatic 125, 3) := by decide +kernel
theorem dL_follows_178 : decode cL_follows 178 = .ok (.lload 4, 2) := by decide +kernel
theorem dL_follows_180 : decode cL_follows 180 = .ok (.iload 8, 2) := by decide +kernel
theorem dL_follows_182 : decode cL_follows 182 = .ok (.i2l, 1) := by decide +kernel
theorem dL_follows_183 : decode cL_follows 183 = .ok (.ladd, 1) := by decide +kernel
theorem dL_follows_184 : decode cL_follows 184 = .ok (.lcmp, 1) := by decide +kernel
theorem dL_follows_185 : decode cL_follows 185 = .ok (.ifCond .ne 94, 3) := by decide +kernel
theorem dL_follows_188 : decode cL_follows 188 = .ok (.aload_n 0, 1) := by decide +kernel
theorem dL_follows_189 : decode cL_follows 189 = .ok (.iconst 4, 1) := by decide +kernel
theorem dL_follows_190 : decode cL_follows 190 = .ok (.invokestatic 125, 3) := by decide +kernel
theorem dL_follows_193 : decode cL_follows 193 = .ok (.lload 9, 2) := by decide +kernel
theorem dL_follows_195 : decode cL_follows 195 = .ok (.lload 18, 2) := by decide +kernel
theorem dL_follows_197 : decode cL_follows 197 = .ok (.ladd, 1) := by decide +kernel
theorem dL_follows_198 : decode cL_follows 198 = .ok (.lcmp, 1) := by decide +kernel
theorem dL_follows_199 : decode cL_follows 199 = .ok (.ifCond .ne 80, 3) := by decide +kernel
theorem dL_follows_202 : decode cL_follows 202 = .ok (.aload_n 0, 1) := by decide +kernel
theorem dL_follows_203 : decode cL_follows 203 = .ok (.iconst 5, 1) := by decide +kernel
theorem dL_follows_204 : decode cL_follows 204 = .ok (.invokestatic 125, 3) := by decide +kernel
theorem dL_follows_207 : decode cL_follows 207 = .ok (.lload 11, 2) := by decide +kernel
theorem dL_follows_209 : decode cL_follows 209 = .ok (.lload 20, 2) := by decide +kernel
