/-! ===== rows of the law's methods, 30 ===== -/
theorem dL_tells_7 : decode cL_tells 7 = .ok (.iconst 1, 1) := by decide +kernel
theorem dL_tells_8 : decode cL_tells 8 = .ok (.goto 4, 3) := by decide +kernel
theorem dL_tells_11 : decode cL_tells 11 = .ok (.iconst 0, 1) := by decide +kernel
theorem dL_tells_12 : decode cL_tells 12 = .ok (.istore_n 3, 1) := by decide +kernel
theorem dL_tells_13 : decode cL_tells 13 = .ok (.iconst 0, 1) := by decide +kernel
theorem dL_tells_14 : decode cL_tells 14 = .ok (.istore 4, 2) := by decide +kernel
theorem dL_tells_16 : decode cL_tells 16 = .ok (.iload 4, 2) := by decide +kernel
theorem dL_tells_18 : decode cL_tells 18 = .ok (.iconst 4, 1) := by decide +kernel
theorem dL_tells_19 : decode cL_tells 19 = .ok (.if_icmp .ge 260, 3) := by decide +kernel
theorem dL_tells_22 : decode cL_tells 22 = .ok (.iload_n 3, 1) := by decide +kernel
theorem dL_tells_23 : decode cL_tells 23 = .ok (.ifCond .eq 256, 3) := by decide +kernel
theorem dL_tells_26 : decode cL_tells 26 = .ok (.iload_n 1, 1) := by decide +kernel
theorem dL_tells_27 : decode cL_tells 27 = .ok (.iload 4, 2) := by decide +kernel
theorem dL_tells_29 : decode cL_tells 29 = .ok (.ishr, 1) := by decide +kernel
theorem dL_tells_30 : decode cL_tells 30 = .ok (.ldc_w 256, 3) := by decide +kernel
theorem dL_tells_33 : decode cL_tells 33 = .ok (.irem, 1) := by decide +kernel
theorem dL_tells_34 : decode cL_tells 34 = .ok (.sipush 131, 3) := by decide +kernel
theorem dL_tells_37 : decode cL_tells 37 = .ok (.iload 4, 2) := by decide +kernel
theorem dL_tells_39 : decode cL_tells 39 = .ok (.imul, 1) := by decide +kernel
theorem dL_tells_40 : decode cL_tells 40 = .ok (.iadd, 1) := by decide +kernel
theorem dL_tells_41 : decode cL_tells 41 = .ok (.istore 5, 2) := by decide +kernel
theorem dL_tells_43 : decode cL_tells 43 = .ok (.iload_n 2, 1) := by decide +kernel
theorem dL_tells_44 : decode cL_tells 44 = .ok (.iload 4, 2) := by decide +kernel
theorem dL_tells_46 : decode cL_tells 46 = .ok (.ishr, 1) := by decide +kernel
theorem dL_tells_47 : decode cL_tells 47 = .ok (.ldc_w 256, 3) := by decide +kernel
theorem dL_tells_50 : decode cL_tells 50 = .ok (.irem, 1) := by decide +kernel
theorem dL_tells_51 : decode cL_tells 51 = .ok (.sipush 137, 3) := by decide +kernel
theorem dL_tells_54 : decode cL_tells 54 = .ok (.iload 4, 2) := by decide +kernel
theorem dL_tells_56 : decode cL_tells 56 = .ok (.imul, 1) := by decide +kernel
theorem dL_tells_57 : decode cL_tells 57 = .ok (.iadd, 1) := by decide +kernel
theorem dL_tells_58 : decode cL_tells 58 = .ok (.istore 6, 2) := by decide +kernel
theorem dL_tells_60 : decode cL_tells 60 = .ok (.aload_n 0, 1) := by decide +kernel
theorem dL_tells_61 : decode cL_tells 61 = .ok (.bipush 109, 2) := by decide +kernel
theorem dL_tells_63 : decode cL_tells 63 = .ok (.invokestatic 249, 3) := by decide +kernel
theorem dL_tells_66 : decode cL_tells 66 = .ok (.ifCond .eq 205, 3) := by decide +kernel
theorem dL_tells_69 : decode cL_tells 69 = .ok (.aload_n 0, 1) := by decide +kernel
theorem dL_tells_70 : decode cL_tells 70 = .ok (.bipush 97, 2) := by decide +kernel
theorem dL_tells_72 : decode cL_tells 72 = .ok (.invokestatic 249, 3) := by decide +kernel
theorem dL_tells_75 : decode cL_tells 75 = .ok (.ifCond .eq 196, 3) := by decide +kernel
theorem dL_tells_78 : decode cL_tells 78 = .ok (.aload_n 0, 1) := by decide +kernel
theorem dL_tells_79 : decode cL_tells 79 = .ok (.bipush 110, 2) := by decide +kernel
theorem dL_tells_81 : decode cL_tells 81 = .ok (.invokestatic 249, 3) := by decide +kernel
theorem dL_tells_84 : decode cL_tells 84 = .ok (.ifCond .eq 187, 3) := by decide +kernel
theorem dL_tells_87 : decode cL_tells 87 = .ok (.aload_n 0, 1) := by decide +kernel
theorem dL_tells_88 : decode cL_tells 88 = .ok (.iload 5, 2) := by decide +kernel
theorem dL_tells_90 : decode cL_tells 90 = .ok (.iconst 4, 1) := by decide +kernel
theorem dL_tells_91 : decode cL_tells 91 = .ok (.irem, 1) := by decide +kernel
theorem dL_tells_92 : decode cL_tells 92 = .ok (.invokestatic 257, 3) := by decide +kernel
theorem dL_tells_95 : decode cL_tells 95 = .ok (.ifCond .eq 176, 3) := by decide +kernel
theorem dL_tells_98 : decode cL_tells 98 = .ok (.aload_n 0, 1) := by decide +kernel
theorem dL_tells_99 : decode cL_tells 99 = .ok (.bipush 59, 2) := by decide +kernel
theorem dL_tells_101 : decode cL_tells 101 = .ok (.invokestatic 249, 3) := by decide +kernel
theorem dL_tells_104 : decode cL_tells 104 = .ok (.ifCond .eq 167, 3) := by decide +kernel
theorem dL_tells_107 : decode cL_tells 107 = .ok (.aload_n 0, 1) := by decide +kernel
theorem dL_tells_108 : decode cL_tells 108 = .ok (.bipush 109, 2) := by decide +kernel
theorem dL_tells_110 : decode cL_tells 110 = .ok (.invokestatic 249, 3) := by decide +kernel
theorem dL_tells_113 : decode cL_tells 113 = .ok (.ifCond .eq 158, 3) := by decide +kernel
theorem dL_tells_116 : decode cL_tells 116 = .ok (.aload_n 0, 1) := by decide +kernel
theorem dL_tells_117 : decode cL_tells 117 = .ok (.bipush 97, 2) := by decide +kernel
theorem dL_tells_119 : decode cL_tells 119 = .ok (.invokestatic 249, 3) := by decide +kernel
theorem dL_tells_122 : decode cL_tells 122 = .ok (.ifCond .eq 149, 3) := by decide +kernel
theorem dL_tells_125 : decode cL_tells 125 = .ok (.aload_n 0, 1) := by decide +kernel
theorem dL_tells_126 : decode cL_tells 126 = .ok (.bipush 121, 2) := by decide +kernel
theorem dL_tells_128 : decode cL_tells 128 = .ok (.invokestatic 249, 3) := by decide +kernel
theorem dL_tells_131 : decode cL_tells 131 = .ok (.ifCond .eq 140, 3) := by decide +kernel
theorem dL_tells_134 : decode cL_tells 134 = .ok (.aload_n 0, 1) := by decide +kernel
theorem dL_tells_135 : decode cL_tells 135 = .ok (.iload 4, 2) := by decide +kernel
theorem dL_tells_137 : decode cL_tells 137 = .ok (.invokestatic 257, 3) := by decide +kernel
theorem dL_tells_140 : decode cL_tells 140 = .ok (.ifCond .eq 131, 3) := by decide +kernel
theorem dL_tells_143 : decode cL_tells 143 = .ok (.aload_n 0, 1) := by decide +kernel
theorem dL_tells_144 : decode cL_tells 144 = .ok (.iload 6, 2) := by decide +kernel
theorem dL_tells_146 : decode cL_tells 146 = .ok (.bipush 10, 2) := by decide +kernel
theorem dL_tells_148 : decode cL_tells 148 = .ok (.irem, 1) := by decide +kernel
theorem dL_tells_149 : decode cL_tells 149 = .ok (.invokestatic 257, 3) := by decide +kernel
theorem dL_tells_152 : decode cL_tells 152 = .ok (.ifCond .eq 119, 3) := by decide +kernel
theorem dL_tells_155 : decode cL_tells 155 = .ok (.aload_n 0, 1) := by decide +kernel
theorem dL_tells_156 : decode cL_tells 156 = .ok (.bipush 59, 2) := by decide +kernel
theorem dL_tells_158 : decode cL_tells 158 = .ok (.invokestatic 249, 3) := by decide +kernel
theorem dL_tells_161 : decode cL_tells 161 = .ok (.ifCond .eq 110, 3) := by decide +kernel
theorem dL_tells_164 : decode cL_tells 164 = .ok (.iload 4, 2) := by decide +kernel
