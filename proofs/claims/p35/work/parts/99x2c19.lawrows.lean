/-! ===== rows of the law's methods, 19 ===== -/
theorem dL_kept_1003 : decode cL_kept 1003 = .ok (.lcmp, 1) := by decide +kernel
theorem dL_kept_1004 : decode cL_kept 1004 = .ok (.ifCond .ne 7, 3) := by decide +kernel
theorem dL_kept_1007 : decode cL_kept 1007 = .ok (.iconst 1, 1) := by decide +kernel
theorem dL_kept_1008 : decode cL_kept 1008 = .ok (.goto 4, 3) := by decide +kernel
theorem dL_kept_1011 : decode cL_kept 1011 = .ok (.iconst 0, 1) := by decide +kernel
theorem dL_kept_1012 : decode cL_kept 1012 = .ok (.istore 5, 2) := by decide +kernel
theorem dL_kept_1014 : decode cL_kept 1014 = .ok (.iinc 23 10, 3) := by decide +kernel
theorem dL_kept_1017 : decode cL_kept 1017 = .ok (.aload_n 0, 1) := by decide +kernel
theorem dL_kept_1018 : decode cL_kept 1018 = .ok (.iload 18, 2) := by decide +kernel
theorem dL_kept_1020 : decode cL_kept 1020 = .ok (.iload 23, 2) := by decide +kernel
theorem dL_kept_1022 : decode cL_kept 1022 = .ok (.invokestatic 145, 3) := by decide +kernel
theorem dL_kept_1025 : decode cL_kept 1025 = .ok (.ldc2_w 238, 3) := by decide +kernel
theorem dL_kept_1028 : decode cL_kept 1028 = .ok (.lcmp, 1) := by decide +kernel
theorem dL_kept_1029 : decode cL_kept 1029 = .ok (.ifCond .ne 7, 3) := by decide +kernel
theorem dL_kept_1032 : decode cL_kept 1032 = .ok (.iconst 1, 1) := by decide +kernel
theorem dL_kept_1033 : decode cL_kept 1033 = .ok (.goto 4, 3) := by decide +kernel
theorem dL_kept_1036 : decode cL_kept 1036 = .ok (.iconst 0, 1) := by decide +kernel
theorem dL_kept_1037 : decode cL_kept 1037 = .ok (.istore 26, 2) := by decide +kernel
theorem dL_kept_1039 : decode cL_kept 1039 = .ok (.lconst 0, 1) := by decide +kernel
theorem dL_kept_1040 : decode cL_kept 1040 = .ok (.lstore 24, 2) := by decide +kernel
theorem dL_kept_1042 : decode cL_kept 1042 = .ok (.iload 23, 2) := by decide +kernel
theorem dL_kept_1044 : decode cL_kept 1044 = .ok (.iload 26, 2) := by decide +kernel
theorem dL_kept_1046 : decode cL_kept 1046 = .ok (.ifCond .eq 7, 3) := by decide +kernel
theorem dL_kept_1049 : decode cL_kept 1049 = .ok (.iconst 1, 1) := by decide +kernel
theorem dL_kept_1050 : decode cL_kept 1050 = .ok (.goto 4, 3) := by decide +kernel
theorem dL_kept_1053 : decode cL_kept 1053 = .ok (.iconst 0, 1) := by decide +kernel
theorem dL_kept_1054 : decode cL_kept 1054 = .ok (.iadd, 1) := by decide +kernel
theorem dL_kept_1055 : decode cL_kept 1055 = .ok (.istore 23, 2) := by decide +kernel
theorem dL_kept_1057 : decode cL_kept 1057 = .ok (.aload_n 0, 1) := by decide +kernel
theorem dL_kept_1058 : decode cL_kept 1058 = .ok (.iload 18, 2) := by decide +kernel
theorem dL_kept_1060 : decode cL_kept 1060 = .ok (.iload 23, 2) := by decide +kernel
theorem dL_kept_1062 : decode cL_kept 1062 = .ok (.invokestatic 145, 3) := by decide +kernel
theorem dL_kept_1065 : decode cL_kept 1065 = .ok (.ldc2_w 224, 3) := by decide +kernel
theorem dL_kept_1068 : decode cL_kept 1068 = .ok (.ldc2_w 226, 3) := by decide +kernel
theorem dL_kept_1071 : decode cL_kept 1071 = .ok (.invokestatic 204, 3) := by decide +kernel
theorem dL_kept_1074 : decode cL_kept 1074 = .ok (.ifCond .eq 30, 3) := by decide +kernel
theorem dL_kept_1077 : decode cL_kept 1077 = .ok (.ldc2_w 228, 3) := by decide +kernel
theorem dL_kept_1080 : decode cL_kept 1080 = .ok (.lload 24, 2) := by decide +kernel
theorem dL_kept_1082 : decode cL_kept 1082 = .ok (.lmul, 1) := by decide +kernel
theorem dL_kept_1083 : decode cL_kept 1083 = .ok (.aload_n 0, 1) := by decide +kernel
theorem dL_kept_1084 : decode cL_kept 1084 = .ok (.iload 18, 2) := by decide +kernel
theorem dL_kept_1086 : decode cL_kept 1086 = .ok (.iload 23, 2) := by decide +kernel
theorem dL_kept_1088 : decode cL_kept 1088 = .ok (.invokestatic 145, 3) := by decide +kernel
theorem dL_kept_1091 : decode cL_kept 1091 = .ok (.ladd, 1) := by decide +kernel
theorem dL_kept_1092 : decode cL_kept 1092 = .ok (.ldc2_w 224, 3) := by decide +kernel
theorem dL_kept_1095 : decode cL_kept 1095 = .ok (.lsub, 1) := by decide +kernel
theorem dL_kept_1096 : decode cL_kept 1096 = .ok (.lstore 24, 2) := by decide +kernel
theorem dL_kept_1098 : decode cL_kept 1098 = .ok (.iinc 23 1, 3) := by decide +kernel
theorem dL_kept_1101 : decode cL_kept 1101 = .ok (.goto (-44), 3) := by decide +kernel
theorem dL_kept_1104 : decode cL_kept 1104 = .ok (.lload 19, 2) := by decide +kernel
theorem dL_kept_1106 : decode cL_kept 1106 = .ok (.aload_n 0, 1) := by decide +kernel
theorem dL_kept_1107 : decode cL_kept 1107 = .ok (.iload 21, 2) := by decide +kernel
theorem dL_kept_1109 : decode cL_kept 1109 = .ok (.iconst 2, 1) := by decide +kernel
theorem dL_kept_1110 : decode cL_kept 1110 = .ok (.invokestatic 132, 3) := by decide +kernel
theorem dL_kept_1113 : decode cL_kept 1113 = .ok (.lcmp, 1) := by decide +kernel
theorem dL_kept_1114 : decode cL_kept 1114 = .ok (.ifCond .lt 16, 3) := by decide +kernel
theorem dL_kept_1117 : decode cL_kept 1117 = .ok (.lload 19, 2) := by decide +kernel
theorem dL_kept_1119 : decode cL_kept 1119 = .ok (.aload_n 0, 1) := by decide +kernel
theorem dL_kept_1120 : decode cL_kept 1120 = .ok (.iload 22, 2) := by decide +kernel
theorem dL_kept_1122 : decode cL_kept 1122 = .ok (.iconst 1, 1) := by decide +kernel
theorem dL_kept_1123 : decode cL_kept 1123 = .ok (.invokestatic 135, 3) := by decide +kernel
theorem dL_kept_1126 : decode cL_kept 1126 = .ok (.lcmp, 1) := by decide +kernel
theorem dL_kept_1127 : decode cL_kept 1127 = .ok (.ifCond .ge 7, 3) := by decide +kernel
theorem dL_kept_1130 : decode cL_kept 1130 = .ok (.iconst 1, 1) := by decide +kernel
theorem dL_kept_1131 : decode cL_kept 1131 = .ok (.goto 4, 3) := by decide +kernel
theorem dL_kept_1134 : decode cL_kept 1134 = .ok (.iconst 0, 1) := by decide +kernel
theorem dL_kept_1135 : decode cL_kept 1135 = .ok (.istore 27, 2) := by decide +kernel
theorem dL_kept_1137 : decode cL_kept 1137 = .ok (.iload 5, 2) := by decide +kernel
theorem dL_kept_1139 : decode cL_kept 1139 = .ok (.ifCond .eq 83, 3) := by decide +kernel
theorem dL_kept_1142 : decode cL_kept 1142 = .ok (.iload 26, 2) := by decide +kernel
theorem dL_kept_1144 : decode cL_kept 1144 = .ok (.aload_n 0, 1) := by decide +kernel
theorem dL_kept_1145 : decode cL_kept 1145 = .ok (.iload 18, 2) := by decide +kernel
theorem dL_kept_1147 : decode cL_kept 1147 = .ok (.iconst 5, 1) := by decide +kernel
theorem dL_kept_1148 : decode cL_kept 1148 = .ok (.invokestatic 137, 3) := by decide +kernel
theorem dL_kept_1151 : decode cL_kept 1151 = .ok (.lconst 0, 1) := by decide +kernel
theorem dL_kept_1152 : decode cL_kept 1152 = .ok (.lcmp, 1) := by decide +kernel
theorem dL_kept_1153 : decode cL_kept 1153 = .ok (.ifCond .le 7, 3) := by decide +kernel
theorem dL_kept_1156 : decode cL_kept 1156 = .ok (.iconst 1, 1) := by decide +kernel
theorem dL_kept_1157 : decode cL_kept 1157 = .ok (.goto 4, 3) := by decide +kernel
theorem dL_kept_1160 : decode cL_kept 1160 = .ok (.iconst 0, 1) := by decide +kernel
