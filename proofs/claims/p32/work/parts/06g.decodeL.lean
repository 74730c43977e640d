theorem dL_acts_1006 : decode cL_acts 1006 = .ok (.ifCond .ne 7, 3) := by decide +kernel
theorem dL_acts_1009 : decode cL_acts 1009 = .ok (.iconst 1, 1) := by decide +kernel
theorem dL_acts_1010 : decode cL_acts 1010 = .ok (.goto 4, 3) := by decide +kernel
theorem dL_acts_1013 : decode cL_acts 1013 = .ok (.iconst 0, 1) := by decide +kernel
theorem dL_acts_1014 : decode cL_acts 1014 = .ok (.ireturn, 1) := by decide +kernel
theorem dL_acts_1015 : decode cL_acts 1015 = .ok (.aload_n 2, 1) := by decide +kernel
theorem dL_acts_1016 : decode cL_acts 1016 = .ok (.iload 7, 2) := by decide +kernel
theorem dL_acts_1018 : decode cL_acts 1018 = .ok (.invokestatic 116, 3) := by decide +kernel
theorem dL_acts_1021 : decode cL_acts 1021 = .ok (.aload_n 1, 1) := by decide +kernel
theorem dL_acts_1022 : decode cL_acts 1022 = .ok (.iconst 0, 1) := by decide +kernel
theorem dL_acts_1023 : decode cL_acts 1023 = .ok (.iaload, 1) := by decide +kernel
theorem dL_acts_1024 : decode cL_acts 1024 = .ok (.invokestatic 27, 3) := by decide +kernel
theorem dL_acts_1027 : decode cL_acts 1027 = .ok (.ifCond .eq 30, 3) := by decide +kernel
theorem dL_acts_1030 : decode cL_acts 1030 = .ok (.aload_n 2, 1) := by decide +kernel
theorem dL_acts_1031 : decode cL_acts 1031 = .ok (.iload 8, 2) := by decide +kernel
theorem dL_acts_1033 : decode cL_acts 1033 = .ok (.invokestatic 116, 3) := by decide +kernel
theorem dL_acts_1036 : decode cL_acts 1036 = .ok (.aload_n 1, 1) := by decide +kernel
theorem dL_acts_1037 : decode cL_acts 1037 = .ok (.iconst 0, 1) := by decide +kernel
theorem dL_acts_1038 : decode cL_acts 1038 = .ok (.iaload, 1) := by decide +kernel
theorem dL_acts_1039 : decode cL_acts 1039 = .ok (.invokestatic 27, 3) := by decide +kernel
theorem dL_acts_1042 : decode cL_acts 1042 = .ok (.ifCond .eq 15, 3) := by decide +kernel
theorem dL_acts_1045 : decode cL_acts 1045 = .ok (.aload_n 2, 1) := by decide +kernel
theorem dL_acts_1046 : decode cL_acts 1046 = .ok (.iload 8, 2) := by decide +kernel
theorem dL_acts_1048 : decode cL_acts 1048 = .ok (.invokestatic 116, 3) := by decide +kernel
theorem dL_acts_1051 : decode cL_acts 1051 = .ok (.invokestatic 35, 3) := by decide +kernel
theorem dL_acts_1054 : decode cL_acts 1054 = .ok (.ifCond .eq 28, 3) := by decide +kernel
theorem dL_acts_1057 : decode cL_acts 1057 = .ok (.aload_n 0, 1) := by decide +kernel
theorem dL_acts_1058 : decode cL_acts 1058 = .ok (.iload 7, 2) := by decide +kernel
theorem dL_acts_1060 : decode cL_acts 1060 = .ok (.iload 8, 2) := by decide +kernel
theorem dL_acts_1062 : decode cL_acts 1062 = .ok (.iload 10, 2) := by decide +kernel
theorem dL_acts_1064 : decode cL_acts 1064 = .ok (.iload 9, 2) := by decide +kernel
theorem dL_acts_1066 : decode cL_acts 1066 = .ok (.invokestatic 157, 3) := by decide +kernel
theorem dL_acts_1069 : decode cL_acts 1069 = .ok (.ldc2_w 102, 3) := by decide +kernel
theorem dL_acts_1072 : decode cL_acts 1072 = .ok (.lcmp, 1) := by decide +kernel
theorem dL_acts_1073 : decode cL_acts 1073 = .ok (.ifCond .ne 7, 3) := by decide +kernel
theorem dL_acts_1076 : decode cL_acts 1076 = .ok (.iconst 1, 1) := by decide +kernel
theorem dL_acts_1077 : decode cL_acts 1077 = .ok (.goto 4, 3) := by decide +kernel
theorem dL_acts_1080 : decode cL_acts 1080 = .ok (.iconst 0, 1) := by decide +kernel
theorem dL_acts_1081 : decode cL_acts 1081 = .ok (.ireturn, 1) := by decide +kernel
theorem dL_acts_1082 : decode cL_acts 1082 = .ok (.aload_n 3, 1) := by decide +kernel
theorem dL_acts_1083 : decode cL_acts 1083 = .ok (.aload_n 2, 1) := by decide +kernel
theorem dL_acts_1084 : decode cL_acts 1084 = .ok (.iload 7, 2) := by decide +kernel
theorem dL_acts_1086 : decode cL_acts 1086 = .ok (.invokestatic 116, 3) := by decide +kernel
theorem dL_acts_1089 : decode cL_acts 1089 = .ok (.aload_n 2, 1) := by decide +kernel
theorem dL_acts_1090 : decode cL_acts 1090 = .ok (.iload 8, 2) := by decide +kernel
theorem dL_acts_1092 : decode cL_acts 1092 = .ok (.invokestatic 116, 3) := by decide +kernel
theorem dL_acts_1095 : decode cL_acts 1095 = .ok (.aload_n 1, 1) := by decide +kernel
theorem dL_acts_1096 : decode cL_acts 1096 = .ok (.iconst 0, 1) := by decide +kernel
theorem dL_acts_1097 : decode cL_acts 1097 = .ok (.iaload, 1) := by decide +kernel
theorem dL_acts_1098 : decode cL_acts 1098 = .ok (.invokestatic 160, 3) := by decide +kernel
theorem dL_acts_1101 : decode cL_acts 1101 = .ok (.astore 11, 2) := by decide +kernel
theorem dL_acts_1103 : decode cL_acts 1103 = .ok (.aload_n 3, 1) := by decide +kernel
theorem dL_acts_1104 : decode cL_acts 1104 = .ok (.aload_n 2, 1) := by decide +kernel
theorem dL_acts_1105 : decode cL_acts 1105 = .ok (.iload 7, 2) := by decide +kernel
theorem dL_acts_1107 : decode cL_acts 1107 = .ok (.invokestatic 116, 3) := by decide +kernel
theorem dL_acts_1110 : decode cL_acts 1110 = .ok (.aload_n 2, 1) := by decide +kernel
theorem dL_acts_1111 : decode cL_acts 1111 = .ok (.iload 8, 2) := by decide +kernel
theorem dL_acts_1113 : decode cL_acts 1113 = .ok (.invokestatic 116, 3) := by decide +kernel
theorem dL_acts_1116 : decode cL_acts 1116 = .ok (.aload 11, 2) := by decide +kernel
theorem dL_acts_1118 : decode cL_acts 1118 = .ok (.invokestatic 164, 3) := by decide +kernel
theorem dL_acts_1121 : decode cL_acts 1121 = .ok (.astore 12, 2) := by decide +kernel
theorem dL_acts_1123 : decode cL_acts 1123 = .ok (.bipush 64, 2) := by decide +kernel
theorem dL_acts_1125 : decode cL_acts 1125 = .ok (.newarray .int, 2) := by decide +kernel
theorem dL_acts_1127 : decode cL_acts 1127 = .ok (.astore 13, 2) := by decide +kernel
theorem dL_acts_1129 : decode cL_acts 1129 = .ok (.aload 13, 2) := by decide +kernel
theorem dL_acts_1131 : decode cL_acts 1131 = .ok (.iconst 0, 1) := by decide +kernel
theorem dL_acts_1132 : decode cL_acts 1132 = .ok (.aload 11, 2) := by decide +kernel
theorem dL_acts_1134 : decode cL_acts 1134 = .ok (.lconst 1, 1) := by decide +kernel
theorem dL_acts_1135 : decode cL_acts 1135 = .ok (.invokestatic 135, 3) := by decide +kernel
theorem dL_acts_1138 : decode cL_acts 1138 = .ok (.ifCond .eq 15, 3) := by decide +kernel
theorem dL_acts_1141 : decode cL_acts 1141 = .ok (.aload 13, 2) := by decide +kernel
theorem dL_acts_1143 : decode cL_acts 1143 = .ok (.iconst 0, 1) := by decide +kernel
theorem dL_acts_1144 : decode cL_acts 1144 = .ok (.aload 12, 2) := by decide +kernel
theorem dL_acts_1146 : decode cL_acts 1146 = .ok (.lconst 1, 1) := by decide +kernel
theorem dL_acts_1147 : decode cL_acts 1147 = .ok (.invokestatic 135, 3) := by decide +kernel
theorem dL_acts_1150 : decode cL_acts 1150 = .ok (.ifCond .ne 28, 3) := by decide +kernel
theorem dL_acts_1153 : decode cL_acts 1153 = .ok (.aload_n 0, 1) := by decide +kernel
theorem dL_acts_1154 : decode cL_acts 1154 = .ok (.iload 7, 2) := by decide +kernel
theorem dL_acts_1156 : decode cL_acts 1156 = .ok (.iload 8, 2) := by decide +kernel
theorem dL_acts_1158 : decode cL_acts 1158 = .ok (.iload 10, 2) := by decide +kernel
theorem dL_acts_1160 : decode cL_acts 1160 = .ok (.iload 9, 2) := by decide +kernel
theorem dL_acts_1162 : decode cL_acts 1162 = .ok (.invokestatic 157, 3) := by decide +kernel
theorem dL_acts_1165 : decode cL_acts 1165 = .ok (.ldc2_w 81, 3) := by decide +kernel
theorem dL_acts_1168 : decode cL_acts 1168 = .ok (.lcmp, 1) := by decide +kernel
theorem dL_acts_1169 : decode cL_acts 1169 = .ok (.ifCond .ne 7, 3) := by decide +kernel
theorem dL_acts_1172 : decode cL_acts 1172 = .ok (.iconst 1, 1) := by decide +kernel
theorem dL_acts_1173 : decode cL_acts 1173 = .ok (.goto 4, 3) := by decide +kernel
theorem dL_acts_1176 : decode cL_acts 1176 = .ok (.iconst 0, 1) := by decide +kernel
theorem dL_acts_1177 : decode cL_acts 1177 = .ok (.ireturn, 1) := by decide +kernel
theorem dL_acts_1178 : decode cL_acts 1178 = .ok (.aload_n 2, 1) := by decide +kernel
theorem dL_acts_1179 : decode cL_acts 1179 = .ok (.iload 10, 2) := by decide +kernel
theorem dL_acts_1181 : decode cL_acts 1181 = .ok (.aload 11, 2) := by decide +kernel
theorem dL_acts_1183 : decode cL_acts 1183 = .ok (.lconst 1, 1) := by decide +kernel
theorem dL_acts_1184 : decode cL_acts 1184 = .ok (.invokestatic 135, 3) := by decide +kernel
theorem dL_acts_1187 : decode cL_acts 1187 = .ok (.ifCond .eq 19, 3) := by decide +kernel
theorem dL_acts_1190 : decode cL_acts 1190 = .ok (.aload_n 2, 1) := by decide +kernel
theorem dL_acts_1191 : decode cL_acts 1191 = .ok (.iload 9, 2) := by decide +kernel
theorem dL_acts_1193 : decode cL_acts 1193 = .ok (.aload 12, 2) := by decide +kernel
theorem dL_acts_1195 : decode cL_acts 1195 = .ok (.lconst 1, 1) := by decide +kernel
theorem dL_acts_1196 : decode cL_acts 1196 = .ok (.invokestatic 135, 3) := by decide +kernel
theorem dL_acts_1199 : decode cL_acts 1199 = .ok (.ifCond .eq 7, 3) := by decide +kernel
theorem dL_acts_1202 : decode cL_acts 1202 = .ok (.iconst 1, 1) := by decide +kernel
theorem dL_acts_1203 : decode cL_acts 1203 = .ok (.goto 4, 3) := by decide +kernel
theorem dL_acts_1206 : decode cL_acts 1206 = .ok (.iconst 0, 1) := by decide +kernel
theorem dL_acts_1207 : decode cL_acts 1207 = .ok (.istore 14, 2) := by decide +kernel
theorem dL_acts_1209 : decode cL_acts 1209 = .ok (.aload_n 1, 1) := by decide +kernel
theorem dL_acts_1210 : decode cL_acts 1210 = .ok (.iconst 2, 1) := by decide +kernel
theorem dL_acts_1211 : decode cL_acts 1211 = .ok (.dup2, 1) := by decide +kernel
theorem dL_acts_1212 : decode cL_acts 1212 = .ok (.iaload, 1) := by decide +kernel
theorem dL_acts_1213 : decode cL_acts 1213 = .ok (.iconst 1, 1) := by decide +kernel
theorem dL_acts_1214 : decode cL_acts 1214 = .ok (.iadd, 1) := by decide +kernel
theorem dL_acts_1215 : decode cL_acts 1215 = .ok (.iastore, 1) := by decide +kernel
theorem dL_acts_1216 : decode cL_acts 1216 = .ok (.iload 14, 2) := by decide +kernel
theorem dL_acts_1218 : decode cL_acts 1218 = .ok (.ifCond .eq 28, 3) := by decide +kernel
theorem dL_acts_1221 : decode cL_acts 1221 = .ok (.aload_n 0, 1) := by decide +kernel
theorem dL_acts_1222 : decode cL_acts 1222 = .ok (.iload 7, 2) := by decide +kernel
theorem dL_acts_1224 : decode cL_acts 1224 = .ok (.iload 8, 2) := by decide +kernel
theorem dL_acts_1226 : decode cL_acts 1226 = .ok (.iload 10, 2) := by decide +kernel
theorem dL_acts_1228 : decode cL_acts 1228 = .ok (.iload 9, 2) := by decide +kernel
theorem dL_acts_1230 : decode cL_acts 1230 = .ok (.invokestatic 157, 3) := by decide +kernel
