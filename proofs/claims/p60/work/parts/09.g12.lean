theorem dL_act_1152 : decode cL_act 1152 = .ok (.iload 5, 2) := by decide +kernel
theorem dL_act_1154 : decode cL_act 1154 = .ok (.invokevirtual 58, 3) := by decide +kernel
theorem dL_act_1157 : decode cL_act 1157 = .ok (.ifCond .ne 20, 3) := by decide +kernel
theorem dL_act_1160 : decode cL_act 1160 = .ok (.aload_n 0, 1) := by decide +kernel
theorem dL_act_1161 : decode cL_act 1161 = .ok (.iload 5, 2) := by decide +kernel
theorem dL_act_1163 : decode cL_act 1163 = .ok (.iload 6, 2) := by decide +kernel
theorem dL_act_1165 : decode cL_act 1165 = .ok (.iconst 1, 1) := by decide +kernel
theorem dL_act_1166 : decode cL_act 1166 = .ok (.isub, 1) := by decide +kernel
theorem dL_act_1167 : decode cL_act 1167 = .ok (.invokevirtual 68, 3) := by decide +kernel
theorem dL_act_1170 : decode cL_act 1170 = .ok (.ifCond .eq 7, 3) := by decide +kernel
theorem dL_act_1173 : decode cL_act 1173 = .ok (.iconst 1, 1) := by decide +kernel
theorem dL_act_1174 : decode cL_act 1174 = .ok (.goto 4, 3) := by decide +kernel
theorem dL_act_1177 : decode cL_act 1177 = .ok (.iconst 0, 1) := by decide +kernel
theorem dL_act_1178 : decode cL_act 1178 = .ok (.istore 11, 2) := by decide +kernel
theorem dL_act_1180 : decode cL_act 1180 = .ok (.aload_n 0, 1) := by decide +kernel
theorem dL_act_1181 : decode cL_act 1181 = .ok (.iload 5, 2) := by decide +kernel
theorem dL_act_1183 : decode cL_act 1183 = .ok (.iload 9, 2) := by decide +kernel
theorem dL_act_1185 : decode cL_act 1185 = .ok (.invokevirtual 167, 3) := by decide +kernel
theorem dL_act_1188 : decode cL_act 1188 = .ok (.iload 6, 2) := by decide +kernel
theorem dL_act_1190 : decode cL_act 1190 = .ok (.iload 11, 2) := by decide +kernel
theorem dL_act_1192 : decode cL_act 1192 = .ok (.ifCond .eq 7, 3) := by decide +kernel
theorem dL_act_1195 : decode cL_act 1195 = .ok (.iconst 0, 1) := by decide +kernel
theorem dL_act_1196 : decode cL_act 1196 = .ok (.goto 4, 3) := by decide +kernel
theorem dL_act_1199 : decode cL_act 1199 = .ok (.iconst 1, 1) := by decide +kernel
theorem dL_act_1200 : decode cL_act 1200 = .ok (.iadd, 1) := by decide +kernel
theorem dL_act_1201 : decode cL_act 1201 = .ok (.if_icmp .ne 38, 3) := by decide +kernel
theorem dL_act_1204 : decode cL_act 1204 = .ok (.aload_n 0, 1) := by decide +kernel
theorem dL_act_1205 : decode cL_act 1205 = .ok (.iload 5, 2) := by decide +kernel
theorem dL_act_1207 : decode cL_act 1207 = .ok (.invokevirtual 88, 3) := by decide +kernel
theorem dL_act_1210 : decode cL_act 1210 = .ok (.iload 10, 2) := by decide +kernel
theorem dL_act_1212 : decode cL_act 1212 = .ok (.iload 9, 2) := by decide +kernel
theorem dL_act_1214 : decode cL_act 1214 = .ok (.iadd, 1) := by decide +kernel
theorem dL_act_1215 : decode cL_act 1215 = .ok (.if_icmp .ne 24, 3) := by decide +kernel
theorem dL_act_1218 : decode cL_act 1218 = .ok (.aload_n 0, 1) := by decide +kernel
theorem dL_act_1219 : decode cL_act 1219 = .ok (.iload 5, 2) := by decide +kernel
theorem dL_act_1221 : decode cL_act 1221 = .ok (.aload_n 0, 1) := by decide +kernel
theorem dL_act_1222 : decode cL_act 1222 = .ok (.iload 5, 2) := by decide +kernel
theorem dL_act_1224 : decode cL_act 1224 = .ok (.invokevirtual 33, 3) := by decide +kernel
theorem dL_act_1227 : decode cL_act 1227 = .ok (.iconst 1, 1) := by decide +kernel
theorem dL_act_1228 : decode cL_act 1228 = .ok (.isub, 1) := by decide +kernel
theorem dL_act_1229 : decode cL_act 1229 = .ok (.invokevirtual 68, 3) := by decide +kernel
theorem dL_act_1232 : decode cL_act 1232 = .ok (.ifCond .eq 7, 3) := by decide +kernel
theorem dL_act_1235 : decode cL_act 1235 = .ok (.iconst 1, 1) := by decide +kernel
theorem dL_act_1236 : decode cL_act 1236 = .ok (.goto 4, 3) := by decide +kernel
theorem dL_act_1239 : decode cL_act 1239 = .ok (.iconst 0, 1) := by decide +kernel
theorem dL_act_1240 : decode cL_act 1240 = .ok (.ireturn, 1) := by decide +kernel
theorem dL_act_1241 : decode cL_act 1241 = .ok (.aload_n 0, 1) := by decide +kernel
theorem dL_act_1242 : decode cL_act 1242 = .ok (.invokevirtual 37, 3) := by decide +kernel
theorem dL_act_1245 : decode cL_act 1245 = .ok (.istore 9, 2) := by decide +kernel
theorem dL_act_1247 : decode cL_act 1247 = .ok (.iload 9, 2) := by decide +kernel
theorem dL_act_1249 : decode cL_act 1249 = .ok (.sipush 900, 3) := by decide +kernel
theorem dL_act_1252 : decode cL_act 1252 = .ok (.if_icmp .gt 29, 3) := by decide +kernel
theorem dL_act_1255 : decode cL_act 1255 = .ok (.aload_n 0, 1) := by decide +kernel
theorem dL_act_1256 : decode cL_act 1256 = .ok (.iconst 1, 1) := by decide +kernel
theorem dL_act_1257 : decode cL_act 1257 = .ok (.iload_n 3, 1) := by decide +kernel
theorem dL_act_1258 : decode cL_act 1258 = .ok (.bipush 50, 2) := by decide +kernel
theorem dL_act_1260 : decode cL_act 1260 = .ok (.invokestatic 128, 3) := by decide +kernel
theorem dL_act_1263 : decode cL_act 1263 = .ok (.iadd, 1) := by decide +kernel
theorem dL_act_1264 : decode cL_act 1264 = .ok (.invokevirtual 131, 3) := by decide +kernel
theorem dL_act_1267 : decode cL_act 1267 = .ok (.iload 9, 2) := by decide +kernel
theorem dL_act_1269 : decode cL_act 1269 = .ok (.iconst 1, 1) := by decide +kernel
theorem dL_act_1270 : decode cL_act 1270 = .ok (.iadd, 1) := by decide +kernel
theorem dL_act_1271 : decode cL_act 1271 = .ok (.iload_n 3, 1) := by decide +kernel
theorem dL_act_1272 : decode cL_act 1272 = .ok (.bipush 50, 2) := by decide +kernel
theorem dL_act_1274 : decode cL_act 1274 = .ok (.invokestatic 128, 3) := by decide +kernel
theorem dL_act_1277 : decode cL_act 1277 = .ok (.iadd, 1) := by decide +kernel
theorem dL_act_1278 : decode cL_act 1278 = .ok (.if_icmp .ne 7, 3) := by decide +kernel
theorem dL_act_1281 : decode cL_act 1281 = .ok (.iconst 1, 1) := by decide +kernel
theorem dL_act_1282 : decode cL_act 1282 = .ok (.goto 4, 3) := by decide +kernel
theorem dL_act_1285 : decode cL_act 1285 = .ok (.iconst 0, 1) := by decide +kernel
theorem dL_act_1286 : decode cL_act 1286 = .ok (.ireturn, 1) := by decide +kernel
theorem dL_law_0 : decode cL_law 0 = .ok (.new 9, 3) := by decide +kernel
theorem dL_law_3 : decode cL_law 3 = .ok (.dup, 1) := by decide +kernel
theorem dL_law_4 : decode cL_law 4 = .ok (.invokespecial 170, 3) := by decide +kernel
theorem dL_law_7 : decode cL_law 7 = .ok (.astore_n 1, 1) := by decide +kernel
theorem dL_law_8 : decode cL_law 8 = .ok (.bipush 6, 2) := by decide +kernel
theorem dL_law_10 : decode cL_law 10 = .ok (.newarray .int, 2) := by decide +kernel
theorem dL_law_12 : decode cL_law 12 = .ok (.astore_n 2, 1) := by decide +kernel
theorem dL_law_13 : decode cL_law 13 = .ok (.aload_n 0, 1) := by decide +kernel
theorem dL_law_14 : decode cL_law 14 = .ok (.iconst 0, 1) := by decide +kernel
theorem dL_law_15 : decode cL_law 15 = .ok (.invokestatic 171, 3) := by decide +kernel
theorem dL_law_18 : decode cL_law 18 = .ok (.istore_n 3, 1) := by decide +kernel
theorem dL_law_19 : decode cL_law 19 = .ok (.new 175, 3) := by decide +kernel
theorem dL_law_22 : decode cL_law 22 = .ok (.dup, 1) := by decide +kernel
theorem dL_law_23 : decode cL_law 23 = .ok (.ldc 177, 2) := by decide +kernel
theorem dL_law_25 : decode cL_law 25 = .ok (.invokespecial 179, 3) := by decide +kernel
theorem dL_law_28 : decode cL_law 28 = .ok (.iload_n 3, 1) := by decide +kernel
theorem dL_law_29 : decode cL_law 29 = .ok (.bipush 41, 2) := by decide +kernel
theorem dL_law_31 : decode cL_law 31 = .ok (.invokestatic 128, 3) := by decide +kernel
theorem dL_law_34 : decode cL_law 34 = .ok (.invokevirtual 182, 3) := by decide +kernel
theorem dL_law_37 : decode cL_law 37 = .ok (.bipush 32, 2) := by decide +kernel
theorem dL_law_39 : decode cL_law 39 = .ok (.invokevirtual 186, 3) := by decide +kernel
theorem dL_law_42 : decode cL_law 42 = .ok (.iconst 5, 1) := by decide +kernel
theorem dL_law_43 : decode cL_law 43 = .ok (.iload_n 3, 1) := by decide +kernel
theorem dL_law_44 : decode cL_law 44 = .ok (.iconst 1, 1) := by decide +kernel
theorem dL_law_45 : decode cL_law 45 = .ok (.ishr, 1) := by decide +kernel
theorem dL_law_46 : decode cL_law 46 = .ok (.bipush 31, 2) := by decide +kernel
theorem dL_law_48 : decode cL_law 48 = .ok (.invokestatic 128, 3) := by decide +kernel
theorem dL_law_51 : decode cL_law 51 = .ok (.iadd, 1) := by decide +kernel
theorem dL_law_52 : decode cL_law 52 = .ok (.invokevirtual 182, 3) := by decide +kernel
