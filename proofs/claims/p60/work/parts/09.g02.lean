theorem dL_all_132 : decode cL_all 132 = .ok (.iinc 4 1, 3) := by decide +kernel
theorem dL_all_135 : decode cL_all 135 = .ok (.aload_n 0, 1) := by decide +kernel
theorem dL_all_136 : decode cL_all 136 = .ok (.iload 5, 2) := by decide +kernel
theorem dL_all_138 : decode cL_all 138 = .ok (.invokevirtual 52, 3) := by decide +kernel
theorem dL_all_141 : decode cL_all 141 = .ok (.iastore, 1) := by decide +kernel
theorem dL_all_142 : decode cL_all 142 = .ok (.aload_n 3, 1) := by decide +kernel
theorem dL_all_143 : decode cL_all 143 = .ok (.iload 4, 2) := by decide +kernel
theorem dL_all_145 : decode cL_all 145 = .ok (.iinc 4 1, 3) := by decide +kernel
theorem dL_all_148 : decode cL_all 148 = .ok (.aload_n 0, 1) := by decide +kernel
theorem dL_all_149 : decode cL_all 149 = .ok (.iload 5, 2) := by decide +kernel
theorem dL_all_151 : decode cL_all 151 = .ok (.invokevirtual 55, 3) := by decide +kernel
theorem dL_all_154 : decode cL_all 154 = .ok (.iastore, 1) := by decide +kernel
theorem dL_all_155 : decode cL_all 155 = .ok (.aload_n 3, 1) := by decide +kernel
theorem dL_all_156 : decode cL_all 156 = .ok (.iload 4, 2) := by decide +kernel
theorem dL_all_158 : decode cL_all 158 = .ok (.iinc 4 1, 3) := by decide +kernel
theorem dL_all_161 : decode cL_all 161 = .ok (.aload_n 0, 1) := by decide +kernel
theorem dL_all_162 : decode cL_all 162 = .ok (.iload 5, 2) := by decide +kernel
theorem dL_all_164 : decode cL_all 164 = .ok (.invokevirtual 58, 3) := by decide +kernel
theorem dL_all_167 : decode cL_all 167 = .ok (.ifCond .eq 7, 3) := by decide +kernel
theorem dL_all_170 : decode cL_all 170 = .ok (.iconst 1, 1) := by decide +kernel
theorem dL_all_171 : decode cL_all 171 = .ok (.goto 4, 3) := by decide +kernel
theorem dL_all_174 : decode cL_all 174 = .ok (.iconst 0, 1) := by decide +kernel
theorem dL_all_175 : decode cL_all 175 = .ok (.iastore, 1) := by decide +kernel
theorem dL_all_176 : decode cL_all 176 = .ok (.aload_n 3, 1) := by decide +kernel
theorem dL_all_177 : decode cL_all 177 = .ok (.iload 4, 2) := by decide +kernel
theorem dL_all_179 : decode cL_all 179 = .ok (.iinc 4 1, 3) := by decide +kernel
theorem dL_all_182 : decode cL_all 182 = .ok (.aload_n 0, 1) := by decide +kernel
theorem dL_all_183 : decode cL_all 183 = .ok (.iload 5, 2) := by decide +kernel
theorem dL_all_185 : decode cL_all 185 = .ok (.invokevirtual 62, 3) := by decide +kernel
theorem dL_all_188 : decode cL_all 188 = .ok (.ifCond .eq 7, 3) := by decide +kernel
theorem dL_all_191 : decode cL_all 191 = .ok (.iconst 1, 1) := by decide +kernel
theorem dL_all_192 : decode cL_all 192 = .ok (.goto 4, 3) := by decide +kernel
theorem dL_all_195 : decode cL_all 195 = .ok (.iconst 0, 1) := by decide +kernel
theorem dL_all_196 : decode cL_all 196 = .ok (.iastore, 1) := by decide +kernel
theorem dL_all_197 : decode cL_all 197 = .ok (.aload_n 3, 1) := by decide +kernel
theorem dL_all_198 : decode cL_all 198 = .ok (.iload 4, 2) := by decide +kernel
theorem dL_all_200 : decode cL_all 200 = .ok (.iinc 4 1, 3) := by decide +kernel
theorem dL_all_203 : decode cL_all 203 = .ok (.aload_n 0, 1) := by decide +kernel
theorem dL_all_204 : decode cL_all 204 = .ok (.iload 5, 2) := by decide +kernel
theorem dL_all_206 : decode cL_all 206 = .ok (.invokevirtual 65, 3) := by decide +kernel
theorem dL_all_209 : decode cL_all 209 = .ok (.ifCond .eq 7, 3) := by decide +kernel
theorem dL_all_212 : decode cL_all 212 = .ok (.iconst 1, 1) := by decide +kernel
theorem dL_all_213 : decode cL_all 213 = .ok (.goto 4, 3) := by decide +kernel
theorem dL_all_216 : decode cL_all 216 = .ok (.iconst 0, 1) := by decide +kernel
theorem dL_all_217 : decode cL_all 217 = .ok (.iastore, 1) := by decide +kernel
theorem dL_all_218 : decode cL_all 218 = .ok (.iconst 0, 1) := by decide +kernel
theorem dL_all_219 : decode cL_all 219 = .ok (.istore 6, 2) := by decide +kernel
theorem dL_all_221 : decode cL_all 221 = .ok (.iload 6, 2) := by decide +kernel
theorem dL_all_223 : decode cL_all 223 = .ok (.aload_n 0, 1) := by decide +kernel
theorem dL_all_224 : decode cL_all 224 = .ok (.iload 5, 2) := by decide +kernel
theorem dL_all_226 : decode cL_all 226 = .ok (.invokevirtual 33, 3) := by decide +kernel
theorem dL_all_229 : decode cL_all 229 = .ok (.if_icmp .ge 47, 3) := by decide +kernel
theorem dL_all_232 : decode cL_all 232 = .ok (.aload_n 3, 1) := by decide +kernel
theorem dL_all_233 : decode cL_all 233 = .ok (.iload 4, 2) := by decide +kernel
theorem dL_all_235 : decode cL_all 235 = .ok (.iinc 4 1, 3) := by decide +kernel
theorem dL_all_238 : decode cL_all 238 = .ok (.aload_n 0, 1) := by decide +kernel
theorem dL_all_239 : decode cL_all 239 = .ok (.iload 5, 2) := by decide +kernel
theorem dL_all_241 : decode cL_all 241 = .ok (.iload 6, 2) := by decide +kernel
theorem dL_all_243 : decode cL_all 243 = .ok (.invokevirtual 68, 3) := by decide +kernel
theorem dL_all_246 : decode cL_all 246 = .ok (.ifCond .eq 15, 3) := by decide +kernel
theorem dL_all_249 : decode cL_all 249 = .ok (.aload_n 0, 1) := by decide +kernel
theorem dL_all_250 : decode cL_all 250 = .ok (.iload 5, 2) := by decide +kernel
theorem dL_all_252 : decode cL_all 252 = .ok (.iload 6, 2) := by decide +kernel
theorem dL_all_254 : decode cL_all 254 = .ok (.invokevirtual 72, 3) := by decide +kernel
theorem dL_all_257 : decode cL_all 257 = .ok (.ineg, 1) := by decide +kernel
theorem dL_all_258 : decode cL_all 258 = .ok (.goto 11, 3) := by decide +kernel
theorem dL_all_261 : decode cL_all 261 = .ok (.aload_n 0, 1) := by decide +kernel
theorem dL_all_262 : decode cL_all 262 = .ok (.iload 5, 2) := by decide +kernel
theorem dL_all_264 : decode cL_all 264 = .ok (.iload 6, 2) := by decide +kernel
theorem dL_all_266 : decode cL_all 266 = .ok (.invokevirtual 72, 3) := by decide +kernel
theorem dL_all_269 : decode cL_all 269 = .ok (.iastore, 1) := by decide +kernel
theorem dL_all_270 : decode cL_all 270 = .ok (.iinc 6 1, 3) := by decide +kernel
theorem dL_all_273 : decode cL_all 273 = .ok (.goto (-52), 3) := by decide +kernel
theorem dL_all_276 : decode cL_all 276 = .ok (.iinc 5 1, 3) := by decide +kernel
theorem dL_all_279 : decode cL_all 279 = .ok (.goto (-182), 3) := by decide +kernel
theorem dL_all_282 : decode cL_all 282 = .ok (.aload_n 3, 1) := by decide +kernel
theorem dL_all_283 : decode cL_all 283 = .ok (.areturn, 1) := by decide +kernel
theorem dL_alike_0 : decode cL_alike 0 = .ok (.aload_n 0, 1) := by decide +kernel
theorem dL_alike_1 : decode cL_alike 1 = .ok (.arraylength, 1) := by decide +kernel
theorem dL_alike_2 : decode cL_alike 2 = .ok (.aload_n 1, 1) := by decide +kernel
theorem dL_alike_3 : decode cL_alike 3 = .ok (.arraylength, 1) := by decide +kernel
theorem dL_alike_4 : decode cL_alike 4 = .ok (.if_icmp .eq 5, 3) := by decide +kernel
theorem dL_alike_7 : decode cL_alike 7 = .ok (.iconst 0, 1) := by decide +kernel
theorem dL_alike_8 : decode cL_alike 8 = .ok (.ireturn, 1) := by decide +kernel
theorem dL_alike_9 : decode cL_alike 9 = .ok (.iconst 0, 1) := by decide +kernel
theorem dL_alike_10 : decode cL_alike 10 = .ok (.istore_n 2, 1) := by decide +kernel
theorem dL_alike_11 : decode cL_alike 11 = .ok (.iload_n 2, 1) := by decide +kernel
theorem dL_alike_12 : decode cL_alike 12 = .ok (.aload_n 0, 1) := by decide +kernel
theorem dL_alike_13 : decode cL_alike 13 = .ok (.arraylength, 1) := by decide +kernel
theorem dL_alike_14 : decode cL_alike 14 = .ok (.if_icmp .ge 20, 3) := by decide +kernel
theorem dL_alike_17 : decode cL_alike 17 = .ok (.aload_n 0, 1) := by decide +kernel
theorem dL_alike_18 : decode cL_alike 18 = .ok (.iload_n 2, 1) := by decide +kernel
theorem dL_alike_19 : decode cL_alike 19 = .ok (.iaload, 1) := by decide +kernel
theorem dL_alike_20 : decode cL_alike 20 = .ok (.aload_n 1, 1) := by decide +kernel
theorem dL_alike_21 : decode cL_alike 21 = .ok (.iload_n 2, 1) := by decide +kernel
theorem dL_alike_22 : decode cL_alike 22 = .ok (.iaload, 1) := by decide +kernel
theorem dL_alike_23 : decode cL_alike 23 = .ok (.if_icmp .eq 5, 3) := by decide +kernel
theorem dL_alike_26 : decode cL_alike 26 = .ok (.iconst 0, 1) := by decide +kernel
theorem dL_alike_27 : decode cL_alike 27 = .ok (.ireturn, 1) := by decide +kernel
theorem dL_alike_28 : decode cL_alike 28 = .ok (.iinc 2 1, 3) := by decide +kernel
