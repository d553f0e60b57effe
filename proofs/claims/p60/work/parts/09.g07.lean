theorem dL_act_154 : decode cL_act 154 = .ok (.iload 5, 2) := by decide +kernel
theorem dL_act_156 : decode cL_act 156 = .ok (.invokevirtual 134, 3) := by decide +kernel
theorem dL_act_159 : decode cL_act 159 = .ok (.istore 13, 2) := by decide +kernel
theorem dL_act_161 : decode cL_act 161 = .ok (.aload_n 0, 1) := by decide +kernel
theorem dL_act_162 : decode cL_act 162 = .ok (.iload 5, 2) := by decide +kernel
theorem dL_act_164 : decode cL_act 164 = .ok (.invokevirtual 55, 3) := by decide +kernel
theorem dL_act_167 : decode cL_act 167 = .ok (.istore 14, 2) := by decide +kernel
theorem dL_act_169 : decode cL_act 169 = .ok (.aload_n 0, 1) := by decide +kernel
theorem dL_act_170 : decode cL_act 170 = .ok (.iload 5, 2) := by decide +kernel
theorem dL_act_172 : decode cL_act 172 = .ok (.iload 8, 2) := by decide +kernel
theorem dL_act_174 : decode cL_act 174 = .ok (.invokevirtual 137, 3) := by decide +kernel
theorem dL_act_177 : decode cL_act 177 = .ok (.iload 9, 2) := by decide +kernel
theorem dL_act_179 : decode cL_act 179 = .ok (.if_icmp .ne 85, 3) := by decide +kernel
theorem dL_act_182 : decode cL_act 182 = .ok (.aload_n 0, 1) := by decide +kernel
theorem dL_act_183 : decode cL_act 183 = .ok (.iload 5, 2) := by decide +kernel
theorem dL_act_185 : decode cL_act 185 = .ok (.invokevirtual 88, 3) := by decide +kernel
theorem dL_act_188 : decode cL_act 188 = .ok (.iload 8, 2) := by decide +kernel
theorem dL_act_190 : decode cL_act 190 = .ok (.iload 10, 2) := by decide +kernel
theorem dL_act_192 : decode cL_act 192 = .ok (.imul, 1) := by decide +kernel
theorem dL_act_193 : decode cL_act 193 = .ok (.if_icmp .ne 71, 3) := by decide +kernel
theorem dL_act_196 : decode cL_act 196 = .ok (.aload_n 0, 1) := by decide +kernel
theorem dL_act_197 : decode cL_act 197 = .ok (.iload 5, 2) := by decide +kernel
theorem dL_act_199 : decode cL_act 199 = .ok (.invokevirtual 55, 3) := by decide +kernel
theorem dL_act_202 : decode cL_act 202 = .ok (.iload 14, 2) := by decide +kernel
theorem dL_act_204 : decode cL_act 204 = .ok (.iconst 1, 1) := by decide +kernel
theorem dL_act_205 : decode cL_act 205 = .ok (.iadd, 1) := by decide +kernel
theorem dL_act_206 : decode cL_act 206 = .ok (.if_icmp .ne 58, 3) := by decide +kernel
theorem dL_act_209 : decode cL_act 209 = .ok (.aload_n 0, 1) := by decide +kernel
theorem dL_act_210 : decode cL_act 210 = .ok (.iload 5, 2) := by decide +kernel
theorem dL_act_212 : decode cL_act 212 = .ok (.invokevirtual 58, 3) := by decide +kernel
theorem dL_act_215 : decode cL_act 215 = .ok (.ifCond .ne 49, 3) := by decide +kernel
theorem dL_act_218 : decode cL_act 218 = .ok (.iload 12, 2) := by decide +kernel
theorem dL_act_220 : decode cL_act 220 = .ok (.ifCond .ne 18, 3) := by decide +kernel
theorem dL_act_223 : decode cL_act 223 = .ok (.aload_n 0, 1) := by decide +kernel
theorem dL_act_224 : decode cL_act 224 = .ok (.iload 5, 2) := by decide +kernel
theorem dL_act_226 : decode cL_act 226 = .ok (.iload 8, 2) := by decide +kernel
theorem dL_act_228 : decode cL_act 228 = .ok (.invokevirtual 122, 3) := by decide +kernel
theorem dL_act_231 : decode cL_act 231 = .ok (.iload 11, 2) := by decide +kernel
theorem dL_act_233 : decode cL_act 233 = .ok (.iconst 1, 1) := by decide +kernel
theorem dL_act_234 : decode cL_act 234 = .ok (.isub, 1) := by decide +kernel
theorem dL_act_235 : decode cL_act 235 = .ok (.if_icmp .ne 29, 3) := by decide +kernel
theorem dL_act_238 : decode cL_act 238 = .ok (.iload 8, 2) := by decide +kernel
theorem dL_act_240 : decode cL_act 240 = .ok (.iconst 2, 1) := by decide +kernel
theorem dL_act_241 : decode cL_act 241 = .ok (.irem, 1) := by decide +kernel
theorem dL_act_242 : decode cL_act 242 = .ok (.iconst 1, 1) := by decide +kernel
theorem dL_act_243 : decode cL_act 243 = .ok (.if_icmp .ne 8, 3) := by decide +kernel
theorem dL_act_246 : decode cL_act 246 = .ok (.iload 13, 2) := by decide +kernel
theorem dL_act_248 : decode cL_act 248 = .ok (.ifCond .eq 12, 3) := by decide +kernel
theorem dL_act_251 : decode cL_act 251 = .ok (.aload_n 0, 1) := by decide +kernel
theorem dL_act_252 : decode cL_act 252 = .ok (.iload 5, 2) := by decide +kernel
theorem dL_act_254 : decode cL_act 254 = .ok (.invokevirtual 134, 3) := by decide +kernel
theorem dL_act_257 : decode cL_act 257 = .ok (.ifCond .eq 7, 3) := by decide +kernel
theorem dL_act_260 : decode cL_act 260 = .ok (.iconst 1, 1) := by decide +kernel
theorem dL_act_261 : decode cL_act 261 = .ok (.goto 4, 3) := by decide +kernel
theorem dL_act_264 : decode cL_act 264 = .ok (.iconst 0, 1) := by decide +kernel
theorem dL_act_265 : decode cL_act 265 = .ok (.ireturn, 1) := by decide +kernel
theorem dL_act_266 : decode cL_act 266 = .ok (.iload_n 2, 1) := by decide +kernel
theorem dL_act_267 : decode cL_act 267 = .ok (.bipush 10, 2) := by decide +kernel
theorem dL_act_269 : decode cL_act 269 = .ok (.if_icmp .ge 167, 3) := by decide +kernel
theorem dL_act_272 : decode cL_act 272 = .ok (.aload_n 0, 1) := by decide +kernel
theorem dL_act_273 : decode cL_act 273 = .ok (.iload 5, 2) := by decide +kernel
theorem dL_act_275 : decode cL_act 275 = .ok (.iload 8, 2) := by decide +kernel
theorem dL_act_277 : decode cL_act 277 = .ok (.invokevirtual 140, 3) := by decide +kernel
theorem dL_act_280 : decode cL_act 280 = .ok (.istore 9, 2) := by decide +kernel
theorem dL_act_282 : decode cL_act 282 = .ok (.aload_n 0, 1) := by decide +kernel
theorem dL_act_283 : decode cL_act 283 = .ok (.iload 5, 2) := by decide +kernel
theorem dL_act_285 : decode cL_act 285 = .ok (.invokevirtual 85, 3) := by decide +kernel
theorem dL_act_288 : decode cL_act 288 = .ok (.istore 10, 2) := by decide +kernel
theorem dL_act_290 : decode cL_act 290 = .ok (.aload_n 0, 1) := by decide +kernel
theorem dL_act_291 : decode cL_act 291 = .ok (.iload 5, 2) := by decide +kernel
theorem dL_act_293 : decode cL_act 293 = .ok (.iload 8, 2) := by decide +kernel
theorem dL_act_295 : decode cL_act 295 = .ok (.invokevirtual 125, 3) := by decide +kernel
theorem dL_act_298 : decode cL_act 298 = .ok (.istore 11, 2) := by decide +kernel
theorem dL_act_300 : decode cL_act 300 = .ok (.aload_n 0, 1) := by decide +kernel
theorem dL_act_301 : decode cL_act 301 = .ok (.invokevirtual 43, 3) := by decide +kernel
theorem dL_act_304 : decode cL_act 304 = .ok (.istore 12, 2) := by decide +kernel
theorem dL_act_306 : decode cL_act 306 = .ok (.aload_n 0, 1) := by decide +kernel
theorem dL_act_307 : decode cL_act 307 = .ok (.invokevirtual 46, 3) := by decide +kernel
theorem dL_act_310 : decode cL_act 310 = .ok (.istore 13, 2) := by decide +kernel
theorem dL_act_312 : decode cL_act 312 = .ok (.aload_n 0, 1) := by decide +kernel
theorem dL_act_313 : decode cL_act 313 = .ok (.iload 5, 2) := by decide +kernel
theorem dL_act_315 : decode cL_act 315 = .ok (.invokevirtual 94, 3) := by decide +kernel
theorem dL_act_318 : decode cL_act 318 = .ok (.istore 14, 2) := by decide +kernel
theorem dL_act_320 : decode cL_act 320 = .ok (.iload 7, 2) := by decide +kernel
theorem dL_act_322 : decode cL_act 322 = .ok (.ifCond .ne 8, 3) := by decide +kernel
theorem dL_act_325 : decode cL_act 325 = .ok (.iload 9, 2) := by decide +kernel
theorem dL_act_327 : decode cL_act 327 = .ok (.ifCond .ne 14, 3) := by decide +kernel
theorem dL_act_330 : decode cL_act 330 = .ok (.iload 9, 2) := by decide +kernel
theorem dL_act_332 : decode cL_act 332 = .ok (.ifCond .lt 7, 3) := by decide +kernel
theorem dL_act_335 : decode cL_act 335 = .ok (.iconst 1, 1) := by decide +kernel
theorem dL_act_336 : decode cL_act 336 = .ok (.goto 4, 3) := by decide +kernel
theorem dL_act_339 : decode cL_act 339 = .ok (.iconst 0, 1) := by decide +kernel
theorem dL_act_340 : decode cL_act 340 = .ok (.ireturn, 1) := by decide +kernel
theorem dL_act_341 : decode cL_act 341 = .ok (.aload_n 0, 1) := by decide +kernel
theorem dL_act_342 : decode cL_act 342 = .ok (.iload 5, 2) := by decide +kernel
theorem dL_act_344 : decode cL_act 344 = .ok (.iload 8, 2) := by decide +kernel
theorem dL_act_346 : decode cL_act 346 = .ok (.invokevirtual 143, 3) := by decide +kernel
theorem dL_act_349 : decode cL_act 349 = .ok (.istore 15, 2) := by decide +kernel
theorem dL_act_351 : decode cL_act 351 = .ok (.iload 15, 2) := by decide +kernel
theorem dL_act_353 : decode cL_act 353 = .ok (.aload_n 0, 1) := by decide +kernel
