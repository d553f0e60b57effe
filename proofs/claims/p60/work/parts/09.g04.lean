theorem dL_isBench_171 : decode cL_isBench 171 = .ok (.invokevirtual 52, 3) := by decide +kernel
theorem dL_isBench_174 : decode cL_isBench 174 = .ok (.aload_n 0, 1) := by decide +kernel
theorem dL_isBench_175 : decode cL_isBench 175 = .ok (.invokevirtual 82, 3) := by decide +kernel
theorem dL_isBench_178 : decode cL_isBench 178 = .ok (.if_icmp .gt 7, 3) := by decide +kernel
theorem dL_isBench_181 : decode cL_isBench 181 = .ok (.iconst 1, 1) := by decide +kernel
theorem dL_isBench_182 : decode cL_isBench 182 = .ok (.goto 4, 3) := by decide +kernel
theorem dL_isBench_185 : decode cL_isBench 185 = .ok (.iconst 0, 1) := by decide +kernel
theorem dL_isBench_186 : decode cL_isBench 186 = .ok (.istore 9, 2) := by decide +kernel
theorem dL_isBench_188 : decode cL_isBench 188 = .ok (.aload_n 0, 1) := by decide +kernel
theorem dL_isBench_189 : decode cL_isBench 189 = .ok (.iload_n 2, 1) := by decide +kernel
theorem dL_isBench_190 : decode cL_isBench 190 = .ok (.invokevirtual 85, 3) := by decide +kernel
theorem dL_isBench_193 : decode cL_isBench 193 = .ok (.istore 10, 2) := by decide +kernel
theorem dL_isBench_195 : decode cL_isBench 195 = .ok (.iload_n 3, 1) := by decide +kernel
theorem dL_isBench_196 : decode cL_isBench 196 = .ok (.aload_n 0, 1) := by decide +kernel
theorem dL_isBench_197 : decode cL_isBench 197 = .ok (.iload_n 2, 1) := by decide +kernel
theorem dL_isBench_198 : decode cL_isBench 198 = .ok (.invokevirtual 49, 3) := by decide +kernel
theorem dL_isBench_201 : decode cL_isBench 201 = .ok (.if_icmp .ne 143, 3) := by decide +kernel
theorem dL_isBench_204 : decode cL_isBench 204 = .ok (.iload_n 3, 1) := by decide +kernel
theorem dL_isBench_205 : decode cL_isBench 205 = .ok (.iconst 1, 1) := by decide +kernel
theorem dL_isBench_206 : decode cL_isBench 206 = .ok (.if_icmp .lt 138, 3) := by decide +kernel
theorem dL_isBench_209 : decode cL_isBench 209 = .ok (.iload_n 3, 1) := by decide +kernel
theorem dL_isBench_210 : decode cL_isBench 210 = .ok (.sipush 200, 3) := by decide +kernel
theorem dL_isBench_213 : decode cL_isBench 213 = .ok (.if_icmp .gt 131, 3) := by decide +kernel
theorem dL_isBench_216 : decode cL_isBench 216 = .ok (.iload 4, 2) := by decide +kernel
theorem dL_isBench_218 : decode cL_isBench 218 = .ok (.aload_n 0, 1) := by decide +kernel
theorem dL_isBench_219 : decode cL_isBench 219 = .ok (.iload_n 2, 1) := by decide +kernel
theorem dL_isBench_220 : decode cL_isBench 220 = .ok (.invokevirtual 88, 3) := by decide +kernel
theorem dL_isBench_223 : decode cL_isBench 223 = .ok (.if_icmp .ne 121, 3) := by decide +kernel
theorem dL_isBench_226 : decode cL_isBench 226 = .ok (.iload 4, 2) := by decide +kernel
theorem dL_isBench_228 : decode cL_isBench 228 = .ok (.sipush 4000, 3) := by decide +kernel
theorem dL_isBench_231 : decode cL_isBench 231 = .ok (.if_icmp .gt 113, 3) := by decide +kernel
theorem dL_isBench_234 : decode cL_isBench 234 = .ok (.iload 5, 2) := by decide +kernel
theorem dL_isBench_236 : decode cL_isBench 236 = .ok (.aload_n 0, 1) := by decide +kernel
theorem dL_isBench_237 : decode cL_isBench 237 = .ok (.iload_n 2, 1) := by decide +kernel
theorem dL_isBench_238 : decode cL_isBench 238 = .ok (.invokevirtual 91, 3) := by decide +kernel
theorem dL_isBench_241 : decode cL_isBench 241 = .ok (.if_icmp .ne 103, 3) := by decide +kernel
theorem dL_isBench_244 : decode cL_isBench 244 = .ok (.iload 6, 2) := by decide +kernel
theorem dL_isBench_246 : decode cL_isBench 246 = .ok (.aload_n 0, 1) := by decide +kernel
theorem dL_isBench_247 : decode cL_isBench 247 = .ok (.iload_n 2, 1) := by decide +kernel
theorem dL_isBench_248 : decode cL_isBench 248 = .ok (.invokevirtual 94, 3) := by decide +kernel
theorem dL_isBench_251 : decode cL_isBench 251 = .ok (.if_icmp .ne 93, 3) := by decide +kernel
theorem dL_isBench_254 : decode cL_isBench 254 = .ok (.iload 10, 2) := by decide +kernel
theorem dL_isBench_256 : decode cL_isBench 256 = .ok (.iload 5, 2) := by decide +kernel
theorem dL_isBench_258 : decode cL_isBench 258 = .ok (.if_icmp .gt 86, 3) := by decide +kernel
theorem dL_isBench_261 : decode cL_isBench 261 = .ok (.iload 9, 2) := by decide +kernel
theorem dL_isBench_263 : decode cL_isBench 263 = .ok (.ifCond .eq 8, 3) := by decide +kernel
theorem dL_isBench_266 : decode cL_isBench 266 = .ok (.iload 10, 2) := by decide +kernel
theorem dL_isBench_268 : decode cL_isBench 268 = .ok (.ifCond .gt 76, 3) := by decide +kernel
theorem dL_isBench_271 : decode cL_isBench 271 = .ok (.iload 9, 2) := by decide +kernel
theorem dL_isBench_273 : decode cL_isBench 273 = .ok (.ifCond .ne 13, 3) := by decide +kernel
theorem dL_isBench_276 : decode cL_isBench 276 = .ok (.iload 6, 2) := by decide +kernel
theorem dL_isBench_278 : decode cL_isBench 278 = .ok (.ifCond .le 8, 3) := by decide +kernel
theorem dL_isBench_281 : decode cL_isBench 281 = .ok (.iload 10, 2) := by decide +kernel
theorem dL_isBench_283 : decode cL_isBench 283 = .ok (.ifCond .eq 61, 3) := by decide +kernel
theorem dL_isBench_286 : decode cL_isBench 286 = .ok (.aload_n 0, 1) := by decide +kernel
theorem dL_isBench_287 : decode cL_isBench 287 = .ok (.iload_n 2, 1) := by decide +kernel
theorem dL_isBench_288 : decode cL_isBench 288 = .ok (.invokevirtual 97, 3) := by decide +kernel
theorem dL_isBench_291 : decode cL_isBench 291 = .ok (.ifCond .ne 7, 3) := by decide +kernel
theorem dL_isBench_294 : decode cL_isBench 294 = .ok (.iconst 1, 1) := by decide +kernel
theorem dL_isBench_295 : decode cL_isBench 295 = .ok (.goto 4, 3) := by decide +kernel
theorem dL_isBench_298 : decode cL_isBench 298 = .ok (.iconst 0, 1) := by decide +kernel
theorem dL_isBench_299 : decode cL_isBench 299 = .ok (.aload_n 0, 1) := by decide +kernel
theorem dL_isBench_300 : decode cL_isBench 300 = .ok (.iload_n 2, 1) := by decide +kernel
theorem dL_isBench_301 : decode cL_isBench 301 = .ok (.invokevirtual 52, 3) := by decide +kernel
theorem dL_isBench_304 : decode cL_isBench 304 = .ok (.aload_n 0, 1) := by decide +kernel
theorem dL_isBench_305 : decode cL_isBench 305 = .ok (.invokevirtual 82, 3) := by decide +kernel
theorem dL_isBench_308 : decode cL_isBench 308 = .ok (.if_icmp .gt 7, 3) := by decide +kernel
theorem dL_isBench_311 : decode cL_isBench 311 = .ok (.iconst 1, 1) := by decide +kernel
theorem dL_isBench_312 : decode cL_isBench 312 = .ok (.goto 4, 3) := by decide +kernel
theorem dL_isBench_315 : decode cL_isBench 315 = .ok (.iconst 0, 1) := by decide +kernel
theorem dL_isBench_316 : decode cL_isBench 316 = .ok (.if_icmp .ne 28, 3) := by decide +kernel
theorem dL_isBench_319 : decode cL_isBench 319 = .ok (.aload_n 0, 1) := by decide +kernel
theorem dL_isBench_320 : decode cL_isBench 320 = .ok (.iload_n 2, 1) := by decide +kernel
theorem dL_isBench_321 : decode cL_isBench 321 = .ok (.iconst 0, 1) := by decide +kernel
theorem dL_isBench_322 : decode cL_isBench 322 = .ok (.invokevirtual 100, 3) := by decide +kernel
theorem dL_isBench_325 : decode cL_isBench 325 = .ok (.aload_n 0, 1) := by decide +kernel
theorem dL_isBench_326 : decode cL_isBench 326 = .ok (.iload_n 2, 1) := by decide +kernel
theorem dL_isBench_327 : decode cL_isBench 327 = .ok (.invokevirtual 52, 3) := by decide +kernel
theorem dL_isBench_330 : decode cL_isBench 330 = .ok (.if_icmp .ne 14, 3) := by decide +kernel
theorem dL_isBench_333 : decode cL_isBench 333 = .ok (.aload_n 0, 1) := by decide +kernel
theorem dL_isBench_334 : decode cL_isBench 334 = .ok (.iload_n 2, 1) := by decide +kernel
theorem dL_isBench_335 : decode cL_isBench 335 = .ok (.invokevirtual 103, 3) := by decide +kernel
theorem dL_isBench_338 : decode cL_isBench 338 = .ok (.iload_n 3, 1) := by decide +kernel
theorem dL_isBench_339 : decode cL_isBench 339 = .ok (.iconst 1, 1) := by decide +kernel
theorem dL_isBench_340 : decode cL_isBench 340 = .ok (.isub, 1) := by decide +kernel
theorem dL_isBench_341 : decode cL_isBench 341 = .ok (.if_icmp .le 5, 3) := by decide +kernel
theorem dL_isBench_344 : decode cL_isBench 344 = .ok (.iconst 0, 1) := by decide +kernel
theorem dL_isBench_345 : decode cL_isBench 345 = .ok (.ireturn, 1) := by decide +kernel
theorem dL_isBench_346 : decode cL_isBench 346 = .ok (.aload_n 0, 1) := by decide +kernel
theorem dL_isBench_347 : decode cL_isBench 347 = .ok (.iload_n 2, 1) := by decide +kernel
theorem dL_isBench_348 : decode cL_isBench 348 = .ok (.invokevirtual 52, 3) := by decide +kernel
theorem dL_isBench_351 : decode cL_isBench 351 = .ok (.aload_n 0, 1) := by decide +kernel
theorem dL_isBench_352 : decode cL_isBench 352 = .ok (.aload_n 0, 1) := by decide +kernel
theorem dL_isBench_353 : decode cL_isBench 353 = .ok (.invokevirtual 106, 3) := by decide +kernel
theorem dL_isBench_356 : decode cL_isBench 356 = .ok (.invokevirtual 52, 3) := by decide +kernel
theorem dL_isBench_359 : decode cL_isBench 359 = .ok (.if_icmp .gt 31, 3) := by decide +kernel
theorem dL_isBench_362 : decode cL_isBench 362 = .ok (.iload_n 3, 1) := by decide +kernel
theorem dL_isBench_363 : decode cL_isBench 363 = .ok (.aload_n 0, 1) := by decide +kernel
theorem dL_isBench_364 : decode cL_isBench 364 = .ok (.aload_n 0, 1) := by decide +kernel
theorem dL_isBench_365 : decode cL_isBench 365 = .ok (.invokevirtual 109, 3) := by decide +kernel
