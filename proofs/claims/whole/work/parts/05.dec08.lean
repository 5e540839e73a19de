theorem d_LW_law_0 : decode code 0 = .ok (.new 8, 3) := by decide +kernel
theorem d_LW_law_3 : decode code 3 = .ok (.dup, 1) := by decide +kernel
theorem d_LW_law_4 : decode code 4 = .ok (.invokespecial 83, 3) := by decide +kernel
theorem d_LW_law_7 : decode code 7 = .ok (.astore_n 1, 1) := by decide +kernel
theorem d_LW_law_8 : decode code 8 = .ok (.new 84, 3) := by decide +kernel
theorem d_LW_law_11 : decode code 11 = .ok (.dup, 1) := by decide +kernel
theorem d_LW_law_12 : decode code 12 = .ok (.invokespecial 86, 3) := by decide +kernel
theorem d_LW_law_15 : decode code 15 = .ok (.astore_n 2, 1) := by decide +kernel
theorem d_LW_law_16 : decode code 16 = .ok (.iconst 1, 1) := by decide +kernel
theorem d_LW_law_17 : decode code 17 = .ok (.newarray .long, 2) := by decide +kernel
theorem d_LW_law_19 : decode code 19 = .ok (.astore_n 3, 1) := by decide +kernel
theorem d_LW_law_20 : decode code 20 = .ok (.iconst 0, 1) := by decide +kernel
theorem d_LW_law_21 : decode code 21 = .ok (.istore 4, 2) := by decide +kernel
theorem d_LW_law_23 : decode code 23 = .ok (.iload 4, 2) := by decide +kernel
theorem d_LW_law_25 : decode code 25 = .ok (.aload_n 0, 1) := by decide +kernel
theorem d_LW_law_26 : decode code 26 = .ok (.arraylength, 1) := by decide +kernel
theorem d_LW_law_27 : decode code 27 = .ok (.iconst 4, 1) := by decide +kernel
theorem d_LW_law_28 : decode code 28 = .ok (.isub, 1) := by decide +kernel
theorem d_LW_law_29 : decode code 29 = .ok (.if_icmp .gt 1281, 3) := by decide +kernel
theorem d_LW_law_32 : decode code 32 = .ok (.aload_n 0, 1) := by decide +kernel
theorem d_LW_law_33 : decode code 33 = .ok (.iload 4, 2) := by decide +kernel
theorem d_LW_law_35 : decode code 35 = .ok (.iaload, 1) := by decide +kernel
theorem d_LW_law_36 : decode code 36 = .ok (.bipush 31, 2) := by decide +kernel
theorem d_LW_law_38 : decode code 38 = .ok (.iand, 1) := by decide +kernel
theorem d_LW_law_39 : decode code 39 = .ok (.tableswitch 1265 0 19 #[93, 137, 185, 221, 269, 325, 405, 473, 529, 597, 665, 733, 801, 837, 905, 961, 1017, 1085, 1141, 1209], 93) := by decide +kernel
theorem d_LW_law_132 : decode code 132 = .ok (.aload_n 1, 1) := by decide +kernel
theorem d_LW_law_133 : decode code 133 = .ok (.aload_n 3, 1) := by decide +kernel
theorem d_LW_law_134 : decode code 134 = .ok (.invokestatic 87, 3) := by decide +kernel
theorem d_LW_law_137 : decode code 137 = .ok (.istore 5, 2) := by decide +kernel
theorem d_LW_law_139 : decode code 139 = .ok (.aload_n 2, 1) := by decide +kernel
theorem d_LW_law_140 : decode code 140 = .ok (.invokevirtual 92, 3) := by decide +kernel
theorem d_LW_law_143 : decode code 143 = .ok (.istore 6, 2) := by decide +kernel
theorem d_LW_law_145 : decode code 145 = .ok (.aload_n 2, 1) := by decide +kernel
theorem d_LW_law_146 : decode code 146 = .ok (.invokevirtual 93, 3) := by decide +kernel
theorem d_LW_law_149 : decode code 149 = .ok (.iload 5, 2) := by decide +kernel
theorem d_LW_law_151 : decode code 151 = .ok (.if_icmp .eq 5, 3) := by decide +kernel
theorem d_LW_law_154 : decode code 154 = .ok (.iconst 0, 1) := by decide +kernel
theorem d_LW_law_155 : decode code 155 = .ok (.ireturn, 1) := by decide +kernel
theorem d_LW_law_156 : decode code 156 = .ok (.iload 5, 2) := by decide +kernel
theorem d_LW_law_158 : decode code 158 = .ok (.ifCond .ne 15, 3) := by decide +kernel
theorem d_LW_law_161 : decode code 161 = .ok (.aload_n 3, 1) := by decide +kernel
theorem d_LW_law_162 : decode code 162 = .ok (.iconst 0, 1) := by decide +kernel
theorem d_LW_law_163 : decode code 163 = .ok (.laload, 1) := by decide +kernel
theorem d_LW_law_164 : decode code 164 = .ok (.iload 6, 2) := by decide +kernel
theorem d_LW_law_166 : decode code 166 = .ok (.i2l, 1) := by decide +kernel
theorem d_LW_law_167 : decode code 167 = .ok (.lcmp, 1) := by decide +kernel
theorem d_LW_law_168 : decode code 168 = .ok (.ifCond .eq 5, 3) := by decide +kernel
theorem d_LW_law_171 : decode code 171 = .ok (.iconst 0, 1) := by decide +kernel
theorem d_LW_law_172 : decode code 172 = .ok (.ireturn, 1) := by decide +kernel
theorem d_LW_law_173 : decode code 173 = .ok (.goto 1131, 3) := by decide +kernel
theorem d_LW_law_176 : decode code 176 = .ok (.aload_n 1, 1) := by decide +kernel
theorem d_LW_law_177 : decode code 177 = .ok (.aload_n 0, 1) := by decide +kernel
theorem d_LW_law_178 : decode code 178 = .ok (.iload 4, 2) := by decide +kernel
theorem d_LW_law_180 : decode code 180 = .ok (.iconst 1, 1) := by decide +kernel
theorem d_LW_law_181 : decode code 181 = .ok (.iadd, 1) := by decide +kernel
theorem d_LW_law_182 : decode code 182 = .ok (.iaload, 1) := by decide +kernel
theorem d_LW_law_183 : decode code 183 = .ok (.aload_n 0, 1) := by decide +kernel
theorem d_LW_law_184 : decode code 184 = .ok (.iload 4, 2) := by decide +kernel
theorem d_LW_law_186 : decode code 186 = .ok (.iconst 2, 1) := by decide +kernel
theorem d_LW_law_187 : decode code 187 = .ok (.iadd, 1) := by decide +kernel
theorem d_LW_law_188 : decode code 188 = .ok (.iaload, 1) := by decide +kernel
theorem d_LW_law_189 : decode code 189 = .ok (.invokestatic 96, 3) := by decide +kernel
theorem d_LW_law_192 : decode code 192 = .ok (.istore 5, 2) := by decide +kernel
theorem d_LW_law_194 : decode code 194 = .ok (.aload_n 2, 1) := by decide +kernel
theorem d_LW_law_195 : decode code 195 = .ok (.aload_n 0, 1) := by decide +kernel
theorem d_LW_law_196 : decode code 196 = .ok (.iload 4, 2) := by decide +kernel
theorem d_LW_law_198 : decode code 198 = .ok (.iconst 1, 1) := by decide +kernel
theorem d_LW_law_199 : decode code 199 = .ok (.iadd, 1) := by decide +kernel
theorem d_LW_law_200 : decode code 200 = .ok (.iaload, 1) := by decide +kernel
theorem d_LW_law_201 : decode code 201 = .ok (.aload_n 0, 1) := by decide +kernel
theorem d_LW_law_202 : decode code 202 = .ok (.iload 4, 2) := by decide +kernel
theorem d_LW_law_204 : decode code 204 = .ok (.iconst 2, 1) := by decide +kernel
theorem d_LW_law_205 : decode code 205 = .ok (.iadd, 1) := by decide +kernel
theorem d_LW_law_206 : decode code 206 = .ok (.iaload, 1) := by decide +kernel
theorem d_LW_law_207 : decode code 207 = .ok (.invokevirtual 99, 3) := by decide +kernel
theorem d_LW_law_210 : decode code 210 = .ok (.aload_n 2, 1) := by decide +kernel
theorem d_LW_law_211 : decode code 211 = .ok (.invokevirtual 93, 3) := by decide +kernel
theorem d_LW_law_214 : decode code 214 = .ok (.iload 5, 2) := by decide +kernel
theorem d_LW_law_216 : decode code 216 = .ok (.if_icmp .eq 5, 3) := by decide +kernel
theorem d_LW_law_219 : decode code 219 = .ok (.iconst 0, 1) := by decide +kernel
theorem d_LW_law_220 : decode code 220 = .ok (.ireturn, 1) := by decide +kernel
theorem d_LW_law_221 : decode code 221 = .ok (.goto 1083, 3) := by decide +kernel
theorem d_LW_law_224 : decode code 224 = .ok (.aload_n 1, 1) := by decide +kernel
theorem d_LW_law_225 : decode code 225 = .ok (.aload_n 0, 1) := by decide +kernel
theorem d_LW_law_226 : decode code 226 = .ok (.iload 4, 2) := by decide +kernel
theorem d_LW_law_228 : decode code 228 = .ok (.iconst 1, 1) := by decide +kernel
theorem d_LW_law_229 : decode code 229 = .ok (.iadd, 1) := by decide +kernel
theorem d_LW_law_230 : decode code 230 = .ok (.iaload, 1) := by decide +kernel
theorem d_LW_law_231 : decode code 231 = .ok (.invokestatic 100, 3) := by decide +kernel
theorem d_LW_law_234 : decode code 234 = .ok (.istore 5, 2) := by decide +kernel
theorem d_LW_law_236 : decode code 236 = .ok (.aload_n 2, 1) := by decide +kernel
theorem d_LW_law_237 : decode code 237 = .ok (.aload_n 0, 1) := by decide +kernel
theorem d_LW_law_238 : decode code 238 = .ok (.iload 4, 2) := by decide +kernel
theorem d_LW_law_240 : decode code 240 = .ok (.iconst 1, 1) := by decide +kernel
theorem d_LW_law_241 : decode code 241 = .ok (.iadd, 1) := by decide +kernel
theorem d_LW_law_242 : decode code 242 = .ok (.iaload, 1) := by decide +kernel
theorem d_LW_law_243 : decode code 243 = .ok (.invokevirtual 103, 3) := by decide +kernel
theorem d_LW_law_246 : decode code 246 = .ok (.aload_n 2, 1) := by decide +kernel
theorem d_LW_law_247 : decode code 247 = .ok (.invokevirtual 93, 3) := by decide +kernel
theorem d_LW_law_250 : decode code 250 = .ok (.iload 5, 2) := by decide +kernel
theorem d_LW_law_252 : decode code 252 = .ok (.if_icmp .eq 5, 3) := by decide +kernel
theorem d_LW_law_255 : decode code 255 = .ok (.iconst 0, 1) := by decide +kernel
theorem d_LW_law_256 : decode code 256 = .ok (.ireturn, 1) := by decide +kernel
theorem d_LW_law_257 : decode code 257 = .ok (.goto 1047, 3) := by decide +kernel
theorem d_LW_law_260 : decode code 260 = .ok (.aload_n 1, 1) := by decide +kernel
theorem d_LW_law_261 : decode code 261 = .ok (.aload_n 0, 1) := by decide +kernel
theorem d_LW_law_262 : decode code 262 = .ok (.iload 4, 2) := by decide +kernel
theorem d_LW_law_264 : decode code 264 = .ok (.iconst 1, 1) := by decide +kernel
theorem d_LW_law_265 : decode code 265 = .ok (.iadd, 1) := by decide +kernel
theorem d_LW_law_266 : decode code 266 = .ok (.iaload, 1) := by decide +kernel
theorem d_LW_law_267 : decode code 267 = .ok (.aload_n 0, 1) := by decide +kernel
theorem d_LW_law_268 : decode code 268 = .ok (.iload 4, 2) := by decide +kernel
theorem d_LW_law_270 : decode code 270 = .ok (.iconst 2, 1) := by decide +kernel
theorem d_LW_law_271 : decode code 271 = .ok (.iadd, 1) := by decide +kernel
theorem d_LW_law_272 : decode code 272 = .ok (.iaload, 1) := by decide +kernel
theorem d_LW_law_273 : decode code 273 = .ok (.invokestatic 104, 3) := by decide +kernel
theorem d_LW_law_276 : decode code 276 = .ok (.istore 5, 2) := by decide +kernel
theorem d_LW_law_278 : decode code 278 = .ok (.aload_n 2, 1) := by decide +kernel
theorem d_LW_law_279 : decode code 279 = .ok (.aload_n 0, 1) := by decide +kernel
theorem d_LW_law_280 : decode code 280 = .ok (.iload 4, 2) := by decide +kernel
theorem d_LW_law_282 : decode code 282 = .ok (.iconst 1, 1) := by decide +kernel
theorem d_LW_law_283 : decode code 283 = .ok (.iadd, 1) := by decide +kernel
theorem d_LW_law_284 : decode code 284 = .ok (.iaload, 1) := by decide +kernel
theorem d_LW_law_285 : decode code 285 = .ok (.aload_n 0, 1) := by decide +kernel
theorem d_LW_law_286 : decode code 286 = .ok (.iload 4, 2) := by decide +kernel
theorem d_LW_law_288 : decode code 288 = .ok (.iconst 2, 1) := by decide +kernel
theorem d_LW_law_289 : decode code 289 = .ok (.iadd, 1) := by decide +kernel
theorem d_LW_law_290 : decode code 290 = .ok (.iaload, 1) := by decide +kernel
theorem d_LW_law_291 : decode code 291 = .ok (.invokevirtual 106, 3) := by decide +kernel
theorem d_LW_law_294 : decode code 294 = .ok (.aload_n 2, 1) := by decide +kernel
theorem d_LW_law_295 : decode code 295 = .ok (.invokevirtual 93, 3) := by decide +kernel
theorem d_LW_law_298 : decode code 298 = .ok (.iload 5, 2) := by decide +kernel
theorem d_LW_law_300 : decode code 300 = .ok (.if_icmp .eq 5, 3) := by decide +kernel
theorem d_LW_law_303 : decode code 303 = .ok (.iconst 0, 1) := by decide +kernel
theorem d_LW_law_304 : decode code 304 = .ok (.ireturn, 1) := by decide +kernel
theorem d_LW_law_305 : decode code 305 = .ok (.goto 999, 3) := by decide +kernel
theorem d_LW_law_308 : decode code 308 = .ok (.aload_n 1, 1) := by decide +kernel
theorem d_LW_law_309 : decode code 309 = .ok (.aload_n 0, 1) := by decide +kernel
theorem d_LW_law_310 : decode code 310 = .ok (.iload 4, 2) := by decide +kernel
theorem d_LW_law_312 : decode code 312 = .ok (.iconst 1, 1) := by decide +kernel
theorem d_LW_law_313 : decode code 313 = .ok (.iadd, 1) := by decide +kernel
theorem d_LW_law_314 : decode code 314 = .ok (.iaload, 1) := by decide +kernel
theorem d_LW_law_315 : decode code 315 = .ok (.aload_n 3, 1) := by decide +kernel
theorem d_LW_law_316 : decode code 316 = .ok (.invokestatic 107, 3) := by decide +kernel
theorem d_LW_law_319 : decode code 319 = .ok (.istore 5, 2) := by decide +kernel
theorem d_LW_law_321 : decode code 321 = .ok (.aload_n 2, 1) := by decide +kernel
theorem d_LW_law_322 : decode code 322 = .ok (.aload_n 0, 1) := by decide +kernel
theorem d_LW_law_323 : decode code 323 = .ok (.iload 4, 2) := by decide +kernel
theorem d_LW_law_325 : decode code 325 = .ok (.iconst 1, 1) := by decide +kernel
theorem d_LW_law_326 : decode code 326 = .ok (.iadd, 1) := by decide +kernel
theorem d_LW_law_327 : decode code 327 = .ok (.iaload, 1) := by decide +kernel
theorem d_LW_law_328 : decode code 328 = .ok (.invokevirtual 110, 3) := by decide +kernel
theorem d_LW_law_331 : decode code 331 = .ok (.istore 6, 2) := by decide +kernel
theorem d_LW_law_333 : decode code 333 = .ok (.aload_n 2, 1) := by decide +kernel
theorem d_LW_law_334 : decode code 334 = .ok (.invokevirtual 93, 3) := by decide +kernel
theorem d_LW_law_337 : decode code 337 = .ok (.iload 5, 2) := by decide +kernel
theorem d_LW_law_339 : decode code 339 = .ok (.if_icmp .eq 5, 3) := by decide +kernel
theorem d_LW_law_342 : decode code 342 = .ok (.iconst 0, 1) := by decide +kernel
theorem d_LW_law_343 : decode code 343 = .ok (.ireturn, 1) := by decide +kernel
theorem d_LW_law_344 : decode code 344 = .ok (.iload 5, 2) := by decide +kernel
theorem d_LW_law_346 : decode code 346 = .ok (.ifCond .ne 15, 3) := by decide +kernel
theorem d_LW_law_349 : decode code 349 = .ok (.aload_n 3, 1) := by decide +kernel
theorem d_LW_law_350 : decode code 350 = .ok (.iconst 0, 1) := by decide +kernel
theorem d_LW_law_351 : decode code 351 = .ok (.laload, 1) := by decide +kernel
theorem d_LW_law_352 : decode code 352 = .ok (.iload 6, 2) := by decide +kernel
theorem d_LW_law_354 : decode code 354 = .ok (.i2l, 1) := by decide +kernel
theorem d_LW_law_355 : decode code 355 = .ok (.lcmp, 1) := by decide +kernel
theorem d_LW_law_356 : decode code 356 = .ok (.ifCond .eq 5, 3) := by decide +kernel
theorem d_LW_law_359 : decode code 359 = .ok (.iconst 0, 1) := by decide +kernel
theorem d_LW_law_360 : decode code 360 = .ok (.ireturn, 1) := by decide +kernel
theorem d_LW_law_361 : decode code 361 = .ok (.goto 943, 3) := by decide +kernel
theorem d_LW_law_364 : decode code 364 = .ok (.aload_n 1, 1) := by decide +kernel
theorem d_LW_law_365 : decode code 365 = .ok (.aload_n 0, 1) := by decide +kernel
theorem d_LW_law_366 : decode code 366 = .ok (.iload 4, 2) := by decide +kernel
theorem d_LW_law_368 : decode code 368 = .ok (.iconst 1, 1) := by decide +kernel
theorem d_LW_law_369 : decode code 369 = .ok (.iadd, 1) := by decide +kernel
theorem d_LW_law_370 : decode code 370 = .ok (.iaload, 1) := by decide +kernel
theorem d_LW_law_371 : decode code 371 = .ok (.aload_n 0, 1) := by decide +kernel
theorem d_LW_law_372 : decode code 372 = .ok (.iload 4, 2) := by decide +kernel
theorem d_LW_law_374 : decode code 374 = .ok (.iconst 2, 1) := by decide +kernel
theorem d_LW_law_375 : decode code 375 = .ok (.iadd, 1) := by decide +kernel
theorem d_LW_law_376 : decode code 376 = .ok (.iaload, 1) := by decide +kernel
theorem d_LW_law_377 : decode code 377 = .ok (.aload_n 0, 1) := by decide +kernel
theorem d_LW_law_378 : decode code 378 = .ok (.iload 4, 2) := by decide +kernel
theorem d_LW_law_380 : decode code 380 = .ok (.iconst 3, 1) := by decide +kernel
theorem d_LW_law_381 : decode code 381 = .ok (.iadd, 1) := by decide +kernel
theorem d_LW_law_382 : decode code 382 = .ok (.iaload, 1) := by decide +kernel
theorem d_LW_law_383 : decode code 383 = .ok (.aload_n 3, 1) := by decide +kernel
theorem d_LW_law_384 : decode code 384 = .ok (.invokestatic 111, 3) := by decide +kernel
theorem d_LW_law_387 : decode code 387 = .ok (.istore 5, 2) := by decide +kernel
theorem d_LW_law_389 : decode code 389 = .ok (.aload_n 2, 1) := by decide +kernel
theorem d_LW_law_390 : decode code 390 = .ok (.aload_n 0, 1) := by decide +kernel
theorem d_LW_law_391 : decode code 391 = .ok (.iload 4, 2) := by decide +kernel
theorem d_LW_law_393 : decode code 393 = .ok (.iconst 1, 1) := by decide +kernel
theorem d_LW_law_394 : decode code 394 = .ok (.iadd, 1) := by decide +kernel
theorem d_LW_law_395 : decode code 395 = .ok (.iaload, 1) := by decide +kernel
theorem d_LW_law_396 : decode code 396 = .ok (.aload_n 0, 1) := by decide +kernel
theorem d_LW_law_397 : decode code 397 = .ok (.iload 4, 2) := by decide +kernel
theorem d_LW_law_399 : decode code 399 = .ok (.iconst 2, 1) := by decide +kernel
theorem d_LW_law_400 : decode code 400 = .ok (.iadd, 1) := by decide +kernel
