theorem dX7_river_140 : decode cX7_river 140 = .ok (.getfield 85, 3) := by decide +kernel
theorem dX7_river_143 : decode cX7_river 143 = .ok (.isub, 1) := by decide +kernel
theorem dX7_river_144 : decode cX7_river 144 = .ok (.ireturn, 1) := by decide +kernel
theorem dX7_river_145 : decode cX7_river 145 = .ok (.aload_n 0, 1) := by decide +kernel
theorem dX7_river_146 : decode cX7_river 146 = .ok (.aload_n 0, 1) := by decide +kernel
theorem dX7_river_147 : decode cX7_river 147 = .ok (.getfield 111, 3) := by decide +kernel
theorem dX7_river_150 : decode cX7_river 150 = .ok (.ifCond .ne 7, 3) := by decide +kernel
theorem dX7_river_153 : decode cX7_river 153 = .ok (.iconst 0, 1) := by decide +kernel
theorem dX7_river_154 : decode cX7_river 154 = .ok (.goto 9, 3) := by decide +kernel
theorem dX7_river_157 : decode cX7_river 157 = .ok (.aload_n 0, 1) := by decide +kernel
theorem dX7_river_158 : decode cX7_river 158 = .ok (.getfield 111, 3) := by decide +kernel
theorem dX7_river_161 : decode cX7_river 161 = .ok (.iconst 1, 1) := by decide +kernel
theorem dX7_river_162 : decode cX7_river 162 = .ok (.iadd, 1) := by decide +kernel
theorem dX7_river_163 : decode cX7_river 163 = .ok (.putfield 161, 3) := by decide +kernel
theorem dX7_river_166 : decode cX7_river 166 = .ok (.iconst 0, 1) := by decide +kernel
theorem dX7_river_167 : decode cX7_river 167 = .ok (.istore_n 1, 1) := by decide +kernel
theorem dX7_river_168 : decode cX7_river 168 = .ok (.iload_n 1, 1) := by decide +kernel
theorem dX7_river_169 : decode cX7_river 169 = .ok (.bipush 24, 2) := by decide +kernel
theorem dX7_river_171 : decode cX7_river 171 = .ok (.if_icmp .ge 39, 3) := by decide +kernel
theorem dX7_river_174 : decode cX7_river 174 = .ok (.aload_n 0, 1) := by decide +kernel
theorem dX7_river_175 : decode cX7_river 175 = .ok (.getfield 26, 3) := by decide +kernel
theorem dX7_river_178 : decode cX7_river 178 = .ok (.iload_n 1, 1) := by decide +kernel
theorem dX7_river_179 : decode cX7_river 179 = .ok (.aload_n 0, 1) := by decide +kernel
theorem dX7_river_180 : decode cX7_river 180 = .ok (.getfield 26, 3) := by decide +kernel
theorem dX7_river_183 : decode cX7_river 183 = .ok (.bipush 24, 2) := by decide +kernel
theorem dX7_river_185 : decode cX7_river 185 = .ok (.iload_n 1, 1) := by decide +kernel
theorem dX7_river_186 : decode cX7_river 186 = .ok (.iadd, 1) := by decide +kernel
theorem dX7_river_187 : decode cX7_river 187 = .ok (.iaload, 1) := by decide +kernel
theorem dX7_river_188 : decode cX7_river 188 = .ok (.iastore, 1) := by decide +kernel
theorem dX7_river_189 : decode cX7_river 189 = .ok (.aload_n 0, 1) := by decide +kernel
theorem dX7_river_190 : decode cX7_river 190 = .ok (.getfield 29, 3) := by decide +kernel
theorem dX7_river_193 : decode cX7_river 193 = .ok (.iload_n 1, 1) := by decide +kernel
theorem dX7_river_194 : decode cX7_river 194 = .ok (.aload_n 0, 1) := by decide +kernel
theorem dX7_river_195 : decode cX7_river 195 = .ok (.getfield 29, 3) := by decide +kernel
theorem dX7_river_198 : decode cX7_river 198 = .ok (.bipush 24, 2) := by decide +kernel
theorem dX7_river_200 : decode cX7_river 200 = .ok (.iload_n 1, 1) := by decide +kernel
theorem dX7_river_201 : decode cX7_river 201 = .ok (.iadd, 1) := by decide +kernel
theorem dX7_river_202 : decode cX7_river 202 = .ok (.iaload, 1) := by decide +kernel
theorem dX7_river_203 : decode cX7_river 203 = .ok (.iastore, 1) := by decide +kernel
theorem dX7_river_204 : decode cX7_river 204 = .ok (.iinc 1 1, 3) := by decide +kernel
theorem dX7_river_207 : decode cX7_river 207 = .ok (.goto (-39), 3) := by decide +kernel
theorem dX7_river_210 : decode cX7_river 210 = .ok (.aload_n 0, 1) := by decide +kernel
theorem dX7_river_211 : decode cX7_river 211 = .ok (.getfield 7, 3) := by decide +kernel
theorem dX7_river_214 : decode cX7_river 214 = .ok (.bipush 52, 2) := by decide +kernel
theorem dX7_river_216 : decode cX7_river 216 = .ok (.iaload, 1) := by decide +kernel
theorem dX7_river_217 : decode cX7_river 217 = .ok (.istore_n 1, 1) := by decide +kernel
theorem dX7_river_218 : decode cX7_river 218 = .ok (.iconst 0, 1) := by decide +kernel
theorem dX7_river_219 : decode cX7_river 219 = .ok (.istore_n 2, 1) := by decide +kernel
theorem dX7_river_220 : decode cX7_river 220 = .ok (.iload_n 2, 1) := by decide +kernel
theorem dX7_river_221 : decode cX7_river 221 = .ok (.sipush 200, 3) := by decide +kernel
theorem dX7_river_224 : decode cX7_river 224 = .ok (.if_icmp .ge 16, 3) := by decide +kernel
theorem dX7_river_227 : decode cX7_river 227 = .ok (.aload_n 0, 1) := by decide +kernel
theorem dX7_river_228 : decode cX7_river 228 = .ok (.getfield 7, 3) := by decide +kernel
theorem dX7_river_231 : decode cX7_river 231 = .ok (.iload_n 2, 1) := by decide +kernel
theorem dX7_river_232 : decode cX7_river 232 = .ok (.iconst 0, 1) := by decide +kernel
theorem dX7_river_233 : decode cX7_river 233 = .ok (.iastore, 1) := by decide +kernel
theorem dX7_river_234 : decode cX7_river 234 = .ok (.iinc 2 1, 3) := by decide +kernel
theorem dX7_river_237 : decode cX7_river 237 = .ok (.goto (-17), 3) := by decide +kernel
theorem dX7_river_240 : decode cX7_river 240 = .ok (.aload_n 0, 1) := by decide +kernel
theorem dX7_river_241 : decode cX7_river 241 = .ok (.getfield 7, 3) := by decide +kernel
theorem dX7_river_244 : decode cX7_river 244 = .ok (.bipush 52, 2) := by decide +kernel
theorem dX7_river_246 : decode cX7_river 246 = .ok (.iload_n 1, 1) := by decide +kernel
theorem dX7_river_247 : decode cX7_river 247 = .ok (.iastore, 1) := by decide +kernel
theorem dX7_river_248 : decode cX7_river 248 = .ok (.iconst 0, 1) := by decide +kernel
theorem dX7_river_249 : decode cX7_river 249 = .ok (.istore_n 2, 1) := by decide +kernel
theorem dX7_river_250 : decode cX7_river 250 = .ok (.iload_n 2, 1) := by decide +kernel
theorem dX7_river_251 : decode cX7_river 251 = .ok (.bipush 10, 2) := by decide +kernel
theorem dX7_river_253 : decode cX7_river 253 = .ok (.if_icmp .ge 125, 3) := by decide +kernel
theorem dX7_river_256 : decode cX7_river 256 = .ok (.iload_n 2, 1) := by decide +kernel
theorem dX7_river_257 : decode cX7_river 257 = .ok (.aload_n 0, 1) := by decide +kernel
theorem dX7_river_258 : decode cX7_river 258 = .ok (.getfield 111, 3) := by decide +kernel
theorem dX7_river_261 : decode cX7_river 261 = .ok (.if_icmp .ge 7, 3) := by decide +kernel
theorem dX7_river_264 : decode cX7_river 264 = .ok (.iconst 1, 1) := by decide +kernel
theorem dX7_river_265 : decode cX7_river 265 = .ok (.goto 4, 3) := by decide +kernel
theorem dX7_river_268 : decode cX7_river 268 = .ok (.iconst 0, 1) := by decide +kernel
theorem dX7_river_269 : decode cX7_river 269 = .ok (.istore_n 3, 1) := by decide +kernel
theorem dX7_river_270 : decode cX7_river 270 = .ok (.aload_n 0, 1) := by decide +kernel
theorem dX7_river_271 : decode cX7_river 271 = .ok (.getfield 17, 3) := by decide +kernel
theorem dX7_river_274 : decode cX7_river 274 = .ok (.iload_n 2, 1) := by decide +kernel
theorem dX7_river_275 : decode cX7_river 275 = .ok (.iload_n 3, 1) := by decide +kernel
theorem dX7_river_276 : decode cX7_river 276 = .ok (.ifCond .eq 15, 3) := by decide +kernel
theorem dX7_river_279 : decode cX7_river 279 = .ok (.aload_n 0, 1) := by decide +kernel
theorem dX7_river_280 : decode cX7_river 280 = .ok (.getfield 17, 3) := by decide +kernel
theorem dX7_river_283 : decode cX7_river 283 = .ok (.bipush 10, 2) := by decide +kernel
theorem dX7_river_285 : decode cX7_river 285 = .ok (.iload_n 2, 1) := by decide +kernel
theorem dX7_river_286 : decode cX7_river 286 = .ok (.iadd, 1) := by decide +kernel
theorem dX7_river_287 : decode cX7_river 287 = .ok (.iaload, 1) := by decide +kernel
theorem dX7_river_288 : decode cX7_river 288 = .ok (.goto 4, 3) := by decide +kernel
theorem dX7_river_291 : decode cX7_river 291 = .ok (.iconst 0, 1) := by decide +kernel
theorem dX7_river_292 : decode cX7_river 292 = .ok (.iastore, 1) := by decide +kernel
theorem dX7_river_293 : decode cX7_river 293 = .ok (.aload_n 0, 1) := by decide +kernel
theorem dX7_river_294 : decode cX7_river 294 = .ok (.getfield 20, 3) := by decide +kernel
theorem dX7_river_297 : decode cX7_river 297 = .ok (.iload_n 2, 1) := by decide +kernel
theorem dX7_river_298 : decode cX7_river 298 = .ok (.iload_n 3, 1) := by decide +kernel
theorem dX7_river_299 : decode cX7_river 299 = .ok (.ifCond .eq 15, 3) := by decide +kernel
theorem dX7_river_302 : decode cX7_river 302 = .ok (.aload_n 0, 1) := by decide +kernel
theorem dX7_river_303 : decode cX7_river 303 = .ok (.getfield 20, 3) := by decide +kernel
theorem dX7_river_306 : decode cX7_river 306 = .ok (.bipush 10, 2) := by decide +kernel
theorem dX7_river_308 : decode cX7_river 308 = .ok (.iload_n 2, 1) := by decide +kernel
theorem dX7_river_309 : decode cX7_river 309 = .ok (.iadd, 1) := by decide +kernel
theorem dX7_river_310 : decode cX7_river 310 = .ok (.iaload, 1) := by decide +kernel
theorem dX7_river_311 : decode cX7_river 311 = .ok (.goto 4, 3) := by decide +kernel
theorem dX7_river_314 : decode cX7_river 314 = .ok (.iconst 0, 1) := by decide +kernel
theorem dX7_river_315 : decode cX7_river 315 = .ok (.iastore, 1) := by decide +kernel
theorem dX7_river_316 : decode cX7_river 316 = .ok (.aload_n 0, 1) := by decide +kernel
theorem dX7_river_317 : decode cX7_river 317 = .ok (.getfield 7, 3) := by decide +kernel
theorem dX7_river_320 : decode cX7_river 320 = .ok (.iload_n 2, 1) := by decide +kernel
theorem dX7_river_321 : decode cX7_river 321 = .ok (.iload_n 3, 1) := by decide +kernel
theorem dX7_river_322 : decode cX7_river 322 = .ok (.ifCond .eq 15, 3) := by decide +kernel
theorem dX7_river_325 : decode cX7_river 325 = .ok (.aload_n 0, 1) := by decide +kernel
theorem dX7_river_326 : decode cX7_river 326 = .ok (.getfield 23, 3) := by decide +kernel
theorem dX7_river_329 : decode cX7_river 329 = .ok (.bipush 10, 2) := by decide +kernel
theorem dX7_river_331 : decode cX7_river 331 = .ok (.iload_n 2, 1) := by decide +kernel
theorem dX7_river_332 : decode cX7_river 332 = .ok (.iadd, 1) := by decide +kernel
theorem dX7_river_333 : decode cX7_river 333 = .ok (.iaload, 1) := by decide +kernel
theorem dX7_river_334 : decode cX7_river 334 = .ok (.goto 4, 3) := by decide +kernel
theorem dX7_river_337 : decode cX7_river 337 = .ok (.iconst 0, 1) := by decide +kernel
theorem dX7_river_338 : decode cX7_river 338 = .ok (.iastore, 1) := by decide +kernel
theorem dX7_river_339 : decode cX7_river 339 = .ok (.aload_n 0, 1) := by decide +kernel
theorem dX7_river_340 : decode cX7_river 340 = .ok (.getfield 35, 3) := by decide +kernel
theorem dX7_river_343 : decode cX7_river 343 = .ok (.iload_n 2, 1) := by decide +kernel
theorem dX7_river_344 : decode cX7_river 344 = .ok (.aload_n 0, 1) := by decide +kernel
theorem dX7_river_345 : decode cX7_river 345 = .ok (.getfield 35, 3) := by decide +kernel
theorem dX7_river_348 : decode cX7_river 348 = .ok (.bipush 10, 2) := by decide +kernel
theorem dX7_river_350 : decode cX7_river 350 = .ok (.iload_n 2, 1) := by decide +kernel
theorem dX7_river_351 : decode cX7_river 351 = .ok (.iadd, 1) := by decide +kernel
theorem dX7_river_352 : decode cX7_river 352 = .ok (.iaload, 1) := by decide +kernel
theorem dX7_river_353 : decode cX7_river 353 = .ok (.iastore, 1) := by decide +kernel
theorem dX7_river_354 : decode cX7_river 354 = .ok (.aload_n 0, 1) := by decide +kernel
theorem dX7_river_355 : decode cX7_river 355 = .ok (.getfield 7, 3) := by decide +kernel
theorem dX7_river_358 : decode cX7_river 358 = .ok (.bipush 10, 2) := by decide +kernel
theorem dX7_river_360 : decode cX7_river 360 = .ok (.iload_n 2, 1) := by decide +kernel
theorem dX7_river_361 : decode cX7_river 361 = .ok (.iadd, 1) := by decide +kernel
theorem dX7_river_362 : decode cX7_river 362 = .ok (.aload_n 0, 1) := by decide +kernel
theorem dX7_river_363 : decode cX7_river 363 = .ok (.getfield 32, 3) := by decide +kernel
theorem dX7_river_366 : decode cX7_river 366 = .ok (.bipush 10, 2) := by decide +kernel
theorem dX7_river_368 : decode cX7_river 368 = .ok (.iload_n 2, 1) := by decide +kernel
theorem dX7_river_369 : decode cX7_river 369 = .ok (.iadd, 1) := by decide +kernel
theorem dX7_river_370 : decode cX7_river 370 = .ok (.iaload, 1) := by decide +kernel
theorem dX7_river_371 : decode cX7_river 371 = .ok (.iastore, 1) := by decide +kernel
theorem dX7_river_372 : decode cX7_river 372 = .ok (.iinc 2 1, 3) := by decide +kernel
theorem dX7_river_375 : decode cX7_river 375 = .ok (.goto (-125), 3) := by decide +kernel
theorem dX7_river_378 : decode cX7_river 378 = .ok (.aload_n 0, 1) := by decide +kernel
theorem dX7_river_379 : decode cX7_river 379 = .ok (.iconst 0, 1) := by decide +kernel
theorem dX7_river_380 : decode cX7_river 380 = .ok (.putfield 164, 3) := by decide +kernel
theorem dX7_river_383 : decode cX7_river 383 = .ok (.aload_n 0, 1) := by decide +kernel
theorem dX7_river_384 : decode cX7_river 384 = .ok (.iconst 0, 1) := by decide +kernel
theorem dX7_river_385 : decode cX7_river 385 = .ok (.putfield 167, 3) := by decide +kernel
theorem dX7_river_388 : decode cX7_river 388 = .ok (.aload_n 0, 1) := by decide +kernel
theorem dX7_river_389 : decode cX7_river 389 = .ok (.getfield 13, 3) := by decide +kernel
theorem dX7_river_392 : decode cX7_river 392 = .ok (.iconst 0, 1) := by decide +kernel
theorem dX7_river_393 : decode cX7_river 393 = .ok (.iconst 0, 1) := by decide +kernel
theorem dX7_river_394 : decode cX7_river 394 = .ok (.bastore, 1) := by decide +kernel
theorem dX7_river_395 : decode cX7_river 395 = .ok (.aload_n 0, 1) := by decide +kernel
theorem dX7_river_396 : decode cX7_river 396 = .ok (.getfield 13, 3) := by decide +kernel
theorem dX7_river_399 : decode cX7_river 399 = .ok (.iconst 1, 1) := by decide +kernel
theorem dX7_river_400 : decode cX7_river 400 = .ok (.iconst 0, 1) := by decide +kernel
theorem dX7_river_401 : decode cX7_river 401 = .ok (.bastore, 1) := by decide +kernel
theorem dX7_river_402 : decode cX7_river 402 = .ok (.aload_n 0, 1) := by decide +kernel
theorem dX7_river_403 : decode cX7_river 403 = .ok (.getfield 161, 3) := by decide +kernel
theorem dX7_river_406 : decode cX7_river 406 = .ok (.ireturn, 1) := by decide +kernel
theorem dX7_plan_0 : decode cX7_plan 0 = .ok (.aload_n 0, 1) := by decide +kernel
theorem dX7_plan_1 : decode cX7_plan 1 = .ok (.getfield 161, 3) := by decide +kernel
theorem dX7_plan_4 : decode cX7_plan 4 = .ok (.ifCond .ne 6, 3) := by decide +kernel
theorem dX7_plan_7 : decode cX7_plan 7 = .ok (.ldc 170, 2) := by decide +kernel
theorem dX7_plan_9 : decode cX7_plan 9 = .ok (.ireturn, 1) := by decide +kernel
theorem dX7_plan_10 : decode cX7_plan 10 = .ok (.aload_n 0, 1) := by decide +kernel
theorem dX7_plan_11 : decode cX7_plan 11 = .ok (.invokevirtual 155, 3) := by decide +kernel
theorem dX7_plan_14 : decode cX7_plan 14 = .ok (.aload_n 0, 1) := by decide +kernel
theorem dX7_plan_15 : decode cX7_plan 15 = .ok (.iconst 0, 1) := by decide +kernel
theorem dX7_plan_16 : decode cX7_plan 16 = .ok (.putfield 171, 3) := by decide +kernel
theorem dX7_plan_19 : decode cX7_plan 19 = .ok (.aload_n 0, 1) := by decide +kernel
theorem dX7_plan_20 : decode cX7_plan 20 = .ok (.getfield 85, 3) := by decide +kernel
theorem dX7_plan_23 : decode cX7_plan 23 = .ok (.ifCond .ne 180, 3) := by decide +kernel
theorem dX7_plan_26 : decode cX7_plan 26 = .ok (.aload_n 0, 1) := by decide +kernel
theorem dX7_plan_27 : decode cX7_plan 27 = .ok (.invokevirtual 88, 3) := by decide +kernel
theorem dX7_plan_30 : decode cX7_plan 30 = .ok (.ifCond .lt 173, 3) := by decide +kernel
theorem dX7_plan_33 : decode cX7_plan 33 = .ok (.aload_n 0, 1) := by decide +kernel
theorem dX7_plan_34 : decode cX7_plan 34 = .ok (.invokevirtual 132, 3) := by decide +kernel
theorem dX7_plan_37 : decode cX7_plan 37 = .ok (.aload_n 0, 1) := by decide +kernel
theorem dX7_plan_38 : decode cX7_plan 38 = .ok (.aload_n 0, 1) := by decide +kernel
theorem dX7_plan_39 : decode cX7_plan 39 = .ok (.iconst 2, 1) := by decide +kernel
theorem dX7_plan_40 : decode cX7_plan 40 = .ok (.bipush 97, 2) := by decide +kernel
theorem dX7_plan_42 : decode cX7_plan 42 = .ok (.bipush 116, 2) := by decide +kernel
theorem dX7_plan_44 : decode cX7_plan 44 = .ok (.iconst 0, 1) := by decide +kernel
theorem dX7_plan_45 : decode cX7_plan 45 = .ok (.iconst 0, 1) := by decide +kernel
theorem dX7_plan_46 : decode cX7_plan 46 = .ok (.invokevirtual 135, 3) := by decide +kernel
theorem dX7_plan_49 : decode cX7_plan 49 = .ok (.iconst 1, 1) := by decide +kernel
theorem dX7_plan_50 : decode cX7_plan 50 = .ok (.aload_n 0, 1) := by decide +kernel
theorem dX7_plan_51 : decode cX7_plan 51 = .ok (.getfield 92, 3) := by decide +kernel
theorem dX7_plan_54 : decode cX7_plan 54 = .ok (.invokevirtual 106, 3) := by decide +kernel
theorem dX7_plan_57 : decode cX7_plan 57 = .ok (.ifCond .eq 139, 3) := by decide +kernel
theorem dX7_plan_60 : decode cX7_plan 60 = .ok (.aload_n 0, 1) := by decide +kernel
theorem dX7_plan_61 : decode cX7_plan 61 = .ok (.aload_n 0, 1) := by decide +kernel
theorem dX7_plan_62 : decode cX7_plan 62 = .ok (.getfield 171, 3) := by decide +kernel
theorem dX7_plan_65 : decode cX7_plan 65 = .ok (.bipush 30, 2) := by decide +kernel
theorem dX7_plan_67 : decode cX7_plan 67 = .ok (.if_icmp .ge 7, 3) := by decide +kernel
theorem dX7_plan_70 : decode cX7_plan 70 = .ok (.iconst 1, 1) := by decide +kernel
theorem dX7_plan_71 : decode cX7_plan 71 = .ok (.goto 4, 3) := by decide +kernel
theorem dX7_plan_74 : decode cX7_plan 74 = .ok (.iconst 0, 1) := by decide +kernel
theorem dX7_plan_75 : decode cX7_plan 75 = .ok (.iconst 3, 1) := by decide +kernel
theorem dX7_plan_76 : decode cX7_plan 76 = .ok (.aload_n 0, 1) := by decide +kernel
theorem dX7_plan_77 : decode cX7_plan 77 = .ok (.getfield 92, 3) := by decide +kernel
theorem dX7_plan_80 : decode cX7_plan 80 = .ok (.invokevirtual 106, 3) := by decide +kernel
theorem dX7_plan_83 : decode cX7_plan 83 = .ok (.ifCond .eq 113, 3) := by decide +kernel
theorem dX7_plan_86 : decode cX7_plan 86 = .ok (.bipush 30, 2) := by decide +kernel
theorem dX7_plan_88 : decode cX7_plan 88 = .ok (.aload_n 0, 1) := by decide +kernel
theorem dX7_plan_89 : decode cX7_plan 89 = .ok (.getfield 171, 3) := by decide +kernel
theorem dX7_plan_92 : decode cX7_plan 92 = .ok (.iadd, 1) := by decide +kernel
theorem dX7_plan_93 : decode cX7_plan 93 = .ok (.istore_n 1, 1) := by decide +kernel
theorem dX7_plan_94 : decode cX7_plan 94 = .ok (.aload_n 0, 1) := by decide +kernel
theorem dX7_plan_95 : decode cX7_plan 95 = .ok (.getfield 38, 3) := by decide +kernel
theorem dX7_plan_98 : decode cX7_plan 98 = .ok (.iload_n 1, 1) := by decide +kernel
theorem dX7_plan_99 : decode cX7_plan 99 = .ok (.aload_n 0, 1) := by decide +kernel
theorem dX7_plan_100 : decode cX7_plan 100 = .ok (.iconst 0, 1) := by decide +kernel
theorem dX7_plan_101 : decode cX7_plan 101 = .ok (.sipush 999, 3) := by decide +kernel
theorem dX7_plan_104 : decode cX7_plan 104 = .ok (.invokevirtual 114, 3) := by decide +kernel
theorem dX7_plan_107 : decode cX7_plan 107 = .ok (.iastore, 1) := by decide +kernel
theorem dX7_plan_108 : decode cX7_plan 108 = .ok (.aload_n 0, 1) := by decide +kernel
theorem dX7_plan_109 : decode cX7_plan 109 = .ok (.getfield 85, 3) := by decide +kernel
theorem dX7_plan_112 : decode cX7_plan 112 = .ok (.ifCond .ne 84, 3) := by decide +kernel
theorem dX7_plan_115 : decode cX7_plan 115 = .ok (.aload_n 0, 1) := by decide +kernel
theorem dX7_plan_116 : decode cX7_plan 116 = .ok (.aload_n 0, 1) := by decide +kernel
theorem dX7_plan_117 : decode cX7_plan 117 = .ok (.getfield 171, 3) := by decide +kernel
theorem dX7_plan_120 : decode cX7_plan 120 = .ok (.ifCond .eq 20, 3) := by decide +kernel
theorem dX7_plan_123 : decode cX7_plan 123 = .ok (.aload_n 0, 1) := by decide +kernel
theorem dX7_plan_124 : decode cX7_plan 124 = .ok (.getfield 38, 3) := by decide +kernel
theorem dX7_plan_127 : decode cX7_plan 127 = .ok (.iload_n 1, 1) := by decide +kernel
theorem dX7_plan_128 : decode cX7_plan 128 = .ok (.iaload, 1) := by decide +kernel
theorem dX7_plan_129 : decode cX7_plan 129 = .ok (.aload_n 0, 1) := by decide +kernel
theorem dX7_plan_130 : decode cX7_plan 130 = .ok (.getfield 38, 3) := by decide +kernel
theorem dX7_plan_133 : decode cX7_plan 133 = .ok (.iload_n 1, 1) := by decide +kernel
theorem dX7_plan_134 : decode cX7_plan 134 = .ok (.iconst 1, 1) := by decide +kernel
theorem dX7_plan_135 : decode cX7_plan 135 = .ok (.isub, 1) := by decide +kernel
theorem dX7_plan_136 : decode cX7_plan 136 = .ok (.iaload, 1) := by decide +kernel
theorem dX7_plan_137 : decode cX7_plan 137 = .ok (.if_icmp .lt 7, 3) := by decide +kernel
theorem dX7_plan_140 : decode cX7_plan 140 = .ok (.iconst 1, 1) := by decide +kernel
theorem dX7_plan_141 : decode cX7_plan 141 = .ok (.goto 4, 3) := by decide +kernel
theorem dX7_plan_144 : decode cX7_plan 144 = .ok (.iconst 0, 1) := by decide +kernel
theorem dX7_plan_145 : decode cX7_plan 145 = .ok (.iconst 4, 1) := by decide +kernel
theorem dX7_plan_146 : decode cX7_plan 146 = .ok (.aload_n 0, 1) := by decide +kernel
theorem dX7_plan_147 : decode cX7_plan 147 = .ok (.getfield 92, 3) := by decide +kernel
theorem dX7_plan_150 : decode cX7_plan 150 = .ok (.invokevirtual 106, 3) := by decide +kernel
theorem dX7_plan_153 : decode cX7_plan 153 = .ok (.ifCond .eq 43, 3) := by decide +kernel
theorem dX7_plan_156 : decode cX7_plan 156 = .ok (.aload_n 0, 1) := by decide +kernel
theorem dX7_plan_157 : decode cX7_plan 157 = .ok (.getfield 41, 3) := by decide +kernel
theorem dX7_plan_160 : decode cX7_plan 160 = .ok (.iload_n 1, 1) := by decide +kernel
theorem dX7_plan_161 : decode cX7_plan 161 = .ok (.aload_n 0, 1) := by decide +kernel
theorem dX7_plan_162 : decode cX7_plan 162 = .ok (.iconst 0, 1) := by decide +kernel
theorem dX7_plan_163 : decode cX7_plan 163 = .ok (.aload_n 0, 1) := by decide +kernel
theorem dX7_plan_164 : decode cX7_plan 164 = .ok (.getfield 161, 3) := by decide +kernel
theorem dX7_plan_167 : decode cX7_plan 167 = .ok (.iconst 2, 1) := by decide +kernel
theorem dX7_plan_168 : decode cX7_plan 168 = .ok (.isub, 1) := by decide +kernel
theorem dX7_plan_169 : decode cX7_plan 169 = .ok (.invokevirtual 114, 3) := by decide +kernel
theorem dX7_plan_172 : decode cX7_plan 172 = .ok (.iastore, 1) := by decide +kernel
theorem dX7_plan_173 : decode cX7_plan 173 = .ok (.aload_n 0, 1) := by decide +kernel
theorem dX7_plan_174 : decode cX7_plan 174 = .ok (.getfield 44, 3) := by decide +kernel
theorem dX7_plan_177 : decode cX7_plan 177 = .ok (.iload_n 1, 1) := by decide +kernel
theorem dX7_plan_178 : decode cX7_plan 178 = .ok (.aload_n 0, 1) := by decide +kernel
theorem dX7_plan_179 : decode cX7_plan 179 = .ok (.iconst 0, 1) := by decide +kernel
theorem dX7_plan_180 : decode cX7_plan 180 = .ok (.bipush 9, 2) := by decide +kernel
theorem dX7_plan_182 : decode cX7_plan 182 = .ok (.invokevirtual 114, 3) := by decide +kernel
theorem dX7_plan_185 : decode cX7_plan 185 = .ok (.iastore, 1) := by decide +kernel
theorem dX7_plan_186 : decode cX7_plan 186 = .ok (.aload_n 0, 1) := by decide +kernel
theorem dX7_plan_187 : decode cX7_plan 187 = .ok (.dup, 1) := by decide +kernel
theorem dX7_plan_188 : decode cX7_plan 188 = .ok (.getfield 171, 3) := by decide +kernel
theorem dX7_plan_191 : decode cX7_plan 191 = .ok (.iconst 1, 1) := by decide +kernel
theorem dX7_plan_192 : decode cX7_plan 192 = .ok (.iadd, 1) := by decide +kernel
theorem dX7_plan_193 : decode cX7_plan 193 = .ok (.putfield 171, 3) := by decide +kernel
theorem dX7_plan_196 : decode cX7_plan 196 = .ok (.aload_n 0, 1) := by decide +kernel
theorem dX7_plan_197 : decode cX7_plan 197 = .ok (.invokevirtual 152, 3) := by decide +kernel
theorem dX7_plan_200 : decode cX7_plan 200 = .ok (.goto (-181), 3) := by decide +kernel
theorem dX7_plan_203 : decode cX7_plan 203 = .ok (.aload_n 0, 1) := by decide +kernel
theorem dX7_plan_204 : decode cX7_plan 204 = .ok (.iconst 0, 1) := by decide +kernel
theorem dX7_plan_205 : decode cX7_plan 205 = .ok (.putfield 76, 3) := by decide +kernel
theorem dX7_plan_208 : decode cX7_plan 208 = .ok (.aload_n 0, 1) := by decide +kernel
theorem dX7_plan_209 : decode cX7_plan 209 = .ok (.getfield 85, 3) := by decide +kernel
theorem dX7_plan_212 : decode cX7_plan 212 = .ok (.ifCond .le 11, 3) := by decide +kernel
theorem dX7_plan_215 : decode cX7_plan 215 = .ok (.bipush (-10), 2) := by decide +kernel
theorem dX7_plan_217 : decode cX7_plan 217 = .ok (.aload_n 0, 1) := by decide +kernel
theorem dX7_plan_218 : decode cX7_plan 218 = .ok (.getfield 85, 3) := by decide +kernel
theorem dX7_plan_221 : decode cX7_plan 221 = .ok (.isub, 1) := by decide +kernel
theorem dX7_plan_222 : decode cX7_plan 222 = .ok (.ireturn, 1) := by decide +kernel
theorem dX7_plan_223 : decode cX7_plan 223 = .ok (.iconst 0, 1) := by decide +kernel
theorem dX7_plan_224 : decode cX7_plan 224 = .ok (.istore_n 1, 1) := by decide +kernel
theorem dX7_plan_225 : decode cX7_plan 225 = .ok (.iload_n 1, 1) := by decide +kernel
theorem dX7_plan_226 : decode cX7_plan 226 = .ok (.aload_n 0, 1) := by decide +kernel
theorem dX7_plan_227 : decode cX7_plan 227 = .ok (.getfield 171, 3) := by decide +kernel
theorem dX7_plan_230 : decode cX7_plan 230 = .ok (.if_icmp .ge 54, 3) := by decide +kernel
theorem dX7_plan_233 : decode cX7_plan 233 = .ok (.aload_n 0, 1) := by decide +kernel
theorem dX7_plan_234 : decode cX7_plan 234 = .ok (.getfield 38, 3) := by decide +kernel
theorem dX7_plan_237 : decode cX7_plan 237 = .ok (.iload_n 1, 1) := by decide +kernel
theorem dX7_plan_238 : decode cX7_plan 238 = .ok (.aload_n 0, 1) := by decide +kernel
theorem dX7_plan_239 : decode cX7_plan 239 = .ok (.getfield 38, 3) := by decide +kernel
theorem dX7_plan_242 : decode cX7_plan 242 = .ok (.bipush 30, 2) := by decide +kernel
theorem dX7_plan_244 : decode cX7_plan 244 = .ok (.iload_n 1, 1) := by decide +kernel
theorem dX7_plan_245 : decode cX7_plan 245 = .ok (.iadd, 1) := by decide +kernel
theorem dX7_plan_246 : decode cX7_plan 246 = .ok (.iaload, 1) := by decide +kernel
theorem dX7_plan_247 : decode cX7_plan 247 = .ok (.iastore, 1) := by decide +kernel
theorem dX7_plan_248 : decode cX7_plan 248 = .ok (.aload_n 0, 1) := by decide +kernel
theorem dX7_plan_249 : decode cX7_plan 249 = .ok (.getfield 41, 3) := by decide +kernel
theorem dX7_plan_252 : decode cX7_plan 252 = .ok (.iload_n 1, 1) := by decide +kernel
theorem dX7_plan_253 : decode cX7_plan 253 = .ok (.aload_n 0, 1) := by decide +kernel
theorem dX7_plan_254 : decode cX7_plan 254 = .ok (.getfield 41, 3) := by decide +kernel
theorem dX7_plan_257 : decode cX7_plan 257 = .ok (.bipush 30, 2) := by decide +kernel
theorem dX7_plan_259 : decode cX7_plan 259 = .ok (.iload_n 1, 1) := by decide +kernel
theorem dX7_plan_260 : decode cX7_plan 260 = .ok (.iadd, 1) := by decide +kernel
theorem dX7_plan_261 : decode cX7_plan 261 = .ok (.iaload, 1) := by decide +kernel
theorem dX7_plan_262 : decode cX7_plan 262 = .ok (.iastore, 1) := by decide +kernel
theorem dX7_plan_263 : decode cX7_plan 263 = .ok (.aload_n 0, 1) := by decide +kernel
theorem dX7_plan_264 : decode cX7_plan 264 = .ok (.getfield 44, 3) := by decide +kernel
theorem dX7_plan_267 : decode cX7_plan 267 = .ok (.iload_n 1, 1) := by decide +kernel
theorem dX7_plan_268 : decode cX7_plan 268 = .ok (.aload_n 0, 1) := by decide +kernel
theorem dX7_plan_269 : decode cX7_plan 269 = .ok (.getfield 44, 3) := by decide +kernel
theorem dX7_plan_272 : decode cX7_plan 272 = .ok (.bipush 30, 2) := by decide +kernel
theorem dX7_plan_274 : decode cX7_plan 274 = .ok (.iload_n 1, 1) := by decide +kernel
theorem dX7_plan_275 : decode cX7_plan 275 = .ok (.iadd, 1) := by decide +kernel
theorem dX7_plan_276 : decode cX7_plan 276 = .ok (.iaload, 1) := by decide +kernel
theorem dX7_plan_277 : decode cX7_plan 277 = .ok (.iastore, 1) := by decide +kernel
theorem dX7_plan_278 : decode cX7_plan 278 = .ok (.iinc 1 1, 3) := by decide +kernel
theorem dX7_plan_281 : decode cX7_plan 281 = .ok (.goto (-56), 3) := by decide +kernel
theorem dX7_plan_284 : decode cX7_plan 284 = .ok (.aload_n 0, 1) := by decide +kernel
theorem dX7_plan_285 : decode cX7_plan 285 = .ok (.aload_n 0, 1) := by decide +kernel
theorem dX7_plan_286 : decode cX7_plan 286 = .ok (.getfield 171, 3) := by decide +kernel
theorem dX7_plan_289 : decode cX7_plan 289 = .ok (.putfield 164, 3) := by decide +kernel
theorem dX7_plan_292 : decode cX7_plan 292 = .ok (.aload_n 0, 1) := by decide +kernel
theorem dX7_plan_293 : decode cX7_plan 293 = .ok (.getfield 164, 3) := by decide +kernel
theorem dX7_plan_296 : decode cX7_plan 296 = .ok (.ireturn, 1) := by decide +kernel
theorem dX7_fault_0 : decode cX7_fault 0 = .ok (.aload_n 0, 1) := by decide +kernel
theorem dX7_fault_1 : decode cX7_fault 1 = .ok (.getfield 50, 3) := by decide +kernel
theorem dX7_fault_4 : decode cX7_fault 4 = .ok (.ireturn, 1) := by decide +kernel
theorem dX7_copy_0 : decode cX7_copy 0 = .ok (.iconst 0, 1) := by decide +kernel
theorem dX7_copy_1 : decode cX7_copy 1 = .ok (.istore_n 3, 1) := by decide +kernel
theorem dX7_copy_2 : decode cX7_copy 2 = .ok (.iload_n 3, 1) := by decide +kernel
theorem dX7_copy_3 : decode cX7_copy 3 = .ok (.sipush 200, 3) := by decide +kernel
theorem dX7_copy_6 : decode cX7_copy 6 = .ok (.if_icmp .ge 25, 3) := by decide +kernel
theorem dX7_copy_9 : decode cX7_copy 9 = .ok (.aload_n 0, 1) := by decide +kernel
theorem dX7_copy_10 : decode cX7_copy 10 = .ok (.getfield 7, 3) := by decide +kernel
theorem dX7_copy_13 : decode cX7_copy 13 = .ok (.iload_n 2, 1) := by decide +kernel
theorem dX7_copy_14 : decode cX7_copy 14 = .ok (.iload_n 3, 1) := by decide +kernel
theorem dX7_copy_15 : decode cX7_copy 15 = .ok (.iadd, 1) := by decide +kernel
theorem dX7_copy_16 : decode cX7_copy 16 = .ok (.aload_n 0, 1) := by decide +kernel
theorem dX7_copy_17 : decode cX7_copy 17 = .ok (.getfield 7, 3) := by decide +kernel
theorem dX7_copy_20 : decode cX7_copy 20 = .ok (.iload_n 1, 1) := by decide +kernel
theorem dX7_copy_21 : decode cX7_copy 21 = .ok (.iload_n 3, 1) := by decide +kernel
theorem dX7_copy_22 : decode cX7_copy 22 = .ok (.iadd, 1) := by decide +kernel
theorem dX7_copy_23 : decode cX7_copy 23 = .ok (.iaload, 1) := by decide +kernel
theorem dX7_copy_24 : decode cX7_copy 24 = .ok (.iastore, 1) := by decide +kernel
theorem dX7_copy_25 : decode cX7_copy 25 = .ok (.iinc 3 1, 3) := by decide +kernel
theorem dX7_copy_28 : decode cX7_copy 28 = .ok (.goto (-26), 3) := by decide +kernel
theorem dX7_copy_31 : decode cX7_copy 31 = .ok (.return_, 1) := by decide +kernel
theorem dX7_sea_0 : decode cX7_sea 0 = .ok (.aload_n 0, 1) := by decide +kernel
theorem dX7_sea_1 : decode cX7_sea 1 = .ok (.getfield 161, 3) := by decide +kernel
theorem dX7_sea_4 : decode cX7_sea 4 = .ok (.iconst 1, 1) := by decide +kernel
theorem dX7_sea_5 : decode cX7_sea 5 = .ok (.isub, 1) := by decide +kernel
theorem dX7_sea_6 : decode cX7_sea 6 = .ok (.ireturn, 1) := by decide +kernel
theorem dX7_isNode_0 : decode cX7_isNode 0 = .ok (.iload_n 1, 1) := by decide +kernel
theorem dX7_isNode_1 : decode cX7_isNode 1 = .ok (.i2l, 1) := by decide +kernel
theorem dX7_isNode_2 : decode cX7_isNode 2 = .ok (.lconst 0, 1) := by decide +kernel
theorem dX7_isNode_3 : decode cX7_isNode 3 = .ok (.aload_n 0, 1) := by decide +kernel
theorem dX7_isNode_4 : decode cX7_isNode 4 = .ok (.getfield 161, 3) := by decide +kernel
theorem dX7_isNode_7 : decode cX7_isNode 7 = .ok (.iconst 1, 1) := by decide +kernel
theorem dX7_isNode_8 : decode cX7_isNode 8 = .ok (.isub, 1) := by decide +kernel
theorem dX7_isNode_9 : decode cX7_isNode 9 = .ok (.i2l, 1) := by decide +kernel
theorem dX7_isNode_10 : decode cX7_isNode 10 = .ok (.invokestatic 71, 3) := by decide +kernel
theorem dX7_isNode_13 : decode cX7_isNode 13 = .ok (.ireturn, 1) := by decide +kernel
theorem dX7_isGate_0 : decode cX7_isGate 0 = .ok (.iload_n 1, 1) := by decide +kernel
theorem dX7_isGate_1 : decode cX7_isGate 1 = .ok (.i2l, 1) := by decide +kernel
theorem dX7_isGate_2 : decode cX7_isGate 2 = .ok (.lconst 0, 1) := by decide +kernel
theorem dX7_isGate_3 : decode cX7_isGate 3 = .ok (.aload_n 0, 1) := by decide +kernel
theorem dX7_isGate_4 : decode cX7_isGate 4 = .ok (.getfield 161, 3) := by decide +kernel
theorem dX7_isGate_7 : decode cX7_isGate 7 = .ok (.iconst 2, 1) := by decide +kernel
theorem dX7_isGate_8 : decode cX7_isGate 8 = .ok (.isub, 1) := by decide +kernel
theorem dX7_isGate_9 : decode cX7_isGate 9 = .ok (.i2l, 1) := by decide +kernel
theorem dX7_isGate_10 : decode cX7_isGate 10 = .ok (.invokestatic 71, 3) := by decide +kernel
theorem dX7_isGate_13 : decode cX7_isGate 13 = .ok (.ireturn, 1) := by decide +kernel
theorem dX7_levelOf_0 : decode cX7_levelOf 0 = .ok (.iload_n 2, 1) := by decide +kernel
theorem dX7_levelOf_1 : decode cX7_levelOf 1 = .ok (.aload_n 0, 1) := by decide +kernel
theorem dX7_levelOf_2 : decode cX7_levelOf 2 = .ok (.invokevirtual 174, 3) := by decide +kernel
theorem dX7_levelOf_5 : decode cX7_levelOf 5 = .ok (.if_icmp .ne 23, 3) := by decide +kernel
theorem dX7_levelOf_8 : decode cX7_levelOf 8 = .ok (.aload_n 0, 1) := by decide +kernel
theorem dX7_levelOf_9 : decode cX7_levelOf 9 = .ok (.getfield 29, 3) := by decide +kernel
theorem dX7_levelOf_12 : decode cX7_levelOf 12 = .ok (.aload_n 0, 1) := by decide +kernel
theorem dX7_levelOf_13 : decode cX7_levelOf 13 = .ok (.getfield 7, 3) := by decide +kernel
theorem dX7_levelOf_16 : decode cX7_levelOf 16 = .ok (.iload_n 1, 1) := by decide +kernel
theorem dX7_levelOf_17 : decode cX7_levelOf 17 = .ok (.bipush 50, 2) := by decide +kernel
theorem dX7_levelOf_19 : decode cX7_levelOf 19 = .ok (.iadd, 1) := by decide +kernel
theorem dX7_levelOf_20 : decode cX7_levelOf 20 = .ok (.iaload, 1) := by decide +kernel
theorem dX7_levelOf_21 : decode cX7_levelOf 21 = .ok (.bipush 24, 2) := by decide +kernel
theorem dX7_levelOf_23 : decode cX7_levelOf 23 = .ok (.irem, 1) := by decide +kernel
theorem dX7_levelOf_24 : decode cX7_levelOf 24 = .ok (.iaload, 1) := by decide +kernel
theorem dX7_levelOf_25 : decode cX7_levelOf 25 = .ok (.goto 25, 3) := by decide +kernel
theorem dX7_levelOf_28 : decode cX7_levelOf 28 = .ok (.aload_n 0, 1) := by decide +kernel
theorem dX7_levelOf_29 : decode cX7_levelOf 29 = .ok (.getfield 17, 3) := by decide +kernel
theorem dX7_levelOf_32 : decode cX7_levelOf 32 = .ok (.iload_n 2, 1) := by decide +kernel
theorem dX7_levelOf_33 : decode cX7_levelOf 33 = .ok (.iaload, 1) := by decide +kernel
theorem dX7_levelOf_34 : decode cX7_levelOf 34 = .ok (.aload_n 0, 1) := by decide +kernel
theorem dX7_levelOf_35 : decode cX7_levelOf 35 = .ok (.getfield 7, 3) := by decide +kernel
theorem dX7_levelOf_38 : decode cX7_levelOf 38 = .ok (.iload_n 1, 1) := by decide +kernel
theorem dX7_levelOf_39 : decode cX7_levelOf 39 = .ok (.iload_n 2, 1) := by decide +kernel
theorem dX7_levelOf_40 : decode cX7_levelOf 40 = .ok (.iadd, 1) := by decide +kernel
theorem dX7_levelOf_41 : decode cX7_levelOf 41 = .ok (.iaload, 1) := by decide +kernel
theorem dX7_levelOf_42 : decode cX7_levelOf 42 = .ok (.aload_n 0, 1) := by decide +kernel
theorem dX7_levelOf_43 : decode cX7_levelOf 43 = .ok (.getfield 20, 3) := by decide +kernel
theorem dX7_levelOf_46 : decode cX7_levelOf 46 = .ok (.iload_n 2, 1) := by decide +kernel
theorem dX7_levelOf_47 : decode cX7_levelOf 47 = .ok (.iaload, 1) := by decide +kernel
theorem dX7_levelOf_48 : decode cX7_levelOf 48 = .ok (.idiv, 1) := by decide +kernel
theorem dX7_levelOf_49 : decode cX7_levelOf 49 = .ok (.iadd, 1) := by decide +kernel
theorem dX7_levelOf_50 : decode cX7_levelOf 50 = .ok (.ireturn, 1) := by decide +kernel
theorem dX7_watersOf_0 : decode cX7_watersOf 0 = .ok (.iconst 0, 1) := by decide +kernel
theorem dX7_watersOf_1 : decode cX7_watersOf 1 = .ok (.istore_n 2, 1) := by decide +kernel
theorem dX7_watersOf_2 : decode cX7_watersOf 2 = .ok (.iconst 0, 1) := by decide +kernel
theorem dX7_watersOf_3 : decode cX7_watersOf 3 = .ok (.istore_n 3, 1) := by decide +kernel
theorem dX7_watersOf_4 : decode cX7_watersOf 4 = .ok (.iload_n 3, 1) := by decide +kernel
theorem dX7_watersOf_5 : decode cX7_watersOf 5 = .ok (.aload_n 0, 1) := by decide +kernel
theorem dX7_watersOf_6 : decode cX7_watersOf 6 = .ok (.getfield 161, 3) := by decide +kernel
theorem dX7_watersOf_9 : decode cX7_watersOf 9 = .ok (.iconst 1, 1) := by decide +kernel
theorem dX7_watersOf_10 : decode cX7_watersOf 10 = .ok (.isub, 1) := by decide +kernel
theorem dX7_watersOf_11 : decode cX7_watersOf 11 = .ok (.if_icmp .ge 20, 3) := by decide +kernel
theorem dX7_watersOf_14 : decode cX7_watersOf 14 = .ok (.iload_n 2, 1) := by decide +kernel
theorem dX7_watersOf_15 : decode cX7_watersOf 15 = .ok (.aload_n 0, 1) := by decide +kernel
theorem dX7_watersOf_16 : decode cX7_watersOf 16 = .ok (.getfield 7, 3) := by decide +kernel
theorem dX7_watersOf_19 : decode cX7_watersOf 19 = .ok (.iload_n 1, 1) := by decide +kernel
theorem dX7_watersOf_20 : decode cX7_watersOf 20 = .ok (.iload_n 3, 1) := by decide +kernel
theorem dX7_watersOf_21 : decode cX7_watersOf 21 = .ok (.iadd, 1) := by decide +kernel
theorem dX7_watersOf_22 : decode cX7_watersOf 22 = .ok (.iaload, 1) := by decide +kernel
theorem dX7_watersOf_23 : decode cX7_watersOf 23 = .ok (.iadd, 1) := by decide +kernel
theorem dX7_watersOf_24 : decode cX7_watersOf 24 = .ok (.istore_n 2, 1) := by decide +kernel
theorem dX7_watersOf_25 : decode cX7_watersOf 25 = .ok (.iinc 3 1, 3) := by decide +kernel
theorem dX7_watersOf_28 : decode cX7_watersOf 28 = .ok (.goto (-24), 3) := by decide +kernel
theorem dX7_watersOf_31 : decode cX7_watersOf 31 = .ok (.iload_n 2, 1) := by decide +kernel
theorem dX7_watersOf_32 : decode cX7_watersOf 32 = .ok (.ireturn, 1) := by decide +kernel
theorem dX7_told_0 : decode cX7_told 0 = .ok (.iload_n 1, 1) := by decide +kernel
theorem dX7_told_1 : decode cX7_told 1 = .ok (.tableswitch 85 0 6 #[43, 48, 53, 58, 66, 74, 79], 43) := by decide +kernel
theorem dX7_told_44 : decode cX7_told 44 = .ok (.aload_n 0, 1) := by decide +kernel
theorem dX7_told_45 : decode cX7_told 45 = .ok (.getfield 161, 3) := by decide +kernel
theorem dX7_told_48 : decode cX7_told 48 = .ok (.ireturn, 1) := by decide +kernel
theorem dX7_told_49 : decode cX7_told 49 = .ok (.aload_n 0, 1) := by decide +kernel
theorem dX7_told_50 : decode cX7_told 50 = .ok (.getfield 164, 3) := by decide +kernel
theorem dX7_told_53 : decode cX7_told 53 = .ok (.ireturn, 1) := by decide +kernel
theorem dX7_told_54 : decode cX7_told 54 = .ok (.aload_n 0, 1) := by decide +kernel
theorem dX7_told_55 : decode cX7_told 55 = .ok (.getfield 76, 3) := by decide +kernel
theorem dX7_told_58 : decode cX7_told 58 = .ok (.ireturn, 1) := by decide +kernel
theorem dX7_told_59 : decode cX7_told 59 = .ok (.aload_n 0, 1) := by decide +kernel
theorem dX7_told_60 : decode cX7_told 60 = .ok (.getfield 7, 3) := by decide +kernel
theorem dX7_told_63 : decode cX7_told 63 = .ok (.bipush 50, 2) := by decide +kernel
theorem dX7_told_65 : decode cX7_told 65 = .ok (.iaload, 1) := by decide +kernel
theorem dX7_told_66 : decode cX7_told 66 = .ok (.ireturn, 1) := by decide +kernel
theorem dX7_told_67 : decode cX7_told 67 = .ok (.aload_n 0, 1) := by decide +kernel
theorem dX7_told_68 : decode cX7_told 68 = .ok (.getfield 7, 3) := by decide +kernel
theorem dX7_told_71 : decode cX7_told 71 = .ok (.bipush 51, 2) := by decide +kernel
theorem dX7_told_73 : decode cX7_told 73 = .ok (.iaload, 1) := by decide +kernel
theorem dX7_told_74 : decode cX7_told 74 = .ok (.ireturn, 1) := by decide +kernel
theorem dX7_told_75 : decode cX7_told 75 = .ok (.aload_n 0, 1) := by decide +kernel
theorem dX7_told_76 : decode cX7_told 76 = .ok (.getfield 167, 3) := by decide +kernel
theorem dX7_told_79 : decode cX7_told 79 = .ok (.ireturn, 1) := by decide +kernel
theorem dX7_told_80 : decode cX7_told 80 = .ok (.aload_n 0, 1) := by decide +kernel
theorem dX7_told_81 : decode cX7_told 81 = .ok (.iconst 0, 1) := by decide +kernel
theorem dX7_told_82 : decode cX7_told 82 = .ok (.invokevirtual 177, 3) := by decide +kernel
theorem dX7_told_85 : decode cX7_told 85 = .ok (.ireturn, 1) := by decide +kernel
theorem dX7_told_86 : decode cX7_told 86 = .ok (.ldc 75, 2) := by decide +kernel
theorem dX7_told_88 : decode cX7_told 88 = .ok (.ireturn, 1) := by decide +kernel
theorem dX7_logsIn_0 : decode cX7_logsIn 0 = .ok (.iconst 0, 1) := by decide +kernel
theorem dX7_logsIn_1 : decode cX7_logsIn 1 = .ok (.istore_n 2, 1) := by decide +kernel
theorem dX7_logsIn_2 : decode cX7_logsIn 2 = .ok (.iconst 0, 1) := by decide +kernel
theorem dX7_logsIn_3 : decode cX7_logsIn 3 = .ok (.istore_n 3, 1) := by decide +kernel
theorem dX7_logsIn_4 : decode cX7_logsIn 4 = .ok (.iload_n 3, 1) := by decide +kernel
theorem dX7_logsIn_5 : decode cX7_logsIn 5 = .ok (.aload_n 0, 1) := by decide +kernel
theorem dX7_logsIn_6 : decode cX7_logsIn 6 = .ok (.getfield 7, 3) := by decide +kernel
theorem dX7_logsIn_9 : decode cX7_logsIn 9 = .ok (.bipush 51, 2) := by decide +kernel
theorem dX7_logsIn_11 : decode cX7_logsIn 11 = .ok (.iaload, 1) := by decide +kernel
theorem dX7_logsIn_12 : decode cX7_logsIn 12 = .ok (.if_icmp .ge 35, 3) := by decide +kernel
theorem dX7_logsIn_15 : decode cX7_logsIn 15 = .ok (.iload_n 2, 1) := by decide +kernel
theorem dX7_logsIn_16 : decode cX7_logsIn 16 = .ok (.aload_n 0, 1) := by decide +kernel
theorem dX7_logsIn_17 : decode cX7_logsIn 17 = .ok (.getfield 7, 3) := by decide +kernel
theorem dX7_logsIn_20 : decode cX7_logsIn 20 = .ok (.bipush 60, 2) := by decide +kernel
theorem dX7_logsIn_22 : decode cX7_logsIn 22 = .ok (.iload_n 3, 1) := by decide +kernel
theorem dX7_logsIn_23 : decode cX7_logsIn 23 = .ok (.iadd, 1) := by decide +kernel
theorem dX7_logsIn_24 : decode cX7_logsIn 24 = .ok (.iaload, 1) := by decide +kernel
theorem dX7_logsIn_25 : decode cX7_logsIn 25 = .ok (.iload_n 1, 1) := by decide +kernel
theorem dX7_logsIn_26 : decode cX7_logsIn 26 = .ok (.if_icmp .ne 7, 3) := by decide +kernel
theorem dX7_logsIn_29 : decode cX7_logsIn 29 = .ok (.iconst 1, 1) := by decide +kernel
theorem dX7_logsIn_30 : decode cX7_logsIn 30 = .ok (.goto 4, 3) := by decide +kernel
theorem dX7_logsIn_33 : decode cX7_logsIn 33 = .ok (.iconst 0, 1) := by decide +kernel
theorem dX7_logsIn_34 : decode cX7_logsIn 34 = .ok (.invokestatic 125, 3) := by decide +kernel
theorem dX7_logsIn_37 : decode cX7_logsIn 37 = .ok (.iload_n 3, 1) := by decide +kernel
theorem dX7_logsIn_38 : decode cX7_logsIn 38 = .ok (.ishl, 1) := by decide +kernel
theorem dX7_logsIn_39 : decode cX7_logsIn 39 = .ok (.ior, 1) := by decide +kernel
theorem dX7_logsIn_40 : decode cX7_logsIn 40 = .ok (.istore_n 2, 1) := by decide +kernel
theorem dX7_logsIn_41 : decode cX7_logsIn 41 = .ok (.iinc 3 1, 3) := by decide +kernel
theorem dX7_logsIn_44 : decode cX7_logsIn 44 = .ok (.goto (-40), 3) := by decide +kernel
theorem dX7_logsIn_47 : decode cX7_logsIn 47 = .ok (.iload_n 2, 1) := by decide +kernel
theorem dX7_logsIn_48 : decode cX7_logsIn 48 = .ok (.ireturn, 1) := by decide +kernel
theorem dX7_node_0 : decode cX7_node 0 = .ok (.aload_n 0, 1) := by decide +kernel
theorem dX7_node_1 : decode cX7_node 1 = .ok (.iload_n 1, 1) := by decide +kernel
theorem dX7_node_2 : decode cX7_node 2 = .ok (.invokevirtual 181, 3) := by decide +kernel
theorem dX7_node_5 : decode cX7_node 5 = .ok (.ifCond .ne 6, 3) := by decide +kernel
theorem dX7_node_8 : decode cX7_node 8 = .ok (.ldc 185, 2) := by decide +kernel
theorem dX7_node_10 : decode cX7_node 10 = .ok (.ireturn, 1) := by decide +kernel
theorem dX7_node_11 : decode cX7_node 11 = .ok (.iload_n 2, 1) := by decide +kernel
theorem dX7_node_12 : decode cX7_node 12 = .ok (.tableswitch 106 0 4 #[36, 55, 74, 93, 100], 36) := by decide +kernel
theorem dX7_node_48 : decode cX7_node 48 = .ok (.iload_n 1, 1) := by decide +kernel
theorem dX7_node_49 : decode cX7_node 49 = .ok (.aload_n 0, 1) := by decide +kernel
theorem dX7_node_50 : decode cX7_node 50 = .ok (.invokevirtual 174, 3) := by decide +kernel
theorem dX7_node_53 : decode cX7_node 53 = .ok (.if_icmp .ne 7, 3) := by decide +kernel
theorem dX7_node_56 : decode cX7_node 56 = .ok (.iconst 0, 1) := by decide +kernel
theorem dX7_node_57 : decode cX7_node 57 = .ok (.goto 9, 3) := by decide +kernel
theorem dX7_node_60 : decode cX7_node 60 = .ok (.aload_n 0, 1) := by decide +kernel
theorem dX7_node_61 : decode cX7_node 61 = .ok (.getfield 17, 3) := by decide +kernel
theorem dX7_node_64 : decode cX7_node 64 = .ok (.iload_n 1, 1) := by decide +kernel
theorem dX7_node_65 : decode cX7_node 65 = .ok (.iaload, 1) := by decide +kernel
theorem dX7_node_66 : decode cX7_node 66 = .ok (.ireturn, 1) := by decide +kernel
theorem dX7_node_67 : decode cX7_node 67 = .ok (.iload_n 1, 1) := by decide +kernel
theorem dX7_node_68 : decode cX7_node 68 = .ok (.aload_n 0, 1) := by decide +kernel
theorem dX7_node_69 : decode cX7_node 69 = .ok (.invokevirtual 174, 3) := by decide +kernel
theorem dX7_node_72 : decode cX7_node 72 = .ok (.if_icmp .ne 7, 3) := by decide +kernel
theorem dX7_node_75 : decode cX7_node 75 = .ok (.iconst 0, 1) := by decide +kernel
theorem dX7_node_76 : decode cX7_node 76 = .ok (.goto 9, 3) := by decide +kernel
theorem dX7_node_79 : decode cX7_node 79 = .ok (.aload_n 0, 1) := by decide +kernel
theorem dX7_node_80 : decode cX7_node 80 = .ok (.getfield 20, 3) := by decide +kernel
theorem dX7_node_83 : decode cX7_node 83 = .ok (.iload_n 1, 1) := by decide +kernel
theorem dX7_node_84 : decode cX7_node 84 = .ok (.iaload, 1) := by decide +kernel
theorem dX7_node_85 : decode cX7_node 85 = .ok (.ireturn, 1) := by decide +kernel
theorem dX7_node_86 : decode cX7_node 86 = .ok (.iload_n 1, 1) := by decide +kernel
theorem dX7_node_87 : decode cX7_node 87 = .ok (.aload_n 0, 1) := by decide +kernel
theorem dX7_node_88 : decode cX7_node 88 = .ok (.invokevirtual 174, 3) := by decide +kernel
theorem dX7_node_91 : decode cX7_node 91 = .ok (.if_icmp .ne 7, 3) := by decide +kernel
theorem dX7_node_94 : decode cX7_node 94 = .ok (.iconst 0, 1) := by decide +kernel
theorem dX7_node_95 : decode cX7_node 95 = .ok (.goto 9, 3) := by decide +kernel
theorem dX7_node_98 : decode cX7_node 98 = .ok (.aload_n 0, 1) := by decide +kernel
theorem dX7_node_99 : decode cX7_node 99 = .ok (.getfield 7, 3) := by decide +kernel
theorem dX7_node_102 : decode cX7_node 102 = .ok (.iload_n 1, 1) := by decide +kernel
theorem dX7_node_103 : decode cX7_node 103 = .ok (.iaload, 1) := by decide +kernel
theorem dX7_node_104 : decode cX7_node 104 = .ok (.ireturn, 1) := by decide +kernel
theorem dX7_node_105 : decode cX7_node 105 = .ok (.aload_n 0, 1) := by decide +kernel
theorem dX7_node_106 : decode cX7_node 106 = .ok (.iconst 0, 1) := by decide +kernel
theorem dX7_node_107 : decode cX7_node 107 = .ok (.iload_n 1, 1) := by decide +kernel
theorem dX7_node_108 : decode cX7_node 108 = .ok (.invokevirtual 186, 3) := by decide +kernel
theorem dX7_node_111 : decode cX7_node 111 = .ok (.ireturn, 1) := by decide +kernel
theorem dX7_node_112 : decode cX7_node 112 = .ok (.aload_n 0, 1) := by decide +kernel
theorem dX7_node_113 : decode cX7_node 113 = .ok (.iload_n 1, 1) := by decide +kernel
theorem dX7_node_114 : decode cX7_node 114 = .ok (.invokevirtual 189, 3) := by decide +kernel
theorem dX7_node_117 : decode cX7_node 117 = .ok (.ireturn, 1) := by decide +kernel
theorem dX7_node_118 : decode cX7_node 118 = .ok (.ldc 75, 2) := by decide +kernel
theorem dX7_node_120 : decode cX7_node 120 = .ok (.ireturn, 1) := by decide +kernel
theorem dX7_gate_0 : decode cX7_gate 0 = .ok (.aload_n 0, 1) := by decide +kernel
theorem dX7_gate_1 : decode cX7_gate 1 = .ok (.iload_n 1, 1) := by decide +kernel
theorem dX7_gate_2 : decode cX7_gate 2 = .ok (.invokevirtual 192, 3) := by decide +kernel
theorem dX7_gate_5 : decode cX7_gate 5 = .ok (.ifCond .ne 6, 3) := by decide +kernel
theorem dX7_gate_8 : decode cX7_gate 8 = .ok (.ldc 185, 2) := by decide +kernel
theorem dX7_gate_10 : decode cX7_gate 10 = .ok (.ireturn, 1) := by decide +kernel
theorem dX7_gate_11 : decode cX7_gate 11 = .ok (.iload_n 2, 1) := by decide +kernel
theorem dX7_gate_12 : decode cX7_gate 12 = .ok (.tableswitch 83 0 4 #[36, 46, 53, 63, 73], 36) := by decide +kernel
theorem dX7_gate_48 : decode cX7_gate 48 = .ok (.aload_n 0, 1) := by decide +kernel
theorem dX7_gate_49 : decode cX7_gate 49 = .ok (.getfield 7, 3) := by decide +kernel
theorem dX7_gate_52 : decode cX7_gate 52 = .ok (.bipush 10, 2) := by decide +kernel
theorem dX7_gate_54 : decode cX7_gate 54 = .ok (.iload_n 1, 1) := by decide +kernel
theorem dX7_gate_55 : decode cX7_gate 55 = .ok (.iadd, 1) := by decide +kernel
theorem dX7_gate_56 : decode cX7_gate 56 = .ok (.iaload, 1) := by decide +kernel
theorem dX7_gate_57 : decode cX7_gate 57 = .ok (.ireturn, 1) := by decide +kernel
theorem dX7_gate_58 : decode cX7_gate 58 = .ok (.aload_n 0, 1) := by decide +kernel
theorem dX7_gate_59 : decode cX7_gate 59 = .ok (.getfield 35, 3) := by decide +kernel
theorem dX7_gate_62 : decode cX7_gate 62 = .ok (.iload_n 1, 1) := by decide +kernel
theorem dX7_gate_63 : decode cX7_gate 63 = .ok (.iaload, 1) := by decide +kernel
theorem dX7_gate_64 : decode cX7_gate 64 = .ok (.ireturn, 1) := by decide +kernel
theorem dX7_gate_65 : decode cX7_gate 65 = .ok (.aload_n 0, 1) := by decide +kernel
theorem dX7_gate_66 : decode cX7_gate 66 = .ok (.getfield 7, 3) := by decide +kernel
theorem dX7_gate_69 : decode cX7_gate 69 = .ok (.bipush 20, 2) := by decide +kernel
theorem dX7_gate_71 : decode cX7_gate 71 = .ok (.iload_n 1, 1) := by decide +kernel
theorem dX7_gate_72 : decode cX7_gate 72 = .ok (.iadd, 1) := by decide +kernel
theorem dX7_gate_73 : decode cX7_gate 73 = .ok (.iaload, 1) := by decide +kernel
theorem dX7_gate_74 : decode cX7_gate 74 = .ok (.ireturn, 1) := by decide +kernel
theorem dX7_gate_75 : decode cX7_gate 75 = .ok (.aload_n 0, 1) := by decide +kernel
theorem dX7_gate_76 : decode cX7_gate 76 = .ok (.getfield 7, 3) := by decide +kernel
theorem dX7_gate_79 : decode cX7_gate 79 = .ok (.bipush 30, 2) := by decide +kernel
theorem dX7_gate_81 : decode cX7_gate 81 = .ok (.iload_n 1, 1) := by decide +kernel
theorem dX7_gate_82 : decode cX7_gate 82 = .ok (.iadd, 1) := by decide +kernel
theorem dX7_gate_83 : decode cX7_gate 83 = .ok (.iaload, 1) := by decide +kernel
theorem dX7_gate_84 : decode cX7_gate 84 = .ok (.ireturn, 1) := by decide +kernel
theorem dX7_gate_85 : decode cX7_gate 85 = .ok (.aload_n 0, 1) := by decide +kernel
theorem dX7_gate_86 : decode cX7_gate 86 = .ok (.getfield 7, 3) := by decide +kernel
theorem dX7_gate_89 : decode cX7_gate 89 = .ok (.bipush 40, 2) := by decide +kernel
theorem dX7_gate_91 : decode cX7_gate 91 = .ok (.iload_n 1, 1) := by decide +kernel
theorem dX7_gate_92 : decode cX7_gate 92 = .ok (.iadd, 1) := by decide +kernel
theorem dX7_gate_93 : decode cX7_gate 93 = .ok (.iaload, 1) := by decide +kernel
theorem dX7_gate_94 : decode cX7_gate 94 = .ok (.ireturn, 1) := by decide +kernel
theorem dX7_gate_95 : decode cX7_gate 95 = .ok (.ldc 75, 2) := by decide +kernel
theorem dX7_gate_97 : decode cX7_gate 97 = .ok (.ireturn, 1) := by decide +kernel
theorem dX7_setWidths_0 : decode cX7_setWidths 0 = .ok (.iconst 0, 1) := by decide +kernel
theorem dX7_setWidths_1 : decode cX7_setWidths 1 = .ok (.istore_n 2, 1) := by decide +kernel
theorem dX7_setWidths_2 : decode cX7_setWidths 2 = .ok (.iload_n 2, 1) := by decide +kernel
theorem dX7_setWidths_3 : decode cX7_setWidths 3 = .ok (.aload_n 0, 1) := by decide +kernel
theorem dX7_setWidths_4 : decode cX7_setWidths 4 = .ok (.getfield 164, 3) := by decide +kernel
theorem dX7_setWidths_7 : decode cX7_setWidths 7 = .ok (.if_icmp .ge 49, 3) := by decide +kernel
theorem dX7_setWidths_10 : decode cX7_setWidths 10 = .ok (.aload_n 0, 1) := by decide +kernel
theorem dX7_setWidths_11 : decode cX7_setWidths 11 = .ok (.getfield 38, 3) := by decide +kernel
theorem dX7_setWidths_14 : decode cX7_setWidths 14 = .ok (.iload_n 2, 1) := by decide +kernel
theorem dX7_setWidths_15 : decode cX7_setWidths 15 = .ok (.iaload, 1) := by decide +kernel
theorem dX7_setWidths_16 : decode cX7_setWidths 16 = .ok (.aload_n 0, 1) := by decide +kernel
theorem dX7_setWidths_17 : decode cX7_setWidths 17 = .ok (.getfield 7, 3) := by decide +kernel
theorem dX7_setWidths_20 : decode cX7_setWidths 20 = .ok (.iload_n 1, 1) := by decide +kernel
theorem dX7_setWidths_21 : decode cX7_setWidths 21 = .ok (.bipush 50, 2) := by decide +kernel
theorem dX7_setWidths_23 : decode cX7_setWidths 23 = .ok (.iadd, 1) := by decide +kernel
theorem dX7_setWidths_24 : decode cX7_setWidths 24 = .ok (.iaload, 1) := by decide +kernel
theorem dX7_setWidths_25 : decode cX7_setWidths 25 = .ok (.if_icmp .ne 25, 3) := by decide +kernel
theorem dX7_setWidths_28 : decode cX7_setWidths 28 = .ok (.aload_n 0, 1) := by decide +kernel
theorem dX7_setWidths_29 : decode cX7_setWidths 29 = .ok (.getfield 7, 3) := by decide +kernel
theorem dX7_setWidths_32 : decode cX7_setWidths 32 = .ok (.iload_n 1, 1) := by decide +kernel
theorem dX7_setWidths_33 : decode cX7_setWidths 33 = .ok (.bipush 10, 2) := by decide +kernel
theorem dX7_setWidths_35 : decode cX7_setWidths 35 = .ok (.iadd, 1) := by decide +kernel
theorem dX7_setWidths_36 : decode cX7_setWidths 36 = .ok (.aload_n 0, 1) := by decide +kernel
theorem dX7_setWidths_37 : decode cX7_setWidths 37 = .ok (.getfield 41, 3) := by decide +kernel
theorem dX7_setWidths_40 : decode cX7_setWidths 40 = .ok (.iload_n 2, 1) := by decide +kernel
theorem dX7_setWidths_41 : decode cX7_setWidths 41 = .ok (.iaload, 1) := by decide +kernel
theorem dX7_setWidths_42 : decode cX7_setWidths 42 = .ok (.iadd, 1) := by decide +kernel
theorem dX7_setWidths_43 : decode cX7_setWidths 43 = .ok (.aload_n 0, 1) := by decide +kernel
theorem dX7_setWidths_44 : decode cX7_setWidths 44 = .ok (.getfield 44, 3) := by decide +kernel
theorem dX7_setWidths_47 : decode cX7_setWidths 47 = .ok (.iload_n 2, 1) := by decide +kernel
theorem dX7_setWidths_48 : decode cX7_setWidths 48 = .ok (.iaload, 1) := by decide +kernel
theorem dX7_setWidths_49 : decode cX7_setWidths 49 = .ok (.iastore, 1) := by decide +kernel
theorem dX7_setWidths_50 : decode cX7_setWidths 50 = .ok (.iinc 2 1, 3) := by decide +kernel
theorem dX7_setWidths_53 : decode cX7_setWidths 53 = .ok (.goto (-51), 3) := by decide +kernel
theorem dX7_setWidths_56 : decode cX7_setWidths 56 = .ok (.iconst 0, 1) := by decide +kernel
theorem dX7_setWidths_57 : decode cX7_setWidths 57 = .ok (.istore_n 2, 1) := by decide +kernel
theorem dX7_setWidths_58 : decode cX7_setWidths 58 = .ok (.iload_n 2, 1) := by decide +kernel
theorem dX7_setWidths_59 : decode cX7_setWidths 59 = .ok (.aload_n 0, 1) := by decide +kernel
theorem dX7_setWidths_60 : decode cX7_setWidths 60 = .ok (.getfield 161, 3) := by decide +kernel
theorem dX7_setWidths_63 : decode cX7_setWidths 63 = .ok (.iconst 1, 1) := by decide +kernel
theorem dX7_setWidths_64 : decode cX7_setWidths 64 = .ok (.isub, 1) := by decide +kernel
theorem dX7_setWidths_65 : decode cX7_setWidths 65 = .ok (.if_icmp .ge 49, 3) := by decide +kernel
theorem dX7_setWidths_68 : decode cX7_setWidths 68 = .ok (.aload_n 0, 1) := by decide +kernel
theorem dX7_setWidths_69 : decode cX7_setWidths 69 = .ok (.getfield 7, 3) := by decide +kernel
theorem dX7_setWidths_72 : decode cX7_setWidths 72 = .ok (.iload_n 1, 1) := by decide +kernel
theorem dX7_setWidths_73 : decode cX7_setWidths 73 = .ok (.bipush 10, 2) := by decide +kernel
theorem dX7_setWidths_75 : decode cX7_setWidths 75 = .ok (.iadd, 1) := by decide +kernel
theorem dX7_setWidths_76 : decode cX7_setWidths 76 = .ok (.iload_n 2, 1) := by decide +kernel
theorem dX7_setWidths_77 : decode cX7_setWidths 77 = .ok (.iadd, 1) := by decide +kernel
theorem dX7_setWidths_78 : decode cX7_setWidths 78 = .ok (.aload_n 0, 1) := by decide +kernel
theorem dX7_setWidths_79 : decode cX7_setWidths 79 = .ok (.getfield 195, 3) := by decide +kernel
theorem dX7_setWidths_82 : decode cX7_setWidths 82 = .ok (.iload_n 2, 1) := by decide +kernel
theorem dX7_setWidths_83 : decode cX7_setWidths 83 = .ok (.invokestatic 121, 3) := by decide +kernel
theorem dX7_setWidths_86 : decode cX7_setWidths 86 = .ok (.ifCond .eq 10, 3) := by decide +kernel
theorem dX7_setWidths_89 : decode cX7_setWidths 89 = .ok (.aload_n 0, 1) := by decide +kernel
theorem dX7_setWidths_90 : decode cX7_setWidths 90 = .ok (.getfield 198, 3) := by decide +kernel
theorem dX7_setWidths_93 : decode cX7_setWidths 93 = .ok (.goto 14, 3) := by decide +kernel
theorem dX7_setWidths_96 : decode cX7_setWidths 96 = .ok (.aload_n 0, 1) := by decide +kernel
theorem dX7_setWidths_97 : decode cX7_setWidths 97 = .ok (.getfield 7, 3) := by decide +kernel
theorem dX7_setWidths_100 : decode cX7_setWidths 100 = .ok (.iload_n 1, 1) := by decide +kernel
theorem dX7_setWidths_101 : decode cX7_setWidths 101 = .ok (.bipush 10, 2) := by decide +kernel
theorem dX7_setWidths_103 : decode cX7_setWidths 103 = .ok (.iadd, 1) := by decide +kernel
theorem dX7_setWidths_104 : decode cX7_setWidths 104 = .ok (.iload_n 2, 1) := by decide +kernel
theorem dX7_setWidths_105 : decode cX7_setWidths 105 = .ok (.iadd, 1) := by decide +kernel
theorem dX7_setWidths_106 : decode cX7_setWidths 106 = .ok (.iaload, 1) := by decide +kernel
theorem dX7_setWidths_107 : decode cX7_setWidths 107 = .ok (.iastore, 1) := by decide +kernel
theorem dX7_setWidths_108 : decode cX7_setWidths 108 = .ok (.iinc 2 1, 3) := by decide +kernel
theorem dX7_setWidths_111 : decode cX7_setWidths 111 = .ok (.goto (-53), 3) := by decide +kernel
theorem dX7_setWidths_114 : decode cX7_setWidths 114 = .ok (.return_, 1) := by decide +kernel
theorem dX7_flow_0 : decode cX7_flow 0 = .ok (.iconst 0, 1) := by decide +kernel
theorem dX7_flow_1 : decode cX7_flow 1 = .ok (.istore_n 2, 1) := by decide +kernel
theorem dX7_flow_2 : decode cX7_flow 2 = .ok (.iload_n 2, 1) := by decide +kernel
theorem dX7_flow_3 : decode cX7_flow 3 = .ok (.aload_n 0, 1) := by decide +kernel
theorem dX7_flow_4 : decode cX7_flow 4 = .ok (.getfield 161, 3) := by decide +kernel
theorem dX7_flow_7 : decode cX7_flow 7 = .ok (.iconst 1, 1) := by decide +kernel
theorem dX7_flow_8 : decode cX7_flow 8 = .ok (.isub, 1) := by decide +kernel
theorem dX7_flow_9 : decode cX7_flow 9 = .ok (.if_icmp .ge 30, 3) := by decide +kernel
theorem dX7_flow_12 : decode cX7_flow 12 = .ok (.aload_n 0, 1) := by decide +kernel
theorem dX7_flow_13 : decode cX7_flow 13 = .ok (.getfield 54, 3) := by decide +kernel
theorem dX7_flow_16 : decode cX7_flow 16 = .ok (.iload_n 2, 1) := by decide +kernel
theorem dX7_flow_17 : decode cX7_flow 17 = .ok (.aload_n 0, 1) := by decide +kernel
theorem dX7_flow_18 : decode cX7_flow 18 = .ok (.iload_n 1, 1) := by decide +kernel
theorem dX7_flow_19 : decode cX7_flow 19 = .ok (.iload_n 2, 1) := by decide +kernel
theorem dX7_flow_20 : decode cX7_flow 20 = .ok (.invokevirtual 186, 3) := by decide +kernel
theorem dX7_flow_23 : decode cX7_flow 23 = .ok (.aload_n 0, 1) := by decide +kernel
theorem dX7_flow_24 : decode cX7_flow 24 = .ok (.iload_n 1, 1) := by decide +kernel
theorem dX7_flow_25 : decode cX7_flow 25 = .ok (.iload_n 2, 1) := by decide +kernel
theorem dX7_flow_26 : decode cX7_flow 26 = .ok (.iconst 1, 1) := by decide +kernel
theorem dX7_flow_27 : decode cX7_flow 27 = .ok (.iadd, 1) := by decide +kernel
theorem dX7_flow_28 : decode cX7_flow 28 = .ok (.invokevirtual 186, 3) := by decide +kernel
theorem dX7_flow_31 : decode cX7_flow 31 = .ok (.isub, 1) := by decide +kernel
theorem dX7_flow_32 : decode cX7_flow 32 = .ok (.iastore, 1) := by decide +kernel
theorem dX7_flow_33 : decode cX7_flow 33 = .ok (.iinc 2 1, 3) := by decide +kernel
theorem dX7_flow_36 : decode cX7_flow 36 = .ok (.goto (-34), 3) := by decide +kernel
theorem dX7_flow_39 : decode cX7_flow 39 = .ok (.iconst 0, 1) := by decide +kernel
theorem dX7_flow_40 : decode cX7_flow 40 = .ok (.istore_n 2, 1) := by decide +kernel
theorem dX7_flow_41 : decode cX7_flow 41 = .ok (.iload_n 2, 1) := by decide +kernel
theorem dX7_flow_42 : decode cX7_flow 42 = .ok (.aload_n 0, 1) := by decide +kernel
theorem dX7_flow_43 : decode cX7_flow 43 = .ok (.getfield 161, 3) := by decide +kernel
theorem dX7_flow_46 : decode cX7_flow 46 = .ok (.iconst 1, 1) := by decide +kernel
theorem dX7_flow_47 : decode cX7_flow 47 = .ok (.isub, 1) := by decide +kernel
theorem dX7_flow_48 : decode cX7_flow 48 = .ok (.if_icmp .ge 233, 3) := by decide +kernel
theorem dX7_flow_51 : decode cX7_flow 51 = .ok (.aload_n 0, 1) := by decide +kernel
theorem dX7_flow_52 : decode cX7_flow 52 = .ok (.getfield 54, 3) := by decide +kernel
theorem dX7_flow_55 : decode cX7_flow 55 = .ok (.iload_n 2, 1) := by decide +kernel
theorem dX7_flow_56 : decode cX7_flow 56 = .ok (.iaload, 1) := by decide +kernel
theorem dX7_flow_57 : decode cX7_flow 57 = .ok (.i2l, 1) := by decide +kernel
theorem dX7_flow_58 : decode cX7_flow 58 = .ok (.aload_n 0, 1) := by decide +kernel
theorem dX7_flow_59 : decode cX7_flow 59 = .ok (.getfield 7, 3) := by decide +kernel
theorem dX7_flow_62 : decode cX7_flow 62 = .ok (.iload_n 1, 1) := by decide +kernel
theorem dX7_flow_63 : decode cX7_flow 63 = .ok (.bipush 10, 2) := by decide +kernel
theorem dX7_flow_65 : decode cX7_flow 65 = .ok (.iadd, 1) := by decide +kernel
theorem dX7_flow_66 : decode cX7_flow 66 = .ok (.iload_n 2, 1) := by decide +kernel
theorem dX7_flow_67 : decode cX7_flow 67 = .ok (.iadd, 1) := by decide +kernel
theorem dX7_flow_68 : decode cX7_flow 68 = .ok (.iaload, 1) := by decide +kernel
theorem dX7_flow_69 : decode cX7_flow 69 = .ok (.i2l, 1) := by decide +kernel
theorem dX7_flow_70 : decode cX7_flow 70 = .ok (.lmul, 1) := by decide +kernel
theorem dX7_flow_71 : decode cX7_flow 71 = .ok (.lstore_n 3, 1) := by decide +kernel
theorem dX7_flow_72 : decode cX7_flow 72 = .ok (.aload_n 0, 1) := by decide +kernel
theorem dX7_flow_73 : decode cX7_flow 73 = .ok (.getfield 7, 3) := by decide +kernel
theorem dX7_flow_76 : decode cX7_flow 76 = .ok (.iload_n 1, 1) := by decide +kernel
theorem dX7_flow_77 : decode cX7_flow 77 = .ok (.iload_n 2, 1) := by decide +kernel
theorem dX7_flow_78 : decode cX7_flow 78 = .ok (.iadd, 1) := by decide +kernel
theorem dX7_flow_79 : decode cX7_flow 79 = .ok (.iaload, 1) := by decide +kernel
theorem dX7_flow_80 : decode cX7_flow 80 = .ok (.i2l, 1) := by decide +kernel
theorem dX7_flow_81 : decode cX7_flow 81 = .ok (.lstore 5, 2) := by decide +kernel
theorem dX7_flow_83 : decode cX7_flow 83 = .ok (.iload_n 2, 1) := by decide +kernel
theorem dX7_flow_84 : decode cX7_flow 84 = .ok (.iconst 1, 1) := by decide +kernel
theorem dX7_flow_85 : decode cX7_flow 85 = .ok (.iadd, 1) := by decide +kernel
theorem dX7_flow_86 : decode cX7_flow 86 = .ok (.aload_n 0, 1) := by decide +kernel
theorem dX7_flow_87 : decode cX7_flow 87 = .ok (.invokevirtual 174, 3) := by decide +kernel
theorem dX7_flow_90 : decode cX7_flow 90 = .ok (.if_icmp .ne 8, 3) := by decide +kernel
theorem dX7_flow_93 : decode cX7_flow 93 = .ok (.lload_n 3, 1) := by decide +kernel
theorem dX7_flow_94 : decode cX7_flow 94 = .ok (.lneg, 1) := by decide +kernel
theorem dX7_flow_95 : decode cX7_flow 95 = .ok (.goto 14, 3) := by decide +kernel
theorem dX7_flow_98 : decode cX7_flow 98 = .ok (.aload_n 0, 1) := by decide +kernel
theorem dX7_flow_99 : decode cX7_flow 99 = .ok (.getfield 7, 3) := by decide +kernel
theorem dX7_flow_102 : decode cX7_flow 102 = .ok (.iload_n 1, 1) := by decide +kernel
theorem dX7_flow_103 : decode cX7_flow 103 = .ok (.iload_n 2, 1) := by decide +kernel
theorem dX7_flow_104 : decode cX7_flow 104 = .ok (.iadd, 1) := by decide +kernel
theorem dX7_flow_105 : decode cX7_flow 105 = .ok (.iconst 1, 1) := by decide +kernel
theorem dX7_flow_106 : decode cX7_flow 106 = .ok (.iadd, 1) := by decide +kernel
theorem dX7_flow_107 : decode cX7_flow 107 = .ok (.iaload, 1) := by decide +kernel
theorem dX7_flow_108 : decode cX7_flow 108 = .ok (.i2l, 1) := by decide +kernel
theorem dX7_flow_109 : decode cX7_flow 109 = .ok (.lstore 7, 2) := by decide +kernel
theorem dX7_flow_111 : decode cX7_flow 111 = .ok (.lload_n 3, 1) := by decide +kernel
theorem dX7_flow_112 : decode cX7_flow 112 = .ok (.lload 5, 2) := by decide +kernel
theorem dX7_flow_114 : decode cX7_flow 114 = .ok (.lcmp, 1) := by decide +kernel
theorem dX7_flow_115 : decode cX7_flow 115 = .ok (.ifCond .le 8, 3) := by decide +kernel
theorem dX7_flow_118 : decode cX7_flow 118 = .ok (.lload 5, 2) := by decide +kernel
theorem dX7_flow_120 : decode cX7_flow 120 = .ok (.goto 18, 3) := by decide +kernel
theorem dX7_flow_123 : decode cX7_flow 123 = .ok (.lload_n 3, 1) := by decide +kernel
theorem dX7_flow_124 : decode cX7_flow 124 = .ok (.lload 7, 2) := by decide +kernel
theorem dX7_flow_126 : decode cX7_flow 126 = .ok (.lneg, 1) := by decide +kernel
theorem dX7_flow_127 : decode cX7_flow 127 = .ok (.lcmp, 1) := by decide +kernel
theorem dX7_flow_128 : decode cX7_flow 128 = .ok (.ifCond .ge 9, 3) := by decide +kernel
theorem dX7_flow_131 : decode cX7_flow 131 = .ok (.lload 7, 2) := by decide +kernel
theorem dX7_flow_133 : decode cX7_flow 133 = .ok (.lneg, 1) := by decide +kernel
theorem dX7_flow_134 : decode cX7_flow 134 = .ok (.goto 4, 3) := by decide +kernel
theorem dX7_flow_137 : decode cX7_flow 137 = .ok (.lload_n 3, 1) := by decide +kernel
theorem dX7_flow_138 : decode cX7_flow 138 = .ok (.l2i, 1) := by decide +kernel
theorem dX7_flow_139 : decode cX7_flow 139 = .ok (.istore 9, 2) := by decide +kernel
theorem dX7_flow_141 : decode cX7_flow 141 = .ok (.aload_n 0, 1) := by decide +kernel
theorem dX7_flow_142 : decode cX7_flow 142 = .ok (.getfield 7, 3) := by decide +kernel
theorem dX7_flow_145 : decode cX7_flow 145 = .ok (.iload_n 1, 1) := by decide +kernel
theorem dX7_flow_146 : decode cX7_flow 146 = .ok (.bipush 20, 2) := by decide +kernel
theorem dX7_flow_148 : decode cX7_flow 148 = .ok (.iadd, 1) := by decide +kernel
theorem dX7_flow_149 : decode cX7_flow 149 = .ok (.iload_n 2, 1) := by decide +kernel
theorem dX7_flow_150 : decode cX7_flow 150 = .ok (.iadd, 1) := by decide +kernel
theorem dX7_flow_151 : decode cX7_flow 151 = .ok (.iload 9, 2) := by decide +kernel
theorem dX7_flow_153 : decode cX7_flow 153 = .ok (.iastore, 1) := by decide +kernel
theorem dX7_flow_154 : decode cX7_flow 154 = .ok (.aload_n 0, 1) := by decide +kernel
theorem dX7_flow_155 : decode cX7_flow 155 = .ok (.getfield 7, 3) := by decide +kernel
theorem dX7_flow_158 : decode cX7_flow 158 = .ok (.iload_n 1, 1) := by decide +kernel
theorem dX7_flow_159 : decode cX7_flow 159 = .ok (.iload_n 2, 1) := by decide +kernel
theorem dX7_flow_160 : decode cX7_flow 160 = .ok (.iadd, 1) := by decide +kernel
theorem dX7_flow_161 : decode cX7_flow 161 = .ok (.dup2, 1) := by decide +kernel
theorem dX7_flow_162 : decode cX7_flow 162 = .ok (.iaload, 1) := by decide +kernel
theorem dX7_flow_163 : decode cX7_flow 163 = .ok (.iload 9, 2) := by decide +kernel
theorem dX7_flow_165 : decode cX7_flow 165 = .ok (.isub, 1) := by decide +kernel
theorem dX7_flow_166 : decode cX7_flow 166 = .ok (.iastore, 1) := by decide +kernel
theorem dX7_flow_167 : decode cX7_flow 167 = .ok (.aload_n 0, 1) := by decide +kernel
theorem dX7_flow_168 : decode cX7_flow 168 = .ok (.getfield 7, 3) := by decide +kernel
theorem dX7_flow_171 : decode cX7_flow 171 = .ok (.iload_n 1, 1) := by decide +kernel
theorem dX7_flow_172 : decode cX7_flow 172 = .ok (.iload_n 2, 1) := by decide +kernel
theorem dX7_flow_173 : decode cX7_flow 173 = .ok (.iadd, 1) := by decide +kernel
theorem dX7_flow_174 : decode cX7_flow 174 = .ok (.iconst 1, 1) := by decide +kernel
theorem dX7_flow_175 : decode cX7_flow 175 = .ok (.iadd, 1) := by decide +kernel
theorem dX7_flow_176 : decode cX7_flow 176 = .ok (.dup2, 1) := by decide +kernel
theorem dX7_flow_177 : decode cX7_flow 177 = .ok (.iaload, 1) := by decide +kernel
theorem dX7_flow_178 : decode cX7_flow 178 = .ok (.iload_n 2, 1) := by decide +kernel
theorem dX7_flow_179 : decode cX7_flow 179 = .ok (.iconst 1, 1) := by decide +kernel
theorem dX7_flow_180 : decode cX7_flow 180 = .ok (.iadd, 1) := by decide +kernel
theorem dX7_flow_181 : decode cX7_flow 181 = .ok (.aload_n 0, 1) := by decide +kernel
theorem dX7_flow_182 : decode cX7_flow 182 = .ok (.invokevirtual 174, 3) := by decide +kernel
theorem dX7_flow_185 : decode cX7_flow 185 = .ok (.if_icmp .ne 7, 3) := by decide +kernel
theorem dX7_flow_188 : decode cX7_flow 188 = .ok (.iconst 0, 1) := by decide +kernel
theorem dX7_flow_189 : decode cX7_flow 189 = .ok (.goto 5, 3) := by decide +kernel
theorem dX7_flow_192 : decode cX7_flow 192 = .ok (.iload 9, 2) := by decide +kernel
theorem dX7_flow_194 : decode cX7_flow 194 = .ok (.iadd, 1) := by decide +kernel
theorem dX7_flow_195 : decode cX7_flow 195 = .ok (.iastore, 1) := by decide +kernel
theorem dX7_flow_196 : decode cX7_flow 196 = .ok (.aload_n 0, 1) := by decide +kernel
theorem dX7_flow_197 : decode cX7_flow 197 = .ok (.getfield 7, 3) := by decide +kernel
theorem dX7_flow_200 : decode cX7_flow 200 = .ok (.iload_n 1, 1) := by decide +kernel
theorem dX7_flow_201 : decode cX7_flow 201 = .ok (.bipush 30, 2) := by decide +kernel
theorem dX7_flow_203 : decode cX7_flow 203 = .ok (.iadd, 1) := by decide +kernel
theorem dX7_flow_204 : decode cX7_flow 204 = .ok (.iload_n 2, 1) := by decide +kernel
theorem dX7_flow_205 : decode cX7_flow 205 = .ok (.iadd, 1) := by decide +kernel
theorem dX7_flow_206 : decode cX7_flow 206 = .ok (.ldc 201, 2) := by decide +kernel
theorem dX7_flow_208 : decode cX7_flow 208 = .ok (.aload_n 0, 1) := by decide +kernel
theorem dX7_flow_209 : decode cX7_flow 209 = .ok (.getfield 7, 3) := by decide +kernel
theorem dX7_flow_212 : decode cX7_flow 212 = .ok (.iload_n 1, 1) := by decide +kernel
theorem dX7_flow_213 : decode cX7_flow 213 = .ok (.bipush 30, 2) := by decide +kernel
theorem dX7_flow_215 : decode cX7_flow 215 = .ok (.iadd, 1) := by decide +kernel
theorem dX7_flow_216 : decode cX7_flow 216 = .ok (.iload_n 2, 1) := by decide +kernel
theorem dX7_flow_217 : decode cX7_flow 217 = .ok (.iadd, 1) := by decide +kernel
theorem dX7_flow_218 : decode cX7_flow 218 = .ok (.iaload, 1) := by decide +kernel
theorem dX7_flow_219 : decode cX7_flow 219 = .ok (.iload 9, 2) := by decide +kernel
theorem dX7_flow_221 : decode cX7_flow 221 = .ok (.ifCond .le 8, 3) := by decide +kernel
theorem dX7_flow_224 : decode cX7_flow 224 = .ok (.iload 9, 2) := by decide +kernel
theorem dX7_flow_226 : decode cX7_flow 226 = .ok (.goto 4, 3) := by decide +kernel
theorem dX7_flow_229 : decode cX7_flow 229 = .ok (.iconst 0, 1) := by decide +kernel
theorem dX7_flow_230 : decode cX7_flow 230 = .ok (.iadd, 1) := by decide +kernel
theorem dX7_flow_231 : decode cX7_flow 231 = .ok (.invokestatic 202, 3) := by decide +kernel
theorem dX7_flow_234 : decode cX7_flow 234 = .ok (.iastore, 1) := by decide +kernel
theorem dX7_flow_235 : decode cX7_flow 235 = .ok (.aload_n 0, 1) := by decide +kernel
theorem dX7_flow_236 : decode cX7_flow 236 = .ok (.getfield 7, 3) := by decide +kernel
theorem dX7_flow_239 : decode cX7_flow 239 = .ok (.iload_n 1, 1) := by decide +kernel
theorem dX7_flow_240 : decode cX7_flow 240 = .ok (.bipush 40, 2) := by decide +kernel
theorem dX7_flow_242 : decode cX7_flow 242 = .ok (.iadd, 1) := by decide +kernel
theorem dX7_flow_243 : decode cX7_flow 243 = .ok (.iload_n 2, 1) := by decide +kernel
theorem dX7_flow_244 : decode cX7_flow 244 = .ok (.iadd, 1) := by decide +kernel
theorem dX7_flow_245 : decode cX7_flow 245 = .ok (.ldc 201, 2) := by decide +kernel
theorem dX7_flow_247 : decode cX7_flow 247 = .ok (.aload_n 0, 1) := by decide +kernel
theorem dX7_flow_248 : decode cX7_flow 248 = .ok (.getfield 7, 3) := by decide +kernel
theorem dX7_flow_251 : decode cX7_flow 251 = .ok (.iload_n 1, 1) := by decide +kernel
theorem dX7_flow_252 : decode cX7_flow 252 = .ok (.bipush 40, 2) := by decide +kernel
theorem dX7_flow_254 : decode cX7_flow 254 = .ok (.iadd, 1) := by decide +kernel
theorem dX7_flow_255 : decode cX7_flow 255 = .ok (.iload_n 2, 1) := by decide +kernel
theorem dX7_flow_256 : decode cX7_flow 256 = .ok (.iadd, 1) := by decide +kernel
theorem dX7_flow_257 : decode cX7_flow 257 = .ok (.iaload, 1) := by decide +kernel
theorem dX7_flow_258 : decode cX7_flow 258 = .ok (.iload 9, 2) := by decide +kernel
theorem dX7_flow_260 : decode cX7_flow 260 = .ok (.ifCond .ge 9, 3) := by decide +kernel
theorem dX7_flow_263 : decode cX7_flow 263 = .ok (.iload 9, 2) := by decide +kernel
theorem dX7_flow_265 : decode cX7_flow 265 = .ok (.ineg, 1) := by decide +kernel
