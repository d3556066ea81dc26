/-! ===== act, printed ===== -/
theorem dL_act_0 : decode cL_act 0 = .ok (.iload_n 2, 1) := by decide +kernel
theorem dL_act_1 : decode cL_act 1 = .ok (.bipush 13, 2) := by decide +kernel
theorem dL_act_3 : decode cL_act 3 = .ok (.invokestatic 19, 3) := by decide +kernel
theorem dL_act_6 : decode cL_act 6 = .ok (.istore_n 3, 1) := by decide +kernel
theorem dL_act_7 : decode cL_act 7 = .ok (.aload_n 1, 1) := by decide +kernel
theorem dL_act_8 : decode cL_act 8 = .ok (.iload_n 2, 1) := by decide +kernel
theorem dL_act_9 : decode cL_act 9 = .ok (.iconst 4, 1) := by decide +kernel
theorem dL_act_10 : decode cL_act 10 = .ok (.ishr, 1) := by decide +kernel
theorem dL_act_11 : decode cL_act 11 = .ok (.bipush 40, 2) := by decide +kernel
theorem dL_act_13 : decode cL_act 13 = .ok (.invokestatic 19, 3) := by decide +kernel
theorem dL_act_16 : decode cL_act 16 = .ok (.invokestatic 25, 3) := by decide +kernel
theorem dL_act_19 : decode cL_act 19 = .ok (.istore 4, 2) := by decide +kernel
theorem dL_act_21 : decode cL_act 21 = .ok (.aload_n 1, 1) := by decide +kernel
theorem dL_act_22 : decode cL_act 22 = .ok (.iload_n 2, 1) := by decide +kernel
theorem dL_act_23 : decode cL_act 23 = .ok (.iconst 5, 1) := by decide +kernel
theorem dL_act_24 : decode cL_act 24 = .ok (.ishr, 1) := by decide +kernel
theorem dL_act_25 : decode cL_act 25 = .ok (.bipush 40, 2) := by decide +kernel
theorem dL_act_27 : decode cL_act 27 = .ok (.invokestatic 19, 3) := by decide +kernel
theorem dL_act_30 : decode cL_act 30 = .ok (.invokestatic 29, 3) := by decide +kernel
theorem dL_act_33 : decode cL_act 33 = .ok (.istore 5, 2) := by decide +kernel
theorem dL_act_35 : decode cL_act 35 = .ok (.aload_n 1, 1) := by decide +kernel
theorem dL_act_36 : decode cL_act 36 = .ok (.getfield 15, 3) := by decide +kernel
theorem dL_act_39 : decode cL_act 39 = .ok (.iload 5, 2) := by decide +kernel
theorem dL_act_41 : decode cL_act 41 = .ok (.aaload, 1) := by decide +kernel
theorem dL_act_42 : decode cL_act 42 = .ok (.astore 6, 2) := by decide +kernel
theorem dL_act_44 : decode cL_act 44 = .ok (.iload_n 2, 1) := by decide +kernel
theorem dL_act_45 : decode cL_act 45 = .ok (.iconst 3, 1) := by decide +kernel
theorem dL_act_46 : decode cL_act 46 = .ok (.ishr, 1) := by decide +kernel
theorem dL_act_47 : decode cL_act 47 = .ok (.bipush 70, 2) := by decide +kernel
theorem dL_act_49 : decode cL_act 49 = .ok (.invokestatic 19, 3) := by decide +kernel
theorem dL_act_52 : decode cL_act 52 = .ok (.iconst 5, 1) := by decide +kernel
theorem dL_act_53 : decode cL_act 53 = .ok (.isub, 1) := by decide +kernel
theorem dL_act_54 : decode cL_act 54 = .ok (.istore 7, 2) := by decide +kernel
theorem dL_act_56 : decode cL_act 56 = .ok (.iload_n 2, 1) := by decide +kernel
theorem dL_act_57 : decode cL_act 57 = .ok (.bipush 6, 2) := by decide +kernel
theorem dL_act_59 : decode cL_act 59 = .ok (.ishr, 1) := by decide +kernel
theorem dL_act_60 : decode cL_act 60 = .ok (.bipush 55, 2) := by decide +kernel
theorem dL_act_62 : decode cL_act 62 = .ok (.invokestatic 19, 3) := by decide +kernel
theorem dL_act_65 : decode cL_act 65 = .ok (.iconst 5, 1) := by decide +kernel
theorem dL_act_66 : decode cL_act 66 = .ok (.isub, 1) := by decide +kernel
theorem dL_act_67 : decode cL_act 67 = .ok (.istore 8, 2) := by decide +kernel
theorem dL_act_69 : decode cL_act 69 = .ok (.iload_n 3, 1) := by decide +kernel
theorem dL_act_70 : decode cL_act 70 = .ok (.iconst 5, 1) := by decide +kernel
theorem dL_act_71 : decode cL_act 71 = .ok (.if_icmp .ge 14, 3) := by decide +kernel
theorem dL_act_74 : decode cL_act 74 = .ok (.aload_n 1, 1) := by decide +kernel
theorem dL_act_75 : decode cL_act 75 = .ok (.getfield 9, 3) := by decide +kernel
theorem dL_act_78 : decode cL_act 78 = .ok (.bipush 40, 2) := by decide +kernel
theorem dL_act_80 : decode cL_act 80 = .ok (.if_icmp .ne 5, 3) := by decide +kernel
theorem dL_act_83 : decode cL_act 83 = .ok (.iconst 1, 1) := by decide +kernel
theorem dL_act_84 : decode cL_act 84 = .ok (.ireturn, 1) := by decide +kernel
theorem dL_act_85 : decode cL_act 85 = .ok (.iload_n 3, 1) := by decide +kernel
theorem dL_act_86 : decode cL_act 86 = .ok (.tableswitch 885 0 11 #[62, 87, 87, 176, 240, 336, 381, 480, 543, 599, 674, 810], 62) := by decide +kernel
theorem dL_act_148 : decode cL_act 148 = .ok (.aload_n 0, 1) := by decide +kernel
theorem dL_act_149 : decode cL_act 149 = .ok (.iload 4, 2) := by decide +kernel
theorem dL_act_151 : decode cL_act 151 = .ok (.invokevirtual 32, 3) := by decide +kernel
theorem dL_act_154 : decode cL_act 154 = .ok (.aload_n 1, 1) := by decide +kernel
theorem dL_act_155 : decode cL_act 155 = .ok (.iconst 0, 1) := by decide +kernel
theorem dL_act_156 : decode cL_act 156 = .ok (.iload 4, 2) := by decide +kernel
theorem dL_act_158 : decode cL_act 158 = .ok (.iconst 0, 1) := by decide +kernel
theorem dL_act_159 : decode cL_act 159 = .ok (.newarray .int, 2) := by decide +kernel
theorem dL_act_161 : decode cL_act 161 = .ok (.invokevirtual 38, 3) := by decide +kernel
theorem dL_act_164 : decode cL_act 164 = .ok (.if_icmp .ne 7, 3) := by decide +kernel
theorem dL_act_167 : decode cL_act 167 = .ok (.iconst 1, 1) := by decide +kernel
theorem dL_act_168 : decode cL_act 168 = .ok (.goto 4, 3) := by decide +kernel
theorem dL_act_171 : decode cL_act 171 = .ok (.iconst 0, 1) := by decide +kernel
theorem dL_act_172 : decode cL_act 172 = .ok (.ireturn, 1) := by decide +kernel
theorem dL_act_173 : decode cL_act 173 = .ok (.aload_n 0, 1) := by decide +kernel
theorem dL_act_174 : decode cL_act 174 = .ok (.iload 4, 2) := by decide +kernel
theorem dL_act_176 : decode cL_act 176 = .ok (.iload 7, 2) := by decide +kernel
theorem dL_act_178 : decode cL_act 178 = .ok (.iload 8, 2) := by decide +kernel
theorem dL_act_180 : decode cL_act 180 = .ok (.iconst 1, 1) := by decide +kernel
theorem dL_act_181 : decode cL_act 181 = .ok (.iload_n 2, 1) := by decide +kernel
theorem dL_act_182 : decode cL_act 182 = .ok (.bipush 7, 2) := by decide +kernel
theorem dL_act_184 : decode cL_act 184 = .ok (.ishr, 1) := by decide +kernel
theorem dL_act_185 : decode cL_act 185 = .ok (.bipush 40, 2) := by decide +kernel
theorem dL_act_187 : decode cL_act 187 = .ok (.invokestatic 19, 3) := by decide +kernel
theorem dL_act_190 : decode cL_act 190 = .ok (.iadd, 1) := by decide +kernel
theorem dL_act_191 : decode cL_act 191 = .ok (.iconst 1, 1) := by decide +kernel
theorem dL_act_192 : decode cL_act 192 = .ok (.iload_n 2, 1) := by decide +kernel
theorem dL_act_193 : decode cL_act 193 = .ok (.bipush 8, 2) := by decide +kernel
theorem dL_act_195 : decode cL_act 195 = .ok (.ishr, 1) := by decide +kernel
theorem dL_act_196 : decode cL_act 196 = .ok (.bipush 40, 2) := by decide +kernel
theorem dL_act_198 : decode cL_act 198 = .ok (.invokestatic 19, 3) := by decide +kernel
theorem dL_act_201 : decode cL_act 201 = .ok (.iadd, 1) := by decide +kernel
theorem dL_act_202 : decode cL_act 202 = .ok (.invokevirtual 42, 3) := by decide +kernel
theorem dL_act_205 : decode cL_act 205 = .ok (.aload_n 1, 1) := by decide +kernel
theorem dL_act_206 : decode cL_act 206 = .ok (.iconst 1, 1) := by decide +kernel
theorem dL_act_207 : decode cL_act 207 = .ok (.iload 4, 2) := by decide +kernel
theorem dL_act_209 : decode cL_act 209 = .ok (.iconst 4, 1) := by decide +kernel
theorem dL_act_210 : decode cL_act 210 = .ok (.newarray .int, 2) := by decide +kernel
theorem dL_act_212 : decode cL_act 212 = .ok (.dup, 1) := by decide +kernel
theorem dL_act_213 : decode cL_act 213 = .ok (.iconst 0, 1) := by decide +kernel
theorem dL_act_214 : decode cL_act 214 = .ok (.iload 7, 2) := by decide +kernel
theorem dL_act_216 : decode cL_act 216 = .ok (.iastore, 1) := by decide +kernel
theorem dL_act_217 : decode cL_act 217 = .ok (.dup, 1) := by decide +kernel
theorem dL_act_218 : decode cL_act 218 = .ok (.iconst 1, 1) := by decide +kernel
theorem dL_act_219 : decode cL_act 219 = .ok (.iload 8, 2) := by decide +kernel
theorem dL_act_221 : decode cL_act 221 = .ok (.iastore, 1) := by decide +kernel
theorem dL_act_222 : decode cL_act 222 = .ok (.dup, 1) := by decide +kernel
theorem dL_act_223 : decode cL_act 223 = .ok (.iconst 2, 1) := by decide +kernel
theorem dL_act_224 : decode cL_act 224 = .ok (.iconst 1, 1) := by decide +kernel
theorem dL_act_225 : decode cL_act 225 = .ok (.iload_n 2, 1) := by decide +kernel
theorem dL_act_226 : decode cL_act 226 = .ok (.bipush 7, 2) := by decide +kernel
theorem dL_act_228 : decode cL_act 228 = .ok (.ishr, 1) := by decide +kernel
theorem dL_act_229 : decode cL_act 229 = .ok (.bipush 40, 2) := by decide +kernel
theorem dL_act_231 : decode cL_act 231 = .ok (.invokestatic 19, 3) := by decide +kernel
theorem dL_act_234 : decode cL_act 234 = .ok (.iadd, 1) := by decide +kernel
theorem dL_act_235 : decode cL_act 235 = .ok (.iastore, 1) := by decide +kernel
theorem dL_act_236 : decode cL_act 236 = .ok (.dup, 1) := by decide +kernel
theorem dL_act_237 : decode cL_act 237 = .ok (.iconst 3, 1) := by decide +kernel
theorem dL_act_238 : decode cL_act 238 = .ok (.iconst 1, 1) := by decide +kernel
theorem dL_act_239 : decode cL_act 239 = .ok (.iload_n 2, 1) := by decide +kernel
theorem dL_act_240 : decode cL_act 240 = .ok (.bipush 8, 2) := by decide +kernel
theorem dL_act_242 : decode cL_act 242 = .ok (.ishr, 1) := by decide +kernel
theorem dL_act_243 : decode cL_act 243 = .ok (.bipush 40, 2) := by decide +kernel
theorem dL_act_245 : decode cL_act 245 = .ok (.invokestatic 19, 3) := by decide +kernel
theorem dL_act_248 : decode cL_act 248 = .ok (.iadd, 1) := by decide +kernel
theorem dL_act_249 : decode cL_act 249 = .ok (.iastore, 1) := by decide +kernel
theorem dL_act_250 : decode cL_act 250 = .ok (.invokevirtual 38, 3) := by decide +kernel
theorem dL_act_253 : decode cL_act 253 = .ok (.if_icmp .ne 7, 3) := by decide +kernel
theorem dL_act_256 : decode cL_act 256 = .ok (.iconst 1, 1) := by decide +kernel
theorem dL_act_257 : decode cL_act 257 = .ok (.goto 4, 3) := by decide +kernel
theorem dL_act_260 : decode cL_act 260 = .ok (.iconst 0, 1) := by decide +kernel
theorem dL_act_261 : decode cL_act 261 = .ok (.ireturn, 1) := by decide +kernel
theorem dL_act_262 : decode cL_act 262 = .ok (.aload_n 0, 1) := by decide +kernel
theorem dL_act_263 : decode cL_act 263 = .ok (.iload 4, 2) := by decide +kernel
theorem dL_act_265 : decode cL_act 265 = .ok (.iload 7, 2) := by decide +kernel
theorem dL_act_267 : decode cL_act 267 = .ok (.iload 8, 2) := by decide +kernel
theorem dL_act_269 : decode cL_act 269 = .ok (.iconst 1, 1) := by decide +kernel
theorem dL_act_270 : decode cL_act 270 = .ok (.iload_n 2, 1) := by decide +kernel
theorem dL_act_271 : decode cL_act 271 = .ok (.bipush 8, 2) := by decide +kernel
theorem dL_act_273 : decode cL_act 273 = .ok (.ishr, 1) := by decide +kernel
theorem dL_act_274 : decode cL_act 274 = .ok (.bipush 30, 2) := by decide +kernel
theorem dL_act_276 : decode cL_act 276 = .ok (.invokestatic 19, 3) := by decide +kernel
theorem dL_act_279 : decode cL_act 279 = .ok (.iadd, 1) := by decide +kernel
theorem dL_act_280 : decode cL_act 280 = .ok (.invokevirtual 46, 3) := by decide +kernel
theorem dL_act_283 : decode cL_act 283 = .ok (.aload_n 1, 1) := by decide +kernel
theorem dL_act_284 : decode cL_act 284 = .ok (.iconst 2, 1) := by decide +kernel
theorem dL_act_285 : decode cL_act 285 = .ok (.iload 4, 2) := by decide +kernel
theorem dL_act_287 : decode cL_act 287 = .ok (.iconst 3, 1) := by decide +kernel
theorem dL_act_288 : decode cL_act 288 = .ok (.newarray .int, 2) := by decide +kernel
theorem dL_act_290 : decode cL_act 290 = .ok (.dup, 1) := by decide +kernel
theorem dL_act_291 : decode cL_act 291 = .ok (.iconst 0, 1) := by decide +kernel
theorem dL_act_292 : decode cL_act 292 = .ok (.iload 7, 2) := by decide +kernel
theorem dL_act_294 : decode cL_act 294 = .ok (.iastore, 1) := by decide +kernel
theorem dL_act_295 : decode cL_act 295 = .ok (.dup, 1) := by decide +kernel
theorem dL_act_296 : decode cL_act 296 = .ok (.iconst 1, 1) := by decide +kernel
theorem dL_act_297 : decode cL_act 297 = .ok (.iload 8, 2) := by decide +kernel
theorem dL_act_299 : decode cL_act 299 = .ok (.iastore, 1) := by decide +kernel
theorem dL_act_300 : decode cL_act 300 = .ok (.dup, 1) := by decide +kernel
theorem dL_act_301 : decode cL_act 301 = .ok (.iconst 2, 1) := by decide +kernel
theorem dL_act_302 : decode cL_act 302 = .ok (.iconst 1, 1) := by decide +kernel
theorem dL_act_303 : decode cL_act 303 = .ok (.iload_n 2, 1) := by decide +kernel
theorem dL_act_304 : decode cL_act 304 = .ok (.bipush 8, 2) := by decide +kernel
theorem dL_act_306 : decode cL_act 306 = .ok (.ishr, 1) := by decide +kernel
theorem dL_act_307 : decode cL_act 307 = .ok (.bipush 30, 2) := by decide +kernel
theorem dL_act_309 : decode cL_act 309 = .ok (.invokestatic 19, 3) := by decide +kernel
theorem dL_act_312 : decode cL_act 312 = .ok (.iadd, 1) := by decide +kernel
theorem dL_act_313 : decode cL_act 313 = .ok (.iastore, 1) := by decide +kernel
theorem dL_act_314 : decode cL_act 314 = .ok (.invokevirtual 38, 3) := by decide +kernel
theorem dL_act_317 : decode cL_act 317 = .ok (.if_icmp .ne 7, 3) := by decide +kernel
theorem dL_act_320 : decode cL_act 320 = .ok (.iconst 1, 1) := by decide +kernel
theorem dL_act_321 : decode cL_act 321 = .ok (.goto 4, 3) := by decide +kernel
theorem dL_act_324 : decode cL_act 324 = .ok (.iconst 0, 1) := by decide +kernel
theorem dL_act_325 : decode cL_act 325 = .ok (.ireturn, 1) := by decide +kernel
theorem dL_act_326 : decode cL_act 326 = .ok (.iload_n 2, 1) := by decide +kernel
theorem dL_act_327 : decode cL_act 327 = .ok (.bipush 7, 2) := by decide +kernel
theorem dL_act_329 : decode cL_act 329 = .ok (.ishr, 1) := by decide +kernel
theorem dL_act_330 : decode cL_act 330 = .ok (.bipush 90, 2) := by decide +kernel
theorem dL_act_332 : decode cL_act 332 = .ok (.invokestatic 19, 3) := by decide +kernel
theorem dL_act_335 : decode cL_act 335 = .ok (.bipush 20, 2) := by decide +kernel
theorem dL_act_337 : decode cL_act 337 = .ok (.isub, 1) := by decide +kernel
theorem dL_act_338 : decode cL_act 338 = .ok (.istore 9, 2) := by decide +kernel
theorem dL_act_340 : decode cL_act 340 = .ok (.iload_n 2, 1) := by decide +kernel
theorem dL_act_341 : decode cL_act 341 = .ok (.bipush 9, 2) := by decide +kernel
theorem dL_act_343 : decode cL_act 343 = .ok (.ishr, 1) := by decide +kernel
theorem dL_act_344 : decode cL_act 344 = .ok (.bipush 70, 2) := by decide +kernel
theorem dL_act_346 : decode cL_act 346 = .ok (.invokestatic 19, 3) := by decide +kernel
theorem dL_act_349 : decode cL_act 349 = .ok (.bipush 10, 2) := by decide +kernel
theorem dL_act_351 : decode cL_act 351 = .ok (.isub, 1) := by decide +kernel
theorem dL_act_352 : decode cL_act 352 = .ok (.istore 10, 2) := by decide +kernel
theorem dL_act_354 : decode cL_act 354 = .ok (.aload_n 0, 1) := by decide +kernel
theorem dL_act_355 : decode cL_act 355 = .ok (.iload 4, 2) := by decide +kernel
theorem dL_act_357 : decode cL_act 357 = .ok (.iload 7, 2) := by decide +kernel
theorem dL_act_359 : decode cL_act 359 = .ok (.iload 8, 2) := by decide +kernel
theorem dL_act_361 : decode cL_act 361 = .ok (.iload 9, 2) := by decide +kernel
theorem dL_act_363 : decode cL_act 363 = .ok (.iload 10, 2) := by decide +kernel
theorem dL_act_365 : decode cL_act 365 = .ok (.iload 8, 2) := by decide +kernel
theorem dL_act_367 : decode cL_act 367 = .ok (.iload 9, 2) := by decide +kernel
theorem dL_act_369 : decode cL_act 369 = .ok (.invokevirtual 50, 3) := by decide +kernel
theorem dL_act_372 : decode cL_act 372 = .ok (.aload_n 1, 1) := by decide +kernel
theorem dL_act_373 : decode cL_act 373 = .ok (.iconst 3, 1) := by decide +kernel
theorem dL_act_374 : decode cL_act 374 = .ok (.iload 4, 2) := by decide +kernel
theorem dL_act_376 : decode cL_act 376 = .ok (.bipush 6, 2) := by decide +kernel
theorem dL_act_378 : decode cL_act 378 = .ok (.newarray .int, 2) := by decide +kernel
theorem dL_act_380 : decode cL_act 380 = .ok (.dup, 1) := by decide +kernel
theorem dL_act_381 : decode cL_act 381 = .ok (.iconst 0, 1) := by decide +kernel
theorem dL_act_382 : decode cL_act 382 = .ok (.iload 7, 2) := by decide +kernel
theorem dL_act_384 : decode cL_act 384 = .ok (.iastore, 1) := by decide +kernel
theorem dL_act_385 : decode cL_act 385 = .ok (.dup, 1) := by decide +kernel
theorem dL_act_386 : decode cL_act 386 = .ok (.iconst 1, 1) := by decide +kernel
theorem dL_act_387 : decode cL_act 387 = .ok (.iload 8, 2) := by decide +kernel
theorem dL_act_389 : decode cL_act 389 = .ok (.iastore, 1) := by decide +kernel
theorem dL_act_390 : decode cL_act 390 = .ok (.dup, 1) := by decide +kernel
theorem dL_act_391 : decode cL_act 391 = .ok (.iconst 2, 1) := by decide +kernel
theorem dL_act_392 : decode cL_act 392 = .ok (.iload 9, 2) := by decide +kernel
theorem dL_act_394 : decode cL_act 394 = .ok (.iastore, 1) := by decide +kernel
theorem dL_act_395 : decode cL_act 395 = .ok (.dup, 1) := by decide +kernel
theorem dL_act_396 : decode cL_act 396 = .ok (.iconst 3, 1) := by decide +kernel
theorem dL_act_397 : decode cL_act 397 = .ok (.iload 10, 2) := by decide +kernel
theorem dL_act_399 : decode cL_act 399 = .ok (.iastore, 1) := by decide +kernel
theorem dL_act_400 : decode cL_act 400 = .ok (.dup, 1) := by decide +kernel
theorem dL_act_401 : decode cL_act 401 = .ok (.iconst 4, 1) := by decide +kernel
theorem dL_act_402 : decode cL_act 402 = .ok (.iload 8, 2) := by decide +kernel
theorem dL_act_404 : decode cL_act 404 = .ok (.iastore, 1) := by decide +kernel
theorem dL_act_405 : decode cL_act 405 = .ok (.dup, 1) := by decide +kernel
theorem dL_act_406 : decode cL_act 406 = .ok (.iconst 5, 1) := by decide +kernel
theorem dL_act_407 : decode cL_act 407 = .ok (.iload 9, 2) := by decide +kernel
theorem dL_act_409 : decode cL_act 409 = .ok (.iastore, 1) := by decide +kernel
theorem dL_act_410 : decode cL_act 410 = .ok (.invokevirtual 38, 3) := by decide +kernel
theorem dL_act_413 : decode cL_act 413 = .ok (.if_icmp .ne 7, 3) := by decide +kernel
theorem dL_act_416 : decode cL_act 416 = .ok (.iconst 1, 1) := by decide +kernel
theorem dL_act_417 : decode cL_act 417 = .ok (.goto 4, 3) := by decide +kernel
theorem dL_act_420 : decode cL_act 420 = .ok (.iconst 0, 1) := by decide +kernel
theorem dL_act_421 : decode cL_act 421 = .ok (.ireturn, 1) := by decide +kernel
theorem dL_act_422 : decode cL_act 422 = .ok (.iload 5, 2) := by decide +kernel
theorem dL_act_424 : decode cL_act 424 = .ok (.ifCond .eq 14, 3) := by decide +kernel
theorem dL_act_427 : decode cL_act 427 = .ok (.iload_n 2, 1) := by decide +kernel
theorem dL_act_428 : decode cL_act 428 = .ok (.bipush 8, 2) := by decide +kernel
theorem dL_act_430 : decode cL_act 430 = .ok (.ishr, 1) := by decide +kernel
theorem dL_act_431 : decode cL_act 431 = .ok (.iconst 3, 1) := by decide +kernel
theorem dL_act_432 : decode cL_act 432 = .ok (.invokestatic 19, 3) := by decide +kernel
theorem dL_act_435 : decode cL_act 435 = .ok (.ifCond .le 5, 3) := by decide +kernel
theorem dL_act_438 : decode cL_act 438 = .ok (.iconst 1, 1) := by decide +kernel
theorem dL_act_439 : decode cL_act 439 = .ok (.ireturn, 1) := by decide +kernel
theorem dL_act_440 : decode cL_act 440 = .ok (.aload_n 1, 1) := by decide +kernel
theorem dL_act_441 : decode cL_act 441 = .ok (.iload 5, 2) := by decide +kernel
theorem dL_act_443 : decode cL_act 443 = .ok (.invokevirtual 54, 3) := by decide +kernel
theorem dL_act_446 : decode cL_act 446 = .ok (.aload_n 0, 1) := by decide +kernel
theorem dL_act_447 : decode cL_act 447 = .ok (.iload 5, 2) := by decide +kernel
theorem dL_act_449 : decode cL_act 449 = .ok (.invokevirtual 58, 3) := by decide +kernel
theorem dL_act_452 : decode cL_act 452 = .ok (.aload_n 1, 1) := by decide +kernel
theorem dL_act_453 : decode cL_act 453 = .ok (.iload 5, 2) := by decide +kernel
theorem dL_act_455 : decode cL_act 455 = .ok (.invokevirtual 61, 3) := by decide +kernel
theorem dL_act_458 : decode cL_act 458 = .ok (.if_icmp .ne 7, 3) := by decide +kernel
theorem dL_act_461 : decode cL_act 461 = .ok (.iconst 1, 1) := by decide +kernel
theorem dL_act_462 : decode cL_act 462 = .ok (.goto 4, 3) := by decide +kernel
theorem dL_act_465 : decode cL_act 465 = .ok (.iconst 0, 1) := by decide +kernel
theorem dL_act_466 : decode cL_act 466 = .ok (.ireturn, 1) := by decide +kernel
theorem dL_act_467 : decode cL_act 467 = .ok (.iload 5, 2) := by decide +kernel
theorem dL_act_469 : decode cL_act 469 = .ok (.ifCond .eq 14, 3) := by decide +kernel
theorem dL_act_472 : decode cL_act 472 = .ok (.aload_n 1, 1) := by decide +kernel
theorem dL_act_473 : decode cL_act 473 = .ok (.iload 5, 2) := by decide +kernel
theorem dL_act_475 : decode cL_act 475 = .ok (.iload 4, 2) := by decide +kernel
theorem dL_act_477 : decode cL_act 477 = .ok (.invokevirtual 64, 3) := by decide +kernel
theorem dL_act_480 : decode cL_act 480 = .ok (.ifCond .eq 5, 3) := by decide +kernel
theorem dL_act_483 : decode cL_act 483 = .ok (.iconst 1, 1) := by decide +kernel
theorem dL_act_484 : decode cL_act 484 = .ok (.ireturn, 1) := by decide +kernel
theorem dL_act_485 : decode cL_act 485 = .ok (.aload_n 1, 1) := by decide +kernel
theorem dL_act_486 : decode cL_act 486 = .ok (.iload 5, 2) := by decide +kernel
theorem dL_act_488 : decode cL_act 488 = .ok (.invokevirtual 68, 3) := by decide +kernel
theorem dL_act_491 : decode cL_act 491 = .ok (.istore 11, 2) := by decide +kernel
theorem dL_act_493 : decode cL_act 493 = .ok (.aload_n 1, 1) := by decide +kernel
theorem dL_act_494 : decode cL_act 494 = .ok (.getfield 71, 3) := by decide +kernel
theorem dL_act_497 : decode cL_act 497 = .ok (.iload 4, 2) := by decide +kernel
theorem dL_act_499 : decode cL_act 499 = .ok (.aaload, 1) := by decide +kernel
theorem dL_act_500 : decode cL_act 500 = .ok (.arraylength, 1) := by decide +kernel
theorem dL_act_501 : decode cL_act 501 = .ok (.aload 6, 2) := by decide +kernel
theorem dL_act_503 : decode cL_act 503 = .ok (.iconst 1, 1) := by decide +kernel
theorem dL_act_504 : decode cL_act 504 = .ok (.iaload, 1) := by decide +kernel
theorem dL_act_505 : decode cL_act 505 = .ok (.iload 4, 2) := by decide +kernel
theorem dL_act_507 : decode cL_act 507 = .ok (.if_icmp .ne 7, 3) := by decide +kernel
theorem dL_act_510 : decode cL_act 510 = .ok (.iconst 0, 1) := by decide +kernel
theorem dL_act_511 : decode cL_act 511 = .ok (.goto 4, 3) := by decide +kernel
theorem dL_act_514 : decode cL_act 514 = .ok (.iconst 1, 1) := by decide +kernel
theorem dL_act_515 : decode cL_act 515 = .ok (.iadd, 1) := by decide +kernel
theorem dL_act_516 : decode cL_act 516 = .ok (.istore 12, 2) := by decide +kernel
theorem dL_act_518 : decode cL_act 518 = .ok (.iload_n 2, 1) := by decide +kernel
theorem dL_act_519 : decode cL_act 519 = .ok (.bipush 8, 2) := by decide +kernel
theorem dL_act_521 : decode cL_act 521 = .ok (.ishr, 1) := by decide +kernel
theorem dL_act_522 : decode cL_act 522 = .ok (.iload 12, 2) := by decide +kernel
theorem dL_act_524 : decode cL_act 524 = .ok (.invokestatic 19, 3) := by decide +kernel
