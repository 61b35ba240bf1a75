theorem dL_law_0 : decode code 0 = .ok (.new 8, 3) := by decide +kernel
theorem dL_law_3 : decode code 3 = .ok (.dup, 1) := by decide +kernel
theorem dL_law_4 : decode code 4 = .ok (.aload_n 0, 1) := by decide +kernel
theorem dL_law_5 : decode code 5 = .ok (.iconst 0, 1) := by decide +kernel
theorem dL_law_6 : decode code 6 = .ok (.invokestatic 64, 3) := by decide +kernel
theorem dL_law_9 : decode code 9 = .ok (.i2l, 1) := by decide +kernel
theorem dL_law_10 : decode code 10 = .ok (.aload_n 0, 1) := by decide +kernel
theorem dL_law_11 : decode code 11 = .ok (.iconst 1, 1) := by decide +kernel
theorem dL_law_12 : decode code 12 = .ok (.invokestatic 64, 3) := by decide +kernel
theorem dL_law_15 : decode code 15 = .ok (.invokespecial 70, 3) := by decide +kernel
theorem dL_law_18 : decode code 18 = .ok (.astore_n 1, 1) := by decide +kernel
theorem dL_law_19 : decode code 19 = .ok (.new 73, 3) := by decide +kernel
theorem dL_law_22 : decode code 22 = .ok (.dup, 1) := by decide +kernel
theorem dL_law_23 : decode code 23 = .ok (.aload_n 0, 1) := by decide +kernel
theorem dL_law_24 : decode code 24 = .ok (.iconst 0, 1) := by decide +kernel
theorem dL_law_25 : decode code 25 = .ok (.invokestatic 64, 3) := by decide +kernel
theorem dL_law_28 : decode code 28 = .ok (.i2l, 1) := by decide +kernel
theorem dL_law_29 : decode code 29 = .ok (.aload_n 0, 1) := by decide +kernel
theorem dL_law_30 : decode code 30 = .ok (.iconst 1, 1) := by decide +kernel
theorem dL_law_31 : decode code 31 = .ok (.invokestatic 64, 3) := by decide +kernel
theorem dL_law_34 : decode code 34 = .ok (.invokespecial 75, 3) := by decide +kernel
theorem dL_law_37 : decode code 37 = .ok (.astore_n 2, 1) := by decide +kernel
theorem dL_law_38 : decode code 38 = .ok (.iconst 1, 1) := by decide +kernel
theorem dL_law_39 : decode code 39 = .ok (.newarray .long, 2) := by decide +kernel
theorem dL_law_41 : decode code 41 = .ok (.astore_n 3, 1) := by decide +kernel
theorem dL_law_42 : decode code 42 = .ok (.iconst 2, 1) := by decide +kernel
theorem dL_law_43 : decode code 43 = .ok (.istore 4, 2) := by decide +kernel
theorem dL_law_45 : decode code 45 = .ok (.iload 4, 2) := by decide +kernel
theorem dL_law_47 : decode code 47 = .ok (.aload_n 0, 1) := by decide +kernel
theorem dL_law_48 : decode code 48 = .ok (.arraylength, 1) := by decide +kernel
theorem dL_law_49 : decode code 49 = .ok (.bipush 8, 2) := by decide +kernel
theorem dL_law_51 : decode code 51 = .ok (.isub, 1) := by decide +kernel
theorem dL_law_52 : decode code 52 = .ok (.if_icmp .gt 1376, 3) := by decide +kernel
theorem dL_law_55 : decode code 55 = .ok (.aload_n 0, 1) := by decide +kernel
theorem dL_law_56 : decode code 56 = .ok (.iload 4, 2) := by decide +kernel
theorem dL_law_58 : decode code 58 = .ok (.iaload, 1) := by decide +kernel
theorem dL_law_59 : decode code 59 = .ok (.bipush 31, 2) := by decide +kernel
theorem dL_law_61 : decode code 61 = .ok (.iand, 1) := by decide +kernel
theorem dL_law_62 : decode code 62 = .ok (.tableswitch 1360 0 16 #[82, 150, 342, 410, 485, 585, 653, 721, 789, 802, 816, 891, 966, 1117, 1173, 1229, 1304], 82) := by decide +kernel
theorem dL_law_144 : decode code 144 = .ok (.aload_n 1, 1) := by decide +kernel
theorem dL_law_145 : decode code 145 = .ok (.aload_n 0, 1) := by decide +kernel
theorem dL_law_146 : decode code 146 = .ok (.iload 4, 2) := by decide +kernel
theorem dL_law_148 : decode code 148 = .ok (.iconst 1, 1) := by decide +kernel
theorem dL_law_149 : decode code 149 = .ok (.iadd, 1) := by decide +kernel
theorem dL_law_150 : decode code 150 = .ok (.iaload, 1) := by decide +kernel
theorem dL_law_151 : decode code 151 = .ok (.aload_n 0, 1) := by decide +kernel
theorem dL_law_152 : decode code 152 = .ok (.iload 4, 2) := by decide +kernel
theorem dL_law_154 : decode code 154 = .ok (.iconst 2, 1) := by decide +kernel
theorem dL_law_155 : decode code 155 = .ok (.iadd, 1) := by decide +kernel
theorem dL_law_156 : decode code 156 = .ok (.iaload, 1) := by decide +kernel
theorem dL_law_157 : decode code 157 = .ok (.aload_n 3, 1) := by decide +kernel
theorem dL_law_158 : decode code 158 = .ok (.invokestatic 76, 3) := by decide +kernel
theorem dL_law_161 : decode code 161 = .ok (.istore 5, 2) := by decide +kernel
theorem dL_law_163 : decode code 163 = .ok (.aload_n 2, 1) := by decide +kernel
theorem dL_law_164 : decode code 164 = .ok (.aload_n 0, 1) := by decide +kernel
theorem dL_law_165 : decode code 165 = .ok (.iload 4, 2) := by decide +kernel
theorem dL_law_167 : decode code 167 = .ok (.iconst 1, 1) := by decide +kernel
theorem dL_law_168 : decode code 168 = .ok (.iadd, 1) := by decide +kernel
theorem dL_law_169 : decode code 169 = .ok (.iaload, 1) := by decide +kernel
theorem dL_law_170 : decode code 170 = .ok (.aload_n 0, 1) := by decide +kernel
theorem dL_law_171 : decode code 171 = .ok (.iload 4, 2) := by decide +kernel
theorem dL_law_173 : decode code 173 = .ok (.iconst 2, 1) := by decide +kernel
theorem dL_law_174 : decode code 174 = .ok (.iadd, 1) := by decide +kernel
theorem dL_law_175 : decode code 175 = .ok (.iaload, 1) := by decide +kernel
theorem dL_law_176 : decode code 176 = .ok (.invokevirtual 79, 3) := by decide +kernel
theorem dL_law_179 : decode code 179 = .ok (.istore 6, 2) := by decide +kernel
theorem dL_law_181 : decode code 181 = .ok (.aload_n 2, 1) := by decide +kernel
theorem dL_law_182 : decode code 182 = .ok (.invokevirtual 80, 3) := by decide +kernel
theorem dL_law_185 : decode code 185 = .ok (.iload 5, 2) := by decide +kernel
theorem dL_law_187 : decode code 187 = .ok (.if_icmp .eq 5, 3) := by decide +kernel
theorem dL_law_190 : decode code 190 = .ok (.iconst 0, 1) := by decide +kernel
theorem dL_law_191 : decode code 191 = .ok (.ireturn, 1) := by decide +kernel
theorem dL_law_192 : decode code 192 = .ok (.iload 5, 2) := by decide +kernel
theorem dL_law_194 : decode code 194 = .ok (.ifCond .ne 15, 3) := by decide +kernel
theorem dL_law_197 : decode code 197 = .ok (.aload_n 3, 1) := by decide +kernel
theorem dL_law_198 : decode code 198 = .ok (.iconst 0, 1) := by decide +kernel
theorem dL_law_199 : decode code 199 = .ok (.laload, 1) := by decide +kernel
theorem dL_law_200 : decode code 200 = .ok (.iload 6, 2) := by decide +kernel
theorem dL_law_202 : decode code 202 = .ok (.i2l, 1) := by decide +kernel
theorem dL_law_203 : decode code 203 = .ok (.lcmp, 1) := by decide +kernel
theorem dL_law_204 : decode code 204 = .ok (.ifCond .eq 5, 3) := by decide +kernel
theorem dL_law_207 : decode code 207 = .ok (.iconst 0, 1) := by decide +kernel
theorem dL_law_208 : decode code 208 = .ok (.ireturn, 1) := by decide +kernel
theorem dL_law_209 : decode code 209 = .ok (.goto 1213, 3) := by decide +kernel
theorem dL_law_212 : decode code 212 = .ok (.aload_n 1, 1) := by decide +kernel
theorem dL_law_213 : decode code 213 = .ok (.aload_n 0, 1) := by decide +kernel
theorem dL_law_214 : decode code 214 = .ok (.iload 4, 2) := by decide +kernel
theorem dL_law_216 : decode code 216 = .ok (.iconst 1, 1) := by decide +kernel
theorem dL_law_217 : decode code 217 = .ok (.iadd, 1) := by decide +kernel
theorem dL_law_218 : decode code 218 = .ok (.iaload, 1) := by decide +kernel
theorem dL_law_219 : decode code 219 = .ok (.aload_n 0, 1) := by decide +kernel
theorem dL_law_220 : decode code 220 = .ok (.iload 4, 2) := by decide +kernel
theorem dL_law_222 : decode code 222 = .ok (.iconst 2, 1) := by decide +kernel
theorem dL_law_223 : decode code 223 = .ok (.iadd, 1) := by decide +kernel
theorem dL_law_224 : decode code 224 = .ok (.iaload, 1) := by decide +kernel
theorem dL_law_225 : decode code 225 = .ok (.i2l, 1) := by decide +kernel
theorem dL_law_226 : decode code 226 = .ok (.bipush 32, 2) := by decide +kernel
theorem dL_law_228 : decode code 228 = .ok (.lshl, 1) := by decide +kernel
theorem dL_law_229 : decode code 229 = .ok (.aload_n 0, 1) := by decide +kernel
theorem dL_law_230 : decode code 230 = .ok (.iload 4, 2) := by decide +kernel
theorem dL_law_232 : decode code 232 = .ok (.iconst 3, 1) := by decide +kernel
theorem dL_law_233 : decode code 233 = .ok (.iadd, 1) := by decide +kernel
theorem dL_law_234 : decode code 234 = .ok (.iaload, 1) := by decide +kernel
theorem dL_law_235 : decode code 235 = .ok (.i2l, 1) := by decide +kernel
theorem dL_law_236 : decode code 236 = .ok (.ldc2_w 84, 3) := by decide +kernel
theorem dL_law_239 : decode code 239 = .ok (.land, 1) := by decide +kernel
theorem dL_law_240 : decode code 240 = .ok (.lor, 1) := by decide +kernel
theorem dL_law_241 : decode code 241 = .ok (.aload_n 0, 1) := by decide +kernel
theorem dL_law_242 : decode code 242 = .ok (.iload 4, 2) := by decide +kernel
theorem dL_law_244 : decode code 244 = .ok (.iconst 4, 1) := by decide +kernel
theorem dL_law_245 : decode code 245 = .ok (.iadd, 1) := by decide +kernel
theorem dL_law_246 : decode code 246 = .ok (.iaload, 1) := by decide +kernel
theorem dL_law_247 : decode code 247 = .ok (.i2l, 1) := by decide +kernel
theorem dL_law_248 : decode code 248 = .ok (.bipush 32, 2) := by decide +kernel
theorem dL_law_250 : decode code 250 = .ok (.lshl, 1) := by decide +kernel
theorem dL_law_251 : decode code 251 = .ok (.aload_n 0, 1) := by decide +kernel
theorem dL_law_252 : decode code 252 = .ok (.iload 4, 2) := by decide +kernel
theorem dL_law_254 : decode code 254 = .ok (.iconst 5, 1) := by decide +kernel
theorem dL_law_255 : decode code 255 = .ok (.iadd, 1) := by decide +kernel
theorem dL_law_256 : decode code 256 = .ok (.iaload, 1) := by decide +kernel
theorem dL_law_257 : decode code 257 = .ok (.i2l, 1) := by decide +kernel
theorem dL_law_258 : decode code 258 = .ok (.ldc2_w 84, 3) := by decide +kernel
theorem dL_law_261 : decode code 261 = .ok (.land, 1) := by decide +kernel
theorem dL_law_262 : decode code 262 = .ok (.lor, 1) := by decide +kernel
theorem dL_law_263 : decode code 263 = .ok (.aload_n 0, 1) := by decide +kernel
theorem dL_law_264 : decode code 264 = .ok (.iload 4, 2) := by decide +kernel
theorem dL_law_266 : decode code 266 = .ok (.bipush 6, 2) := by decide +kernel
theorem dL_law_268 : decode code 268 = .ok (.iadd, 1) := by decide +kernel
theorem dL_law_269 : decode code 269 = .ok (.iaload, 1) := by decide +kernel
theorem dL_law_270 : decode code 270 = .ok (.i2l, 1) := by decide +kernel
theorem dL_law_271 : decode code 271 = .ok (.bipush 32, 2) := by decide +kernel
theorem dL_law_273 : decode code 273 = .ok (.lshl, 1) := by decide +kernel
theorem dL_law_274 : decode code 274 = .ok (.aload_n 0, 1) := by decide +kernel
theorem dL_law_275 : decode code 275 = .ok (.iload 4, 2) := by decide +kernel
theorem dL_law_277 : decode code 277 = .ok (.bipush 7, 2) := by decide +kernel
theorem dL_law_279 : decode code 279 = .ok (.iadd, 1) := by decide +kernel
theorem dL_law_280 : decode code 280 = .ok (.iaload, 1) := by decide +kernel
theorem dL_law_281 : decode code 281 = .ok (.i2l, 1) := by decide +kernel
theorem dL_law_282 : decode code 282 = .ok (.ldc2_w 84, 3) := by decide +kernel
theorem dL_law_285 : decode code 285 = .ok (.land, 1) := by decide +kernel
theorem dL_law_286 : decode code 286 = .ok (.lor, 1) := by decide +kernel
theorem dL_law_287 : decode code 287 = .ok (.aload_n 3, 1) := by decide +kernel
theorem dL_law_288 : decode code 288 = .ok (.invokestatic 86, 3) := by decide +kernel
theorem dL_law_291 : decode code 291 = .ok (.istore 5, 2) := by decide +kernel
theorem dL_law_293 : decode code 293 = .ok (.aload_n 2, 1) := by decide +kernel
theorem dL_law_294 : decode code 294 = .ok (.aload_n 0, 1) := by decide +kernel
theorem dL_law_295 : decode code 295 = .ok (.iload 4, 2) := by decide +kernel
theorem dL_law_297 : decode code 297 = .ok (.iconst 1, 1) := by decide +kernel
theorem dL_law_298 : decode code 298 = .ok (.iadd, 1) := by decide +kernel
theorem dL_law_299 : decode code 299 = .ok (.iaload, 1) := by decide +kernel
theorem dL_law_300 : decode code 300 = .ok (.aload_n 0, 1) := by decide +kernel
theorem dL_law_301 : decode code 301 = .ok (.iload 4, 2) := by decide +kernel
theorem dL_law_303 : decode code 303 = .ok (.iconst 2, 1) := by decide +kernel
theorem dL_law_304 : decode code 304 = .ok (.iadd, 1) := by decide +kernel
theorem dL_law_305 : decode code 305 = .ok (.iaload, 1) := by decide +kernel
theorem dL_law_306 : decode code 306 = .ok (.i2l, 1) := by decide +kernel
theorem dL_law_307 : decode code 307 = .ok (.bipush 32, 2) := by decide +kernel
theorem dL_law_309 : decode code 309 = .ok (.lshl, 1) := by decide +kernel
theorem dL_law_310 : decode code 310 = .ok (.aload_n 0, 1) := by decide +kernel
theorem dL_law_311 : decode code 311 = .ok (.iload 4, 2) := by decide +kernel
theorem dL_law_313 : decode code 313 = .ok (.iconst 3, 1) := by decide +kernel
theorem dL_law_314 : decode code 314 = .ok (.iadd, 1) := by decide +kernel
theorem dL_law_315 : decode code 315 = .ok (.iaload, 1) := by decide +kernel
theorem dL_law_316 : decode code 316 = .ok (.i2l, 1) := by decide +kernel
theorem dL_law_317 : decode code 317 = .ok (.ldc2_w 84, 3) := by decide +kernel
theorem dL_law_320 : decode code 320 = .ok (.land, 1) := by decide +kernel
theorem dL_law_321 : decode code 321 = .ok (.lor, 1) := by decide +kernel
theorem dL_law_322 : decode code 322 = .ok (.aload_n 0, 1) := by decide +kernel
theorem dL_law_323 : decode code 323 = .ok (.iload 4, 2) := by decide +kernel
theorem dL_law_325 : decode code 325 = .ok (.iconst 4, 1) := by decide +kernel
theorem dL_law_326 : decode code 326 = .ok (.iadd, 1) := by decide +kernel
theorem dL_law_327 : decode code 327 = .ok (.iaload, 1) := by decide +kernel
theorem dL_law_328 : decode code 328 = .ok (.i2l, 1) := by decide +kernel
theorem dL_law_329 : decode code 329 = .ok (.bipush 32, 2) := by decide +kernel
theorem dL_law_331 : decode code 331 = .ok (.lshl, 1) := by decide +kernel
theorem dL_law_332 : decode code 332 = .ok (.aload_n 0, 1) := by decide +kernel
theorem dL_law_333 : decode code 333 = .ok (.iload 4, 2) := by decide +kernel
theorem dL_law_335 : decode code 335 = .ok (.iconst 5, 1) := by decide +kernel
theorem dL_law_336 : decode code 336 = .ok (.iadd, 1) := by decide +kernel
theorem dL_law_337 : decode code 337 = .ok (.iaload, 1) := by decide +kernel
theorem dL_law_338 : decode code 338 = .ok (.i2l, 1) := by decide +kernel
theorem dL_law_339 : decode code 339 = .ok (.ldc2_w 84, 3) := by decide +kernel
theorem dL_law_342 : decode code 342 = .ok (.land, 1) := by decide +kernel
theorem dL_law_343 : decode code 343 = .ok (.lor, 1) := by decide +kernel
theorem dL_law_344 : decode code 344 = .ok (.aload_n 0, 1) := by decide +kernel
theorem dL_law_345 : decode code 345 = .ok (.iload 4, 2) := by decide +kernel
theorem dL_law_347 : decode code 347 = .ok (.bipush 6, 2) := by decide +kernel
theorem dL_law_349 : decode code 349 = .ok (.iadd, 1) := by decide +kernel
theorem dL_law_350 : decode code 350 = .ok (.iaload, 1) := by decide +kernel
theorem dL_law_351 : decode code 351 = .ok (.i2l, 1) := by decide +kernel
theorem dL_law_352 : decode code 352 = .ok (.bipush 32, 2) := by decide +kernel
theorem dL_law_354 : decode code 354 = .ok (.lshl, 1) := by decide +kernel
theorem dL_law_355 : decode code 355 = .ok (.aload_n 0, 1) := by decide +kernel
theorem dL_law_356 : decode code 356 = .ok (.iload 4, 2) := by decide +kernel
theorem dL_law_358 : decode code 358 = .ok (.bipush 7, 2) := by decide +kernel
theorem dL_law_360 : decode code 360 = .ok (.iadd, 1) := by decide +kernel
theorem dL_law_361 : decode code 361 = .ok (.iaload, 1) := by decide +kernel
theorem dL_law_362 : decode code 362 = .ok (.i2l, 1) := by decide +kernel
theorem dL_law_363 : decode code 363 = .ok (.ldc2_w 84, 3) := by decide +kernel
theorem dL_law_366 : decode code 366 = .ok (.land, 1) := by decide +kernel
theorem dL_law_367 : decode code 367 = .ok (.lor, 1) := by decide +kernel
theorem dL_law_368 : decode code 368 = .ok (.invokevirtual 89, 3) := by decide +kernel
theorem dL_law_371 : decode code 371 = .ok (.istore 6, 2) := by decide +kernel
theorem dL_law_373 : decode code 373 = .ok (.aload_n 2, 1) := by decide +kernel
theorem dL_law_374 : decode code 374 = .ok (.invokevirtual 80, 3) := by decide +kernel
theorem dL_law_377 : decode code 377 = .ok (.iload 5, 2) := by decide +kernel
theorem dL_law_379 : decode code 379 = .ok (.if_icmp .eq 5, 3) := by decide +kernel
theorem dL_law_382 : decode code 382 = .ok (.iconst 0, 1) := by decide +kernel
theorem dL_law_383 : decode code 383 = .ok (.ireturn, 1) := by decide +kernel
theorem dL_law_384 : decode code 384 = .ok (.iload 5, 2) := by decide +kernel
theorem dL_law_386 : decode code 386 = .ok (.ifCond .ne 15, 3) := by decide +kernel
theorem dL_law_389 : decode code 389 = .ok (.aload_n 3, 1) := by decide +kernel
theorem dL_law_390 : decode code 390 = .ok (.iconst 0, 1) := by decide +kernel
theorem dL_law_391 : decode code 391 = .ok (.laload, 1) := by decide +kernel
theorem dL_law_392 : decode code 392 = .ok (.iload 6, 2) := by decide +kernel
theorem dL_law_394 : decode code 394 = .ok (.i2l, 1) := by decide +kernel
theorem dL_law_395 : decode code 395 = .ok (.lcmp, 1) := by decide +kernel
theorem dL_law_396 : decode code 396 = .ok (.ifCond .eq 5, 3) := by decide +kernel
theorem dL_law_399 : decode code 399 = .ok (.iconst 0, 1) := by decide +kernel
theorem dL_law_400 : decode code 400 = .ok (.ireturn, 1) := by decide +kernel
theorem dL_law_401 : decode code 401 = .ok (.goto 1021, 3) := by decide +kernel
theorem dL_law_404 : decode code 404 = .ok (.aload_n 1, 1) := by decide +kernel
theorem dL_law_405 : decode code 405 = .ok (.aload_n 0, 1) := by decide +kernel
theorem dL_law_406 : decode code 406 = .ok (.iload 4, 2) := by decide +kernel
theorem dL_law_408 : decode code 408 = .ok (.iconst 1, 1) := by decide +kernel
theorem dL_law_409 : decode code 409 = .ok (.iadd, 1) := by decide +kernel
theorem dL_law_410 : decode code 410 = .ok (.iaload, 1) := by decide +kernel
theorem dL_law_411 : decode code 411 = .ok (.aload_n 0, 1) := by decide +kernel
theorem dL_law_412 : decode code 412 = .ok (.iload 4, 2) := by decide +kernel
theorem dL_law_414 : decode code 414 = .ok (.iconst 2, 1) := by decide +kernel
theorem dL_law_415 : decode code 415 = .ok (.iadd, 1) := by decide +kernel
theorem dL_law_416 : decode code 416 = .ok (.iaload, 1) := by decide +kernel
theorem dL_law_417 : decode code 417 = .ok (.aload_n 3, 1) := by decide +kernel
theorem dL_law_418 : decode code 418 = .ok (.invokestatic 90, 3) := by decide +kernel
theorem dL_law_421 : decode code 421 = .ok (.istore 5, 2) := by decide +kernel
theorem dL_law_423 : decode code 423 = .ok (.aload_n 2, 1) := by decide +kernel
theorem dL_law_424 : decode code 424 = .ok (.aload_n 0, 1) := by decide +kernel
theorem dL_law_425 : decode code 425 = .ok (.iload 4, 2) := by decide +kernel
theorem dL_law_427 : decode code 427 = .ok (.iconst 1, 1) := by decide +kernel
theorem dL_law_428 : decode code 428 = .ok (.iadd, 1) := by decide +kernel
theorem dL_law_429 : decode code 429 = .ok (.iaload, 1) := by decide +kernel
theorem dL_law_430 : decode code 430 = .ok (.aload_n 0, 1) := by decide +kernel
theorem dL_law_431 : decode code 431 = .ok (.iload 4, 2) := by decide +kernel
theorem dL_law_433 : decode code 433 = .ok (.iconst 2, 1) := by decide +kernel
theorem dL_law_434 : decode code 434 = .ok (.iadd, 1) := by decide +kernel
theorem dL_law_435 : decode code 435 = .ok (.iaload, 1) := by decide +kernel
theorem dL_law_436 : decode code 436 = .ok (.invokevirtual 92, 3) := by decide +kernel
theorem dL_law_439 : decode code 439 = .ok (.istore 6, 2) := by decide +kernel
theorem dL_law_441 : decode code 441 = .ok (.aload_n 2, 1) := by decide +kernel
theorem dL_law_442 : decode code 442 = .ok (.invokevirtual 80, 3) := by decide +kernel
theorem dL_law_445 : decode code 445 = .ok (.iload 5, 2) := by decide +kernel
theorem dL_law_447 : decode code 447 = .ok (.if_icmp .eq 5, 3) := by decide +kernel
theorem dL_law_450 : decode code 450 = .ok (.iconst 0, 1) := by decide +kernel
theorem dL_law_451 : decode code 451 = .ok (.ireturn, 1) := by decide +kernel
theorem dL_law_452 : decode code 452 = .ok (.iload 5, 2) := by decide +kernel
theorem dL_law_454 : decode code 454 = .ok (.ifCond .ne 15, 3) := by decide +kernel
theorem dL_law_457 : decode code 457 = .ok (.aload_n 3, 1) := by decide +kernel
theorem dL_law_458 : decode code 458 = .ok (.iconst 0, 1) := by decide +kernel
theorem dL_law_459 : decode code 459 = .ok (.laload, 1) := by decide +kernel
theorem dL_law_460 : decode code 460 = .ok (.iload 6, 2) := by decide +kernel
theorem dL_law_462 : decode code 462 = .ok (.i2l, 1) := by decide +kernel
theorem dL_law_463 : decode code 463 = .ok (.lcmp, 1) := by decide +kernel
theorem dL_law_464 : decode code 464 = .ok (.ifCond .eq 5, 3) := by decide +kernel
theorem dL_law_467 : decode code 467 = .ok (.iconst 0, 1) := by decide +kernel
theorem dL_law_468 : decode code 468 = .ok (.ireturn, 1) := by decide +kernel
theorem dL_law_469 : decode code 469 = .ok (.goto 953, 3) := by decide +kernel
theorem dL_law_472 : decode code 472 = .ok (.aload_n 1, 1) := by decide +kernel
theorem dL_law_473 : decode code 473 = .ok (.aload_n 0, 1) := by decide +kernel
theorem dL_law_474 : decode code 474 = .ok (.iload 4, 2) := by decide +kernel
theorem dL_law_476 : decode code 476 = .ok (.iconst 1, 1) := by decide +kernel
theorem dL_law_477 : decode code 477 = .ok (.iadd, 1) := by decide +kernel
theorem dL_law_478 : decode code 478 = .ok (.iaload, 1) := by decide +kernel
theorem dL_law_479 : decode code 479 = .ok (.aload_n 0, 1) := by decide +kernel
theorem dL_law_480 : decode code 480 = .ok (.iload 4, 2) := by decide +kernel
theorem dL_law_482 : decode code 482 = .ok (.iconst 2, 1) := by decide +kernel
theorem dL_law_483 : decode code 483 = .ok (.iadd, 1) := by decide +kernel
theorem dL_law_484 : decode code 484 = .ok (.iaload, 1) := by decide +kernel
theorem dL_law_485 : decode code 485 = .ok (.aload_n 3, 1) := by decide +kernel
theorem dL_law_486 : decode code 486 = .ok (.invokestatic 93, 3) := by decide +kernel
theorem dL_law_489 : decode code 489 = .ok (.istore 5, 2) := by decide +kernel
theorem dL_law_491 : decode code 491 = .ok (.aload_n 2, 1) := by decide +kernel
theorem dL_law_492 : decode code 492 = .ok (.aload_n 0, 1) := by decide +kernel
theorem dL_law_493 : decode code 493 = .ok (.iload 4, 2) := by decide +kernel
theorem dL_law_495 : decode code 495 = .ok (.iconst 1, 1) := by decide +kernel
theorem dL_law_496 : decode code 496 = .ok (.iadd, 1) := by decide +kernel
theorem dL_law_497 : decode code 497 = .ok (.iaload, 1) := by decide +kernel
theorem dL_law_498 : decode code 498 = .ok (.aload_n 0, 1) := by decide +kernel
theorem dL_law_499 : decode code 499 = .ok (.iload 4, 2) := by decide +kernel
theorem dL_law_501 : decode code 501 = .ok (.iconst 2, 1) := by decide +kernel
theorem dL_law_502 : decode code 502 = .ok (.iadd, 1) := by decide +kernel
theorem dL_law_503 : decode code 503 = .ok (.iaload, 1) := by decide +kernel
theorem dL_law_504 : decode code 504 = .ok (.invokevirtual 95, 3) := by decide +kernel
theorem dL_law_507 : decode code 507 = .ok (.istore 6, 2) := by decide +kernel
theorem dL_law_509 : decode code 509 = .ok (.aload_n 2, 1) := by decide +kernel
theorem dL_law_510 : decode code 510 = .ok (.invokevirtual 80, 3) := by decide +kernel
theorem dL_law_513 : decode code 513 = .ok (.iload 5, 2) := by decide +kernel
theorem dL_law_515 : decode code 515 = .ok (.if_icmp .eq 5, 3) := by decide +kernel
theorem dL_law_518 : decode code 518 = .ok (.iconst 0, 1) := by decide +kernel
theorem dL_law_519 : decode code 519 = .ok (.ireturn, 1) := by decide +kernel
theorem dL_law_520 : decode code 520 = .ok (.iload 5, 2) := by decide +kernel
theorem dL_law_522 : decode code 522 = .ok (.ifCond .ne 22, 3) := by decide +kernel
theorem dL_law_525 : decode code 525 = .ok (.aload_n 3, 1) := by decide +kernel
theorem dL_law_526 : decode code 526 = .ok (.iconst 0, 1) := by decide +kernel
theorem dL_law_527 : decode code 527 = .ok (.laload, 1) := by decide +kernel
theorem dL_law_528 : decode code 528 = .ok (.iload 6, 2) := by decide +kernel
theorem dL_law_530 : decode code 530 = .ok (.ifCond .eq 7, 3) := by decide +kernel
theorem dL_law_533 : decode code 533 = .ok (.lconst 1, 1) := by decide +kernel
theorem dL_law_534 : decode code 534 = .ok (.goto 4, 3) := by decide +kernel
theorem dL_law_537 : decode code 537 = .ok (.lconst 0, 1) := by decide +kernel
theorem dL_law_538 : decode code 538 = .ok (.lcmp, 1) := by decide +kernel
theorem dL_law_539 : decode code 539 = .ok (.ifCond .eq 5, 3) := by decide +kernel
theorem dL_law_542 : decode code 542 = .ok (.iconst 0, 1) := by decide +kernel
theorem dL_law_543 : decode code 543 = .ok (.ireturn, 1) := by decide +kernel
theorem dL_law_544 : decode code 544 = .ok (.goto 878, 3) := by decide +kernel
theorem dL_law_547 : decode code 547 = .ok (.aload_n 1, 1) := by decide +kernel
theorem dL_law_548 : decode code 548 = .ok (.aload_n 0, 1) := by decide +kernel
theorem dL_law_549 : decode code 549 = .ok (.iload 4, 2) := by decide +kernel
theorem dL_law_551 : decode code 551 = .ok (.iconst 1, 1) := by decide +kernel
theorem dL_law_552 : decode code 552 = .ok (.iadd, 1) := by decide +kernel
theorem dL_law_553 : decode code 553 = .ok (.iaload, 1) := by decide +kernel
theorem dL_law_554 : decode code 554 = .ok (.aload_n 0, 1) := by decide +kernel
theorem dL_law_555 : decode code 555 = .ok (.iload 4, 2) := by decide +kernel
theorem dL_law_557 : decode code 557 = .ok (.iconst 2, 1) := by decide +kernel
theorem dL_law_558 : decode code 558 = .ok (.iadd, 1) := by decide +kernel
theorem dL_law_559 : decode code 559 = .ok (.iaload, 1) := by decide +kernel
theorem dL_law_560 : decode code 560 = .ok (.i2l, 1) := by decide +kernel
theorem dL_law_561 : decode code 561 = .ok (.bipush 32, 2) := by decide +kernel
theorem dL_law_563 : decode code 563 = .ok (.lshl, 1) := by decide +kernel
theorem dL_law_564 : decode code 564 = .ok (.aload_n 0, 1) := by decide +kernel
theorem dL_law_565 : decode code 565 = .ok (.iload 4, 2) := by decide +kernel
theorem dL_law_567 : decode code 567 = .ok (.iconst 3, 1) := by decide +kernel
theorem dL_law_568 : decode code 568 = .ok (.iadd, 1) := by decide +kernel
theorem dL_law_569 : decode code 569 = .ok (.iaload, 1) := by decide +kernel
theorem dL_law_570 : decode code 570 = .ok (.i2l, 1) := by decide +kernel
theorem dL_law_571 : decode code 571 = .ok (.ldc2_w 84, 3) := by decide +kernel
theorem dL_law_574 : decode code 574 = .ok (.land, 1) := by decide +kernel
theorem dL_law_575 : decode code 575 = .ok (.lor, 1) := by decide +kernel
theorem dL_law_576 : decode code 576 = .ok (.aload_n 3, 1) := by decide +kernel
theorem dL_law_577 : decode code 577 = .ok (.invokestatic 96, 3) := by decide +kernel
theorem dL_law_580 : decode code 580 = .ok (.istore 5, 2) := by decide +kernel
theorem dL_law_582 : decode code 582 = .ok (.aload_n 2, 1) := by decide +kernel
theorem dL_law_583 : decode code 583 = .ok (.aload_n 0, 1) := by decide +kernel
theorem dL_law_584 : decode code 584 = .ok (.iload 4, 2) := by decide +kernel
theorem dL_law_586 : decode code 586 = .ok (.iconst 1, 1) := by decide +kernel
theorem dL_law_587 : decode code 587 = .ok (.iadd, 1) := by decide +kernel
theorem dL_law_588 : decode code 588 = .ok (.iaload, 1) := by decide +kernel
theorem dL_law_589 : decode code 589 = .ok (.aload_n 0, 1) := by decide +kernel
theorem dL_law_590 : decode code 590 = .ok (.iload 4, 2) := by decide +kernel
theorem dL_law_592 : decode code 592 = .ok (.iconst 2, 1) := by decide +kernel
theorem dL_law_593 : decode code 593 = .ok (.iadd, 1) := by decide +kernel
theorem dL_law_594 : decode code 594 = .ok (.iaload, 1) := by decide +kernel
theorem dL_law_595 : decode code 595 = .ok (.i2l, 1) := by decide +kernel
theorem dL_law_596 : decode code 596 = .ok (.bipush 32, 2) := by decide +kernel
theorem dL_law_598 : decode code 598 = .ok (.lshl, 1) := by decide +kernel
theorem dL_law_599 : decode code 599 = .ok (.aload_n 0, 1) := by decide +kernel
theorem dL_law_600 : decode code 600 = .ok (.iload 4, 2) := by decide +kernel
theorem dL_law_602 : decode code 602 = .ok (.iconst 3, 1) := by decide +kernel
theorem dL_law_603 : decode code 603 = .ok (.iadd, 1) := by decide +kernel
theorem dL_law_604 : decode code 604 = .ok (.iaload, 1) := by decide +kernel
theorem dL_law_605 : decode code 605 = .ok (.i2l, 1) := by decide +kernel
theorem dL_law_606 : decode code 606 = .ok (.ldc2_w 84, 3) := by decide +kernel
theorem dL_law_609 : decode code 609 = .ok (.land, 1) := by decide +kernel
theorem dL_law_610 : decode code 610 = .ok (.lor, 1) := by decide +kernel
theorem dL_law_611 : decode code 611 = .ok (.invokevirtual 99, 3) := by decide +kernel
theorem dL_law_614 : decode code 614 = .ok (.istore 6, 2) := by decide +kernel
theorem dL_law_616 : decode code 616 = .ok (.aload_n 2, 1) := by decide +kernel
theorem dL_law_617 : decode code 617 = .ok (.invokevirtual 80, 3) := by decide +kernel
theorem dL_law_620 : decode code 620 = .ok (.iload 5, 2) := by decide +kernel
theorem dL_law_622 : decode code 622 = .ok (.if_icmp .eq 5, 3) := by decide +kernel
theorem dL_law_625 : decode code 625 = .ok (.iconst 0, 1) := by decide +kernel
theorem dL_law_626 : decode code 626 = .ok (.ireturn, 1) := by decide +kernel
theorem dL_law_627 : decode code 627 = .ok (.iload 5, 2) := by decide +kernel
theorem dL_law_629 : decode code 629 = .ok (.ifCond .ne 15, 3) := by decide +kernel
theorem dL_law_632 : decode code 632 = .ok (.aload_n 3, 1) := by decide +kernel
theorem dL_law_633 : decode code 633 = .ok (.iconst 0, 1) := by decide +kernel
theorem dL_law_634 : decode code 634 = .ok (.laload, 1) := by decide +kernel
theorem dL_law_635 : decode code 635 = .ok (.iload 6, 2) := by decide +kernel
theorem dL_law_637 : decode code 637 = .ok (.i2l, 1) := by decide +kernel
theorem dL_law_638 : decode code 638 = .ok (.lcmp, 1) := by decide +kernel
theorem dL_law_639 : decode code 639 = .ok (.ifCond .eq 5, 3) := by decide +kernel
theorem dL_law_642 : decode code 642 = .ok (.iconst 0, 1) := by decide +kernel
theorem dL_law_643 : decode code 643 = .ok (.ireturn, 1) := by decide +kernel
theorem dL_law_644 : decode code 644 = .ok (.goto 778, 3) := by decide +kernel
theorem dL_law_647 : decode code 647 = .ok (.aload_n 1, 1) := by decide +kernel
theorem dL_law_648 : decode code 648 = .ok (.aload_n 0, 1) := by decide +kernel
theorem dL_law_649 : decode code 649 = .ok (.iload 4, 2) := by decide +kernel
theorem dL_law_651 : decode code 651 = .ok (.iconst 1, 1) := by decide +kernel
theorem dL_law_652 : decode code 652 = .ok (.iadd, 1) := by decide +kernel
theorem dL_law_653 : decode code 653 = .ok (.iaload, 1) := by decide +kernel
theorem dL_law_654 : decode code 654 = .ok (.aload_n 0, 1) := by decide +kernel
theorem dL_law_655 : decode code 655 = .ok (.iload 4, 2) := by decide +kernel
theorem dL_law_657 : decode code 657 = .ok (.iconst 2, 1) := by decide +kernel
theorem dL_law_658 : decode code 658 = .ok (.iadd, 1) := by decide +kernel
theorem dL_law_659 : decode code 659 = .ok (.iaload, 1) := by decide +kernel
theorem dL_law_660 : decode code 660 = .ok (.aload_n 3, 1) := by decide +kernel
theorem dL_law_661 : decode code 661 = .ok (.invokestatic 100, 3) := by decide +kernel
theorem dL_law_664 : decode code 664 = .ok (.istore 5, 2) := by decide +kernel
theorem dL_law_666 : decode code 666 = .ok (.aload_n 2, 1) := by decide +kernel
theorem dL_law_667 : decode code 667 = .ok (.aload_n 0, 1) := by decide +kernel
theorem dL_law_668 : decode code 668 = .ok (.iload 4, 2) := by decide +kernel
theorem dL_law_670 : decode code 670 = .ok (.iconst 1, 1) := by decide +kernel
theorem dL_law_671 : decode code 671 = .ok (.iadd, 1) := by decide +kernel
theorem dL_law_672 : decode code 672 = .ok (.iaload, 1) := by decide +kernel
theorem dL_law_673 : decode code 673 = .ok (.aload_n 0, 1) := by decide +kernel
theorem dL_law_674 : decode code 674 = .ok (.iload 4, 2) := by decide +kernel
theorem dL_law_676 : decode code 676 = .ok (.iconst 2, 1) := by decide +kernel
theorem dL_law_677 : decode code 677 = .ok (.iadd, 1) := by decide +kernel
theorem dL_law_678 : decode code 678 = .ok (.iaload, 1) := by decide +kernel
theorem dL_law_679 : decode code 679 = .ok (.invokevirtual 102, 3) := by decide +kernel
theorem dL_law_682 : decode code 682 = .ok (.istore 6, 2) := by decide +kernel
theorem dL_law_684 : decode code 684 = .ok (.aload_n 2, 1) := by decide +kernel
theorem dL_law_685 : decode code 685 = .ok (.invokevirtual 80, 3) := by decide +kernel
theorem dL_law_688 : decode code 688 = .ok (.iload 5, 2) := by decide +kernel
theorem dL_law_690 : decode code 690 = .ok (.if_icmp .eq 5, 3) := by decide +kernel
theorem dL_law_693 : decode code 693 = .ok (.iconst 0, 1) := by decide +kernel
theorem dL_law_694 : decode code 694 = .ok (.ireturn, 1) := by decide +kernel
theorem dL_law_695 : decode code 695 = .ok (.iload 5, 2) := by decide +kernel
theorem dL_law_697 : decode code 697 = .ok (.ifCond .ne 15, 3) := by decide +kernel
theorem dL_law_700 : decode code 700 = .ok (.aload_n 3, 1) := by decide +kernel
theorem dL_law_701 : decode code 701 = .ok (.iconst 0, 1) := by decide +kernel
theorem dL_law_702 : decode code 702 = .ok (.laload, 1) := by decide +kernel
theorem dL_law_703 : decode code 703 = .ok (.iload 6, 2) := by decide +kernel
theorem dL_law_705 : decode code 705 = .ok (.i2l, 1) := by decide +kernel
theorem dL_law_706 : decode code 706 = .ok (.lcmp, 1) := by decide +kernel
theorem dL_law_707 : decode code 707 = .ok (.ifCond .eq 5, 3) := by decide +kernel
theorem dL_law_710 : decode code 710 = .ok (.iconst 0, 1) := by decide +kernel
theorem dL_law_711 : decode code 711 = .ok (.ireturn, 1) := by decide +kernel
theorem dL_law_712 : decode code 712 = .ok (.goto 710, 3) := by decide +kernel
theorem dL_law_715 : decode code 715 = .ok (.aload_n 1, 1) := by decide +kernel
theorem dL_law_716 : decode code 716 = .ok (.aload_n 0, 1) := by decide +kernel
theorem dL_law_717 : decode code 717 = .ok (.iload 4, 2) := by decide +kernel
theorem dL_law_719 : decode code 719 = .ok (.iconst 1, 1) := by decide +kernel
theorem dL_law_720 : decode code 720 = .ok (.iadd, 1) := by decide +kernel
theorem dL_law_721 : decode code 721 = .ok (.iaload, 1) := by decide +kernel
theorem dL_law_722 : decode code 722 = .ok (.aload_n 0, 1) := by decide +kernel
theorem dL_law_723 : decode code 723 = .ok (.iload 4, 2) := by decide +kernel
theorem dL_law_725 : decode code 725 = .ok (.iconst 2, 1) := by decide +kernel
theorem dL_law_726 : decode code 726 = .ok (.iadd, 1) := by decide +kernel
theorem dL_law_727 : decode code 727 = .ok (.iaload, 1) := by decide +kernel
theorem dL_law_728 : decode code 728 = .ok (.aload_n 3, 1) := by decide +kernel
theorem dL_law_729 : decode code 729 = .ok (.invokestatic 103, 3) := by decide +kernel
theorem dL_law_732 : decode code 732 = .ok (.istore 5, 2) := by decide +kernel
theorem dL_law_734 : decode code 734 = .ok (.aload_n 2, 1) := by decide +kernel
theorem dL_law_735 : decode code 735 = .ok (.aload_n 0, 1) := by decide +kernel
theorem dL_law_736 : decode code 736 = .ok (.iload 4, 2) := by decide +kernel
theorem dL_law_738 : decode code 738 = .ok (.iconst 1, 1) := by decide +kernel
theorem dL_law_739 : decode code 739 = .ok (.iadd, 1) := by decide +kernel
theorem dL_law_740 : decode code 740 = .ok (.iaload, 1) := by decide +kernel
theorem dL_law_741 : decode code 741 = .ok (.aload_n 0, 1) := by decide +kernel
theorem dL_law_742 : decode code 742 = .ok (.iload 4, 2) := by decide +kernel
theorem dL_law_744 : decode code 744 = .ok (.iconst 2, 1) := by decide +kernel
theorem dL_law_745 : decode code 745 = .ok (.iadd, 1) := by decide +kernel
theorem dL_law_746 : decode code 746 = .ok (.iaload, 1) := by decide +kernel
theorem dL_law_747 : decode code 747 = .ok (.invokevirtual 105, 3) := by decide +kernel
theorem dL_law_750 : decode code 750 = .ok (.istore 6, 2) := by decide +kernel
theorem dL_law_752 : decode code 752 = .ok (.aload_n 2, 1) := by decide +kernel
theorem dL_law_753 : decode code 753 = .ok (.invokevirtual 80, 3) := by decide +kernel
theorem dL_law_756 : decode code 756 = .ok (.iload 5, 2) := by decide +kernel
theorem dL_law_758 : decode code 758 = .ok (.if_icmp .eq 5, 3) := by decide +kernel
theorem dL_law_761 : decode code 761 = .ok (.iconst 0, 1) := by decide +kernel
theorem dL_law_762 : decode code 762 = .ok (.ireturn, 1) := by decide +kernel
theorem dL_law_763 : decode code 763 = .ok (.iload 5, 2) := by decide +kernel
theorem dL_law_765 : decode code 765 = .ok (.ifCond .ne 15, 3) := by decide +kernel
theorem dL_law_768 : decode code 768 = .ok (.aload_n 3, 1) := by decide +kernel
theorem dL_law_769 : decode code 769 = .ok (.iconst 0, 1) := by decide +kernel
theorem dL_law_770 : decode code 770 = .ok (.laload, 1) := by decide +kernel
theorem dL_law_771 : decode code 771 = .ok (.iload 6, 2) := by decide +kernel
theorem dL_law_773 : decode code 773 = .ok (.i2l, 1) := by decide +kernel
theorem dL_law_774 : decode code 774 = .ok (.lcmp, 1) := by decide +kernel
theorem dL_law_775 : decode code 775 = .ok (.ifCond .eq 5, 3) := by decide +kernel
theorem dL_law_778 : decode code 778 = .ok (.iconst 0, 1) := by decide +kernel
theorem dL_law_779 : decode code 779 = .ok (.ireturn, 1) := by decide +kernel
theorem dL_law_780 : decode code 780 = .ok (.goto 642, 3) := by decide +kernel
theorem dL_law_783 : decode code 783 = .ok (.aload_n 1, 1) := by decide +kernel
theorem dL_law_784 : decode code 784 = .ok (.aload_n 0, 1) := by decide +kernel
theorem dL_law_785 : decode code 785 = .ok (.iload 4, 2) := by decide +kernel
theorem dL_law_787 : decode code 787 = .ok (.iconst 1, 1) := by decide +kernel
theorem dL_law_788 : decode code 788 = .ok (.iadd, 1) := by decide +kernel
theorem dL_law_789 : decode code 789 = .ok (.iaload, 1) := by decide +kernel
theorem dL_law_790 : decode code 790 = .ok (.aload_n 0, 1) := by decide +kernel
theorem dL_law_791 : decode code 791 = .ok (.iload 4, 2) := by decide +kernel
theorem dL_law_793 : decode code 793 = .ok (.iconst 2, 1) := by decide +kernel
theorem dL_law_794 : decode code 794 = .ok (.iadd, 1) := by decide +kernel
theorem dL_law_795 : decode code 795 = .ok (.iaload, 1) := by decide +kernel
theorem dL_law_796 : decode code 796 = .ok (.aload_n 3, 1) := by decide +kernel
theorem dL_law_797 : decode code 797 = .ok (.invokestatic 106, 3) := by decide +kernel
theorem dL_law_800 : decode code 800 = .ok (.istore 5, 2) := by decide +kernel
theorem dL_law_802 : decode code 802 = .ok (.aload_n 2, 1) := by decide +kernel
theorem dL_law_803 : decode code 803 = .ok (.aload_n 0, 1) := by decide +kernel
theorem dL_law_804 : decode code 804 = .ok (.iload 4, 2) := by decide +kernel
theorem dL_law_806 : decode code 806 = .ok (.iconst 1, 1) := by decide +kernel
theorem dL_law_807 : decode code 807 = .ok (.iadd, 1) := by decide +kernel
theorem dL_law_808 : decode code 808 = .ok (.iaload, 1) := by decide +kernel
theorem dL_law_809 : decode code 809 = .ok (.aload_n 0, 1) := by decide +kernel
theorem dL_law_810 : decode code 810 = .ok (.iload 4, 2) := by decide +kernel
theorem dL_law_812 : decode code 812 = .ok (.iconst 2, 1) := by decide +kernel
theorem dL_law_813 : decode code 813 = .ok (.iadd, 1) := by decide +kernel
theorem dL_law_814 : decode code 814 = .ok (.iaload, 1) := by decide +kernel
theorem dL_law_815 : decode code 815 = .ok (.invokevirtual 108, 3) := by decide +kernel
theorem dL_law_818 : decode code 818 = .ok (.istore 6, 2) := by decide +kernel
theorem dL_law_820 : decode code 820 = .ok (.aload_n 2, 1) := by decide +kernel
theorem dL_law_821 : decode code 821 = .ok (.invokevirtual 80, 3) := by decide +kernel
theorem dL_law_824 : decode code 824 = .ok (.iload 5, 2) := by decide +kernel
theorem dL_law_826 : decode code 826 = .ok (.if_icmp .eq 5, 3) := by decide +kernel
theorem dL_law_829 : decode code 829 = .ok (.iconst 0, 1) := by decide +kernel
theorem dL_law_830 : decode code 830 = .ok (.ireturn, 1) := by decide +kernel
theorem dL_law_831 : decode code 831 = .ok (.iload 5, 2) := by decide +kernel
theorem dL_law_833 : decode code 833 = .ok (.ifCond .ne 15, 3) := by decide +kernel
theorem dL_law_836 : decode code 836 = .ok (.aload_n 3, 1) := by decide +kernel
theorem dL_law_837 : decode code 837 = .ok (.iconst 0, 1) := by decide +kernel
theorem dL_law_838 : decode code 838 = .ok (.laload, 1) := by decide +kernel
theorem dL_law_839 : decode code 839 = .ok (.iload 6, 2) := by decide +kernel
theorem dL_law_841 : decode code 841 = .ok (.i2l, 1) := by decide +kernel
theorem dL_law_842 : decode code 842 = .ok (.lcmp, 1) := by decide +kernel
theorem dL_law_843 : decode code 843 = .ok (.ifCond .eq 5, 3) := by decide +kernel
theorem dL_law_846 : decode code 846 = .ok (.iconst 0, 1) := by decide +kernel
theorem dL_law_847 : decode code 847 = .ok (.ireturn, 1) := by decide +kernel
theorem dL_law_848 : decode code 848 = .ok (.goto 574, 3) := by decide +kernel
theorem dL_law_851 : decode code 851 = .ok (.aload_n 1, 1) := by decide +kernel
theorem dL_law_852 : decode code 852 = .ok (.invokevirtual 109, 3) := by decide +kernel
theorem dL_law_855 : decode code 855 = .ok (.aload_n 2, 1) := by decide +kernel
theorem dL_law_856 : decode code 856 = .ok (.invokevirtual 113, 3) := by decide +kernel
theorem dL_law_859 : decode code 859 = .ok (.if_icmp .eq 563, 3) := by decide +kernel
theorem dL_law_862 : decode code 862 = .ok (.iconst 0, 1) := by decide +kernel
theorem dL_law_863 : decode code 863 = .ok (.ireturn, 1) := by decide +kernel
theorem dL_law_864 : decode code 864 = .ok (.aload_n 1, 1) := by decide +kernel
theorem dL_law_865 : decode code 865 = .ok (.invokevirtual 114, 3) := by decide +kernel
theorem dL_law_868 : decode code 868 = .ok (.aload_n 2, 1) := by decide +kernel
theorem dL_law_869 : decode code 869 = .ok (.invokevirtual 118, 3) := by decide +kernel
theorem dL_law_872 : decode code 872 = .ok (.lcmp, 1) := by decide +kernel
theorem dL_law_873 : decode code 873 = .ok (.ifCond .eq 549, 3) := by decide +kernel
theorem dL_law_876 : decode code 876 = .ok (.iconst 0, 1) := by decide +kernel
theorem dL_law_877 : decode code 877 = .ok (.ireturn, 1) := by decide +kernel
theorem dL_law_878 : decode code 878 = .ok (.aload_n 1, 1) := by decide +kernel
theorem dL_law_879 : decode code 879 = .ok (.aload_n 0, 1) := by decide +kernel
theorem dL_law_880 : decode code 880 = .ok (.iload 4, 2) := by decide +kernel
theorem dL_law_882 : decode code 882 = .ok (.iconst 1, 1) := by decide +kernel
theorem dL_law_883 : decode code 883 = .ok (.iadd, 1) := by decide +kernel
theorem dL_law_884 : decode code 884 = .ok (.iaload, 1) := by decide +kernel
theorem dL_law_885 : decode code 885 = .ok (.aload_n 0, 1) := by decide +kernel
theorem dL_law_886 : decode code 886 = .ok (.iload 4, 2) := by decide +kernel
theorem dL_law_888 : decode code 888 = .ok (.iconst 2, 1) := by decide +kernel
theorem dL_law_889 : decode code 889 = .ok (.iadd, 1) := by decide +kernel
theorem dL_law_890 : decode code 890 = .ok (.iaload, 1) := by decide +kernel
theorem dL_law_891 : decode code 891 = .ok (.aload_n 3, 1) := by decide +kernel
theorem dL_law_892 : decode code 892 = .ok (.invokestatic 119, 3) := by decide +kernel
theorem dL_law_895 : decode code 895 = .ok (.istore 5, 2) := by decide +kernel
theorem dL_law_897 : decode code 897 = .ok (.aload_n 2, 1) := by decide +kernel
theorem dL_law_898 : decode code 898 = .ok (.aload_n 0, 1) := by decide +kernel
theorem dL_law_899 : decode code 899 = .ok (.iload 4, 2) := by decide +kernel
theorem dL_law_901 : decode code 901 = .ok (.iconst 1, 1) := by decide +kernel
theorem dL_law_902 : decode code 902 = .ok (.iadd, 1) := by decide +kernel
theorem dL_law_903 : decode code 903 = .ok (.iaload, 1) := by decide +kernel
theorem dL_law_904 : decode code 904 = .ok (.aload_n 0, 1) := by decide +kernel
theorem dL_law_905 : decode code 905 = .ok (.iload 4, 2) := by decide +kernel
theorem dL_law_907 : decode code 907 = .ok (.iconst 2, 1) := by decide +kernel
theorem dL_law_908 : decode code 908 = .ok (.iadd, 1) := by decide +kernel
theorem dL_law_909 : decode code 909 = .ok (.iaload, 1) := by decide +kernel
theorem dL_law_910 : decode code 910 = .ok (.invokevirtual 121, 3) := by decide +kernel
theorem dL_law_913 : decode code 913 = .ok (.istore 6, 2) := by decide +kernel
theorem dL_law_915 : decode code 915 = .ok (.aload_n 2, 1) := by decide +kernel
theorem dL_law_916 : decode code 916 = .ok (.invokevirtual 80, 3) := by decide +kernel
theorem dL_law_919 : decode code 919 = .ok (.iload 5, 2) := by decide +kernel
theorem dL_law_921 : decode code 921 = .ok (.if_icmp .eq 5, 3) := by decide +kernel
theorem dL_law_924 : decode code 924 = .ok (.iconst 0, 1) := by decide +kernel
theorem dL_law_925 : decode code 925 = .ok (.ireturn, 1) := by decide +kernel
theorem dL_law_926 : decode code 926 = .ok (.iload 5, 2) := by decide +kernel
theorem dL_law_928 : decode code 928 = .ok (.ifCond .ne 22, 3) := by decide +kernel
theorem dL_law_931 : decode code 931 = .ok (.aload_n 3, 1) := by decide +kernel
theorem dL_law_932 : decode code 932 = .ok (.iconst 0, 1) := by decide +kernel
theorem dL_law_933 : decode code 933 = .ok (.laload, 1) := by decide +kernel
theorem dL_law_934 : decode code 934 = .ok (.iload 6, 2) := by decide +kernel
theorem dL_law_936 : decode code 936 = .ok (.ifCond .eq 7, 3) := by decide +kernel
theorem dL_law_939 : decode code 939 = .ok (.lconst 1, 1) := by decide +kernel
theorem dL_law_940 : decode code 940 = .ok (.goto 4, 3) := by decide +kernel
theorem dL_law_943 : decode code 943 = .ok (.lconst 0, 1) := by decide +kernel
theorem dL_law_944 : decode code 944 = .ok (.lcmp, 1) := by decide +kernel
theorem dL_law_945 : decode code 945 = .ok (.ifCond .eq 5, 3) := by decide +kernel
theorem dL_law_948 : decode code 948 = .ok (.iconst 0, 1) := by decide +kernel
theorem dL_law_949 : decode code 949 = .ok (.ireturn, 1) := by decide +kernel
theorem dL_law_950 : decode code 950 = .ok (.goto 472, 3) := by decide +kernel
theorem dL_law_953 : decode code 953 = .ok (.aload_n 1, 1) := by decide +kernel
theorem dL_law_954 : decode code 954 = .ok (.aload_n 0, 1) := by decide +kernel
theorem dL_law_955 : decode code 955 = .ok (.iload 4, 2) := by decide +kernel
theorem dL_law_957 : decode code 957 = .ok (.iconst 1, 1) := by decide +kernel
theorem dL_law_958 : decode code 958 = .ok (.iadd, 1) := by decide +kernel
theorem dL_law_959 : decode code 959 = .ok (.iaload, 1) := by decide +kernel
theorem dL_law_960 : decode code 960 = .ok (.aload_n 0, 1) := by decide +kernel
theorem dL_law_961 : decode code 961 = .ok (.iload 4, 2) := by decide +kernel
theorem dL_law_963 : decode code 963 = .ok (.iconst 2, 1) := by decide +kernel
theorem dL_law_964 : decode code 964 = .ok (.iadd, 1) := by decide +kernel
theorem dL_law_965 : decode code 965 = .ok (.iaload, 1) := by decide +kernel
theorem dL_law_966 : decode code 966 = .ok (.aload_n 3, 1) := by decide +kernel
theorem dL_law_967 : decode code 967 = .ok (.invokestatic 122, 3) := by decide +kernel
theorem dL_law_970 : decode code 970 = .ok (.istore 5, 2) := by decide +kernel
theorem dL_law_972 : decode code 972 = .ok (.aload_n 2, 1) := by decide +kernel
theorem dL_law_973 : decode code 973 = .ok (.aload_n 0, 1) := by decide +kernel
theorem dL_law_974 : decode code 974 = .ok (.iload 4, 2) := by decide +kernel
theorem dL_law_976 : decode code 976 = .ok (.iconst 1, 1) := by decide +kernel
theorem dL_law_977 : decode code 977 = .ok (.iadd, 1) := by decide +kernel
theorem dL_law_978 : decode code 978 = .ok (.iaload, 1) := by decide +kernel
theorem dL_law_979 : decode code 979 = .ok (.aload_n 0, 1) := by decide +kernel
theorem dL_law_980 : decode code 980 = .ok (.iload 4, 2) := by decide +kernel
theorem dL_law_982 : decode code 982 = .ok (.iconst 2, 1) := by decide +kernel
theorem dL_law_983 : decode code 983 = .ok (.iadd, 1) := by decide +kernel
theorem dL_law_984 : decode code 984 = .ok (.iaload, 1) := by decide +kernel
theorem dL_law_985 : decode code 985 = .ok (.invokevirtual 124, 3) := by decide +kernel
theorem dL_law_988 : decode code 988 = .ok (.istore 6, 2) := by decide +kernel
theorem dL_law_990 : decode code 990 = .ok (.aload_n 2, 1) := by decide +kernel
theorem dL_law_991 : decode code 991 = .ok (.invokevirtual 80, 3) := by decide +kernel
theorem dL_law_994 : decode code 994 = .ok (.iload 5, 2) := by decide +kernel
theorem dL_law_996 : decode code 996 = .ok (.if_icmp .eq 5, 3) := by decide +kernel
theorem dL_law_999 : decode code 999 = .ok (.iconst 0, 1) := by decide +kernel
theorem dL_law_1000 : decode code 1000 = .ok (.ireturn, 1) := by decide +kernel
theorem dL_law_1001 : decode code 1001 = .ok (.iload 5, 2) := by decide +kernel
theorem dL_law_1003 : decode code 1003 = .ok (.ifCond .ne 22, 3) := by decide +kernel
theorem dL_law_1006 : decode code 1006 = .ok (.aload_n 3, 1) := by decide +kernel
theorem dL_law_1007 : decode code 1007 = .ok (.iconst 0, 1) := by decide +kernel
theorem dL_law_1008 : decode code 1008 = .ok (.laload, 1) := by decide +kernel
theorem dL_law_1009 : decode code 1009 = .ok (.iload 6, 2) := by decide +kernel
theorem dL_law_1011 : decode code 1011 = .ok (.ifCond .eq 7, 3) := by decide +kernel
theorem dL_law_1014 : decode code 1014 = .ok (.lconst 1, 1) := by decide +kernel
theorem dL_law_1015 : decode code 1015 = .ok (.goto 4, 3) := by decide +kernel
theorem dL_law_1018 : decode code 1018 = .ok (.lconst 0, 1) := by decide +kernel
theorem dL_law_1019 : decode code 1019 = .ok (.lcmp, 1) := by decide +kernel
theorem dL_law_1020 : decode code 1020 = .ok (.ifCond .eq 5, 3) := by decide +kernel
theorem dL_law_1023 : decode code 1023 = .ok (.iconst 0, 1) := by decide +kernel
theorem dL_law_1024 : decode code 1024 = .ok (.ireturn, 1) := by decide +kernel
theorem dL_law_1025 : decode code 1025 = .ok (.goto 397, 3) := by decide +kernel
theorem dL_law_1028 : decode code 1028 = .ok (.aload_n 1, 1) := by decide +kernel
theorem dL_law_1029 : decode code 1029 = .ok (.aload_n 0, 1) := by decide +kernel
theorem dL_law_1030 : decode code 1030 = .ok (.iload 4, 2) := by decide +kernel
theorem dL_law_1032 : decode code 1032 = .ok (.iconst 1, 1) := by decide +kernel
theorem dL_law_1033 : decode code 1033 = .ok (.iadd, 1) := by decide +kernel
theorem dL_law_1034 : decode code 1034 = .ok (.iaload, 1) := by decide +kernel
theorem dL_law_1035 : decode code 1035 = .ok (.aload_n 0, 1) := by decide +kernel
theorem dL_law_1036 : decode code 1036 = .ok (.iload 4, 2) := by decide +kernel
theorem dL_law_1038 : decode code 1038 = .ok (.iconst 2, 1) := by decide +kernel
theorem dL_law_1039 : decode code 1039 = .ok (.iadd, 1) := by decide +kernel
theorem dL_law_1040 : decode code 1040 = .ok (.iaload, 1) := by decide +kernel
theorem dL_law_1041 : decode code 1041 = .ok (.i2l, 1) := by decide +kernel
theorem dL_law_1042 : decode code 1042 = .ok (.bipush 32, 2) := by decide +kernel
theorem dL_law_1044 : decode code 1044 = .ok (.lshl, 1) := by decide +kernel
theorem dL_law_1045 : decode code 1045 = .ok (.aload_n 0, 1) := by decide +kernel
theorem dL_law_1046 : decode code 1046 = .ok (.iload 4, 2) := by decide +kernel
theorem dL_law_1048 : decode code 1048 = .ok (.iconst 3, 1) := by decide +kernel
theorem dL_law_1049 : decode code 1049 = .ok (.iadd, 1) := by decide +kernel
theorem dL_law_1050 : decode code 1050 = .ok (.iaload, 1) := by decide +kernel
theorem dL_law_1051 : decode code 1051 = .ok (.i2l, 1) := by decide +kernel
theorem dL_law_1052 : decode code 1052 = .ok (.ldc2_w 84, 3) := by decide +kernel
theorem dL_law_1055 : decode code 1055 = .ok (.land, 1) := by decide +kernel
theorem dL_law_1056 : decode code 1056 = .ok (.lor, 1) := by decide +kernel
theorem dL_law_1057 : decode code 1057 = .ok (.aload_n 0, 1) := by decide +kernel
theorem dL_law_1058 : decode code 1058 = .ok (.iload 4, 2) := by decide +kernel
theorem dL_law_1060 : decode code 1060 = .ok (.iconst 4, 1) := by decide +kernel
theorem dL_law_1061 : decode code 1061 = .ok (.iadd, 1) := by decide +kernel
theorem dL_law_1062 : decode code 1062 = .ok (.iaload, 1) := by decide +kernel
theorem dL_law_1063 : decode code 1063 = .ok (.i2l, 1) := by decide +kernel
theorem dL_law_1064 : decode code 1064 = .ok (.bipush 32, 2) := by decide +kernel
theorem dL_law_1066 : decode code 1066 = .ok (.lshl, 1) := by decide +kernel
theorem dL_law_1067 : decode code 1067 = .ok (.aload_n 0, 1) := by decide +kernel
theorem dL_law_1068 : decode code 1068 = .ok (.iload 4, 2) := by decide +kernel
theorem dL_law_1070 : decode code 1070 = .ok (.iconst 5, 1) := by decide +kernel
theorem dL_law_1071 : decode code 1071 = .ok (.iadd, 1) := by decide +kernel
theorem dL_law_1072 : decode code 1072 = .ok (.iaload, 1) := by decide +kernel
theorem dL_law_1073 : decode code 1073 = .ok (.i2l, 1) := by decide +kernel
theorem dL_law_1074 : decode code 1074 = .ok (.ldc2_w 84, 3) := by decide +kernel
theorem dL_law_1077 : decode code 1077 = .ok (.land, 1) := by decide +kernel
theorem dL_law_1078 : decode code 1078 = .ok (.lor, 1) := by decide +kernel
theorem dL_law_1079 : decode code 1079 = .ok (.aload_n 3, 1) := by decide +kernel
theorem dL_law_1080 : decode code 1080 = .ok (.invokestatic 125, 3) := by decide +kernel
theorem dL_law_1083 : decode code 1083 = .ok (.istore 5, 2) := by decide +kernel
theorem dL_law_1085 : decode code 1085 = .ok (.aload_n 2, 1) := by decide +kernel
theorem dL_law_1086 : decode code 1086 = .ok (.aload_n 0, 1) := by decide +kernel
theorem dL_law_1087 : decode code 1087 = .ok (.iload 4, 2) := by decide +kernel
theorem dL_law_1089 : decode code 1089 = .ok (.iconst 1, 1) := by decide +kernel
theorem dL_law_1090 : decode code 1090 = .ok (.iadd, 1) := by decide +kernel
theorem dL_law_1091 : decode code 1091 = .ok (.iaload, 1) := by decide +kernel
theorem dL_law_1092 : decode code 1092 = .ok (.aload_n 0, 1) := by decide +kernel
theorem dL_law_1093 : decode code 1093 = .ok (.iload 4, 2) := by decide +kernel
theorem dL_law_1095 : decode code 1095 = .ok (.iconst 2, 1) := by decide +kernel
theorem dL_law_1096 : decode code 1096 = .ok (.iadd, 1) := by decide +kernel
theorem dL_law_1097 : decode code 1097 = .ok (.iaload, 1) := by decide +kernel
theorem dL_law_1098 : decode code 1098 = .ok (.i2l, 1) := by decide +kernel
theorem dL_law_1099 : decode code 1099 = .ok (.bipush 32, 2) := by decide +kernel
theorem dL_law_1101 : decode code 1101 = .ok (.lshl, 1) := by decide +kernel
theorem dL_law_1102 : decode code 1102 = .ok (.aload_n 0, 1) := by decide +kernel
theorem dL_law_1103 : decode code 1103 = .ok (.iload 4, 2) := by decide +kernel
theorem dL_law_1105 : decode code 1105 = .ok (.iconst 3, 1) := by decide +kernel
theorem dL_law_1106 : decode code 1106 = .ok (.iadd, 1) := by decide +kernel
theorem dL_law_1107 : decode code 1107 = .ok (.iaload, 1) := by decide +kernel
theorem dL_law_1108 : decode code 1108 = .ok (.i2l, 1) := by decide +kernel
theorem dL_law_1109 : decode code 1109 = .ok (.ldc2_w 84, 3) := by decide +kernel
theorem dL_law_1112 : decode code 1112 = .ok (.land, 1) := by decide +kernel
theorem dL_law_1113 : decode code 1113 = .ok (.lor, 1) := by decide +kernel
theorem dL_law_1114 : decode code 1114 = .ok (.aload_n 0, 1) := by decide +kernel
theorem dL_law_1115 : decode code 1115 = .ok (.iload 4, 2) := by decide +kernel
theorem dL_law_1117 : decode code 1117 = .ok (.iconst 4, 1) := by decide +kernel
theorem dL_law_1118 : decode code 1118 = .ok (.iadd, 1) := by decide +kernel
theorem dL_law_1119 : decode code 1119 = .ok (.iaload, 1) := by decide +kernel
theorem dL_law_1120 : decode code 1120 = .ok (.i2l, 1) := by decide +kernel
theorem dL_law_1121 : decode code 1121 = .ok (.bipush 32, 2) := by decide +kernel
theorem dL_law_1123 : decode code 1123 = .ok (.lshl, 1) := by decide +kernel
theorem dL_law_1124 : decode code 1124 = .ok (.aload_n 0, 1) := by decide +kernel
theorem dL_law_1125 : decode code 1125 = .ok (.iload 4, 2) := by decide +kernel
theorem dL_law_1127 : decode code 1127 = .ok (.iconst 5, 1) := by decide +kernel
theorem dL_law_1128 : decode code 1128 = .ok (.iadd, 1) := by decide +kernel
theorem dL_law_1129 : decode code 1129 = .ok (.iaload, 1) := by decide +kernel
theorem dL_law_1130 : decode code 1130 = .ok (.i2l, 1) := by decide +kernel
theorem dL_law_1131 : decode code 1131 = .ok (.ldc2_w 84, 3) := by decide +kernel
theorem dL_law_1134 : decode code 1134 = .ok (.land, 1) := by decide +kernel
theorem dL_law_1135 : decode code 1135 = .ok (.lor, 1) := by decide +kernel
theorem dL_law_1136 : decode code 1136 = .ok (.invokevirtual 128, 3) := by decide +kernel
theorem dL_law_1139 : decode code 1139 = .ok (.istore 6, 2) := by decide +kernel
theorem dL_law_1141 : decode code 1141 = .ok (.aload_n 2, 1) := by decide +kernel
theorem dL_law_1142 : decode code 1142 = .ok (.invokevirtual 80, 3) := by decide +kernel
theorem dL_law_1145 : decode code 1145 = .ok (.iload 5, 2) := by decide +kernel
theorem dL_law_1147 : decode code 1147 = .ok (.if_icmp .eq 5, 3) := by decide +kernel
theorem dL_law_1150 : decode code 1150 = .ok (.iconst 0, 1) := by decide +kernel
theorem dL_law_1151 : decode code 1151 = .ok (.ireturn, 1) := by decide +kernel
theorem dL_law_1152 : decode code 1152 = .ok (.iload 5, 2) := by decide +kernel
theorem dL_law_1154 : decode code 1154 = .ok (.ifCond .ne 22, 3) := by decide +kernel
theorem dL_law_1157 : decode code 1157 = .ok (.aload_n 3, 1) := by decide +kernel
theorem dL_law_1158 : decode code 1158 = .ok (.iconst 0, 1) := by decide +kernel
theorem dL_law_1159 : decode code 1159 = .ok (.laload, 1) := by decide +kernel
theorem dL_law_1160 : decode code 1160 = .ok (.iload 6, 2) := by decide +kernel
theorem dL_law_1162 : decode code 1162 = .ok (.ifCond .eq 7, 3) := by decide +kernel
theorem dL_law_1165 : decode code 1165 = .ok (.lconst 1, 1) := by decide +kernel
theorem dL_law_1166 : decode code 1166 = .ok (.goto 4, 3) := by decide +kernel
theorem dL_law_1169 : decode code 1169 = .ok (.lconst 0, 1) := by decide +kernel
theorem dL_law_1170 : decode code 1170 = .ok (.lcmp, 1) := by decide +kernel
theorem dL_law_1171 : decode code 1171 = .ok (.ifCond .eq 5, 3) := by decide +kernel
theorem dL_law_1174 : decode code 1174 = .ok (.iconst 0, 1) := by decide +kernel
theorem dL_law_1175 : decode code 1175 = .ok (.ireturn, 1) := by decide +kernel
theorem dL_law_1176 : decode code 1176 = .ok (.goto 246, 3) := by decide +kernel
theorem dL_law_1179 : decode code 1179 = .ok (.aload_n 1, 1) := by decide +kernel
theorem dL_law_1180 : decode code 1180 = .ok (.aload_n 0, 1) := by decide +kernel
theorem dL_law_1181 : decode code 1181 = .ok (.iload 4, 2) := by decide +kernel
theorem dL_law_1183 : decode code 1183 = .ok (.iconst 1, 1) := by decide +kernel
theorem dL_law_1184 : decode code 1184 = .ok (.iadd, 1) := by decide +kernel
theorem dL_law_1185 : decode code 1185 = .ok (.iaload, 1) := by decide +kernel
theorem dL_law_1186 : decode code 1186 = .ok (.aload_n 3, 1) := by decide +kernel
theorem dL_law_1187 : decode code 1187 = .ok (.invokestatic 129, 3) := by decide +kernel
theorem dL_law_1190 : decode code 1190 = .ok (.istore 5, 2) := by decide +kernel
theorem dL_law_1192 : decode code 1192 = .ok (.aload_n 2, 1) := by decide +kernel
theorem dL_law_1193 : decode code 1193 = .ok (.aload_n 0, 1) := by decide +kernel
theorem dL_law_1194 : decode code 1194 = .ok (.iload 4, 2) := by decide +kernel
theorem dL_law_1196 : decode code 1196 = .ok (.iconst 1, 1) := by decide +kernel
theorem dL_law_1197 : decode code 1197 = .ok (.iadd, 1) := by decide +kernel
theorem dL_law_1198 : decode code 1198 = .ok (.iaload, 1) := by decide +kernel
theorem dL_law_1199 : decode code 1199 = .ok (.invokevirtual 132, 3) := by decide +kernel
theorem dL_law_1202 : decode code 1202 = .ok (.istore 6, 2) := by decide +kernel
theorem dL_law_1204 : decode code 1204 = .ok (.aload_n 2, 1) := by decide +kernel
theorem dL_law_1205 : decode code 1205 = .ok (.invokevirtual 80, 3) := by decide +kernel
theorem dL_law_1208 : decode code 1208 = .ok (.iload 5, 2) := by decide +kernel
theorem dL_law_1210 : decode code 1210 = .ok (.if_icmp .eq 5, 3) := by decide +kernel
theorem dL_law_1213 : decode code 1213 = .ok (.iconst 0, 1) := by decide +kernel
theorem dL_law_1214 : decode code 1214 = .ok (.ireturn, 1) := by decide +kernel
theorem dL_law_1215 : decode code 1215 = .ok (.iload 5, 2) := by decide +kernel
theorem dL_law_1217 : decode code 1217 = .ok (.ifCond .ne 15, 3) := by decide +kernel
theorem dL_law_1220 : decode code 1220 = .ok (.aload_n 3, 1) := by decide +kernel
theorem dL_law_1221 : decode code 1221 = .ok (.iconst 0, 1) := by decide +kernel
theorem dL_law_1222 : decode code 1222 = .ok (.laload, 1) := by decide +kernel
theorem dL_law_1223 : decode code 1223 = .ok (.iload 6, 2) := by decide +kernel
theorem dL_law_1225 : decode code 1225 = .ok (.i2l, 1) := by decide +kernel
theorem dL_law_1226 : decode code 1226 = .ok (.lcmp, 1) := by decide +kernel
theorem dL_law_1227 : decode code 1227 = .ok (.ifCond .eq 5, 3) := by decide +kernel
theorem dL_law_1230 : decode code 1230 = .ok (.iconst 0, 1) := by decide +kernel
theorem dL_law_1231 : decode code 1231 = .ok (.ireturn, 1) := by decide +kernel
theorem dL_law_1232 : decode code 1232 = .ok (.goto 190, 3) := by decide +kernel
theorem dL_law_1235 : decode code 1235 = .ok (.aload_n 1, 1) := by decide +kernel
theorem dL_law_1236 : decode code 1236 = .ok (.aload_n 0, 1) := by decide +kernel
theorem dL_law_1237 : decode code 1237 = .ok (.iload 4, 2) := by decide +kernel
theorem dL_law_1239 : decode code 1239 = .ok (.iconst 1, 1) := by decide +kernel
theorem dL_law_1240 : decode code 1240 = .ok (.iadd, 1) := by decide +kernel
theorem dL_law_1241 : decode code 1241 = .ok (.iaload, 1) := by decide +kernel
theorem dL_law_1242 : decode code 1242 = .ok (.aload_n 3, 1) := by decide +kernel
theorem dL_law_1243 : decode code 1243 = .ok (.invokestatic 133, 3) := by decide +kernel
theorem dL_law_1246 : decode code 1246 = .ok (.istore 5, 2) := by decide +kernel
theorem dL_law_1248 : decode code 1248 = .ok (.aload_n 2, 1) := by decide +kernel
theorem dL_law_1249 : decode code 1249 = .ok (.aload_n 0, 1) := by decide +kernel
theorem dL_law_1250 : decode code 1250 = .ok (.iload 4, 2) := by decide +kernel
theorem dL_law_1252 : decode code 1252 = .ok (.iconst 1, 1) := by decide +kernel
theorem dL_law_1253 : decode code 1253 = .ok (.iadd, 1) := by decide +kernel
theorem dL_law_1254 : decode code 1254 = .ok (.iaload, 1) := by decide +kernel
theorem dL_law_1255 : decode code 1255 = .ok (.invokevirtual 135, 3) := by decide +kernel
theorem dL_law_1258 : decode code 1258 = .ok (.istore 6, 2) := by decide +kernel
theorem dL_law_1260 : decode code 1260 = .ok (.aload_n 2, 1) := by decide +kernel
theorem dL_law_1261 : decode code 1261 = .ok (.invokevirtual 80, 3) := by decide +kernel
theorem dL_law_1264 : decode code 1264 = .ok (.iload 5, 2) := by decide +kernel
theorem dL_law_1266 : decode code 1266 = .ok (.if_icmp .eq 5, 3) := by decide +kernel
theorem dL_law_1269 : decode code 1269 = .ok (.iconst 0, 1) := by decide +kernel
theorem dL_law_1270 : decode code 1270 = .ok (.ireturn, 1) := by decide +kernel
theorem dL_law_1271 : decode code 1271 = .ok (.iload 5, 2) := by decide +kernel
theorem dL_law_1273 : decode code 1273 = .ok (.ifCond .ne 15, 3) := by decide +kernel
theorem dL_law_1276 : decode code 1276 = .ok (.aload_n 3, 1) := by decide +kernel
theorem dL_law_1277 : decode code 1277 = .ok (.iconst 0, 1) := by decide +kernel
theorem dL_law_1278 : decode code 1278 = .ok (.laload, 1) := by decide +kernel
theorem dL_law_1279 : decode code 1279 = .ok (.iload 6, 2) := by decide +kernel
theorem dL_law_1281 : decode code 1281 = .ok (.i2l, 1) := by decide +kernel
theorem dL_law_1282 : decode code 1282 = .ok (.lcmp, 1) := by decide +kernel
theorem dL_law_1283 : decode code 1283 = .ok (.ifCond .eq 5, 3) := by decide +kernel
theorem dL_law_1286 : decode code 1286 = .ok (.iconst 0, 1) := by decide +kernel
theorem dL_law_1287 : decode code 1287 = .ok (.ireturn, 1) := by decide +kernel
theorem dL_law_1288 : decode code 1288 = .ok (.goto 134, 3) := by decide +kernel
theorem dL_law_1291 : decode code 1291 = .ok (.aload_n 1, 1) := by decide +kernel
theorem dL_law_1292 : decode code 1292 = .ok (.aload_n 0, 1) := by decide +kernel
theorem dL_law_1293 : decode code 1293 = .ok (.iload 4, 2) := by decide +kernel
theorem dL_law_1295 : decode code 1295 = .ok (.iconst 1, 1) := by decide +kernel
theorem dL_law_1296 : decode code 1296 = .ok (.iadd, 1) := by decide +kernel
theorem dL_law_1297 : decode code 1297 = .ok (.iaload, 1) := by decide +kernel
theorem dL_law_1298 : decode code 1298 = .ok (.aload_n 0, 1) := by decide +kernel
theorem dL_law_1299 : decode code 1299 = .ok (.iload 4, 2) := by decide +kernel
theorem dL_law_1301 : decode code 1301 = .ok (.iconst 2, 1) := by decide +kernel
theorem dL_law_1302 : decode code 1302 = .ok (.iadd, 1) := by decide +kernel
theorem dL_law_1303 : decode code 1303 = .ok (.iaload, 1) := by decide +kernel
theorem dL_law_1304 : decode code 1304 = .ok (.aload_n 3, 1) := by decide +kernel
theorem dL_law_1305 : decode code 1305 = .ok (.invokestatic 136, 3) := by decide +kernel
theorem dL_law_1308 : decode code 1308 = .ok (.istore 5, 2) := by decide +kernel
theorem dL_law_1310 : decode code 1310 = .ok (.aload_n 2, 1) := by decide +kernel
theorem dL_law_1311 : decode code 1311 = .ok (.aload_n 0, 1) := by decide +kernel
theorem dL_law_1312 : decode code 1312 = .ok (.iload 4, 2) := by decide +kernel
theorem dL_law_1314 : decode code 1314 = .ok (.iconst 1, 1) := by decide +kernel
theorem dL_law_1315 : decode code 1315 = .ok (.iadd, 1) := by decide +kernel
theorem dL_law_1316 : decode code 1316 = .ok (.iaload, 1) := by decide +kernel
theorem dL_law_1317 : decode code 1317 = .ok (.aload_n 0, 1) := by decide +kernel
theorem dL_law_1318 : decode code 1318 = .ok (.iload 4, 2) := by decide +kernel
theorem dL_law_1320 : decode code 1320 = .ok (.iconst 2, 1) := by decide +kernel
theorem dL_law_1321 : decode code 1321 = .ok (.iadd, 1) := by decide +kernel
theorem dL_law_1322 : decode code 1322 = .ok (.iaload, 1) := by decide +kernel
theorem dL_law_1323 : decode code 1323 = .ok (.invokevirtual 138, 3) := by decide +kernel
theorem dL_law_1326 : decode code 1326 = .ok (.istore 6, 2) := by decide +kernel
theorem dL_law_1328 : decode code 1328 = .ok (.aload_n 2, 1) := by decide +kernel
theorem dL_law_1329 : decode code 1329 = .ok (.invokevirtual 80, 3) := by decide +kernel
theorem dL_law_1332 : decode code 1332 = .ok (.iload 5, 2) := by decide +kernel
theorem dL_law_1334 : decode code 1334 = .ok (.if_icmp .eq 5, 3) := by decide +kernel
theorem dL_law_1337 : decode code 1337 = .ok (.iconst 0, 1) := by decide +kernel
theorem dL_law_1338 : decode code 1338 = .ok (.ireturn, 1) := by decide +kernel
theorem dL_law_1339 : decode code 1339 = .ok (.iload 5, 2) := by decide +kernel
theorem dL_law_1341 : decode code 1341 = .ok (.ifCond .ne 22, 3) := by decide +kernel
theorem dL_law_1344 : decode code 1344 = .ok (.aload_n 3, 1) := by decide +kernel
theorem dL_law_1345 : decode code 1345 = .ok (.iconst 0, 1) := by decide +kernel
theorem dL_law_1346 : decode code 1346 = .ok (.laload, 1) := by decide +kernel
theorem dL_law_1347 : decode code 1347 = .ok (.iload 6, 2) := by decide +kernel
theorem dL_law_1349 : decode code 1349 = .ok (.ifCond .eq 7, 3) := by decide +kernel
theorem dL_law_1352 : decode code 1352 = .ok (.lconst 1, 1) := by decide +kernel
theorem dL_law_1353 : decode code 1353 = .ok (.goto 4, 3) := by decide +kernel
theorem dL_law_1356 : decode code 1356 = .ok (.lconst 0, 1) := by decide +kernel
theorem dL_law_1357 : decode code 1357 = .ok (.lcmp, 1) := by decide +kernel
theorem dL_law_1358 : decode code 1358 = .ok (.ifCond .eq 5, 3) := by decide +kernel
theorem dL_law_1361 : decode code 1361 = .ok (.iconst 0, 1) := by decide +kernel
theorem dL_law_1362 : decode code 1362 = .ok (.ireturn, 1) := by decide +kernel
theorem dL_law_1363 : decode code 1363 = .ok (.goto 59, 3) := by decide +kernel
theorem dL_law_1366 : decode code 1366 = .ok (.aload_n 1, 1) := by decide +kernel
theorem dL_law_1367 : decode code 1367 = .ok (.aload_n 0, 1) := by decide +kernel
theorem dL_law_1368 : decode code 1368 = .ok (.iload 4, 2) := by decide +kernel
theorem dL_law_1370 : decode code 1370 = .ok (.iconst 1, 1) := by decide +kernel
theorem dL_law_1371 : decode code 1371 = .ok (.iadd, 1) := by decide +kernel
theorem dL_law_1372 : decode code 1372 = .ok (.iaload, 1) := by decide +kernel
theorem dL_law_1373 : decode code 1373 = .ok (.aload_n 3, 1) := by decide +kernel
theorem dL_law_1374 : decode code 1374 = .ok (.invokestatic 139, 3) := by decide +kernel
theorem dL_law_1377 : decode code 1377 = .ok (.istore 5, 2) := by decide +kernel
theorem dL_law_1379 : decode code 1379 = .ok (.aload_n 2, 1) := by decide +kernel
theorem dL_law_1380 : decode code 1380 = .ok (.aload_n 0, 1) := by decide +kernel
theorem dL_law_1381 : decode code 1381 = .ok (.iload 4, 2) := by decide +kernel
theorem dL_law_1383 : decode code 1383 = .ok (.iconst 1, 1) := by decide +kernel
theorem dL_law_1384 : decode code 1384 = .ok (.iadd, 1) := by decide +kernel
theorem dL_law_1385 : decode code 1385 = .ok (.iaload, 1) := by decide +kernel
theorem dL_law_1386 : decode code 1386 = .ok (.invokevirtual 141, 3) := by decide +kernel
theorem dL_law_1389 : decode code 1389 = .ok (.istore 6, 2) := by decide +kernel
theorem dL_law_1391 : decode code 1391 = .ok (.aload_n 2, 1) := by decide +kernel
theorem dL_law_1392 : decode code 1392 = .ok (.invokevirtual 80, 3) := by decide +kernel
theorem dL_law_1395 : decode code 1395 = .ok (.iload 5, 2) := by decide +kernel
theorem dL_law_1397 : decode code 1397 = .ok (.if_icmp .eq 5, 3) := by decide +kernel
theorem dL_law_1400 : decode code 1400 = .ok (.iconst 0, 1) := by decide +kernel
theorem dL_law_1401 : decode code 1401 = .ok (.ireturn, 1) := by decide +kernel
theorem dL_law_1402 : decode code 1402 = .ok (.iload 5, 2) := by decide +kernel
theorem dL_law_1404 : decode code 1404 = .ok (.ifCond .ne 15, 3) := by decide +kernel
theorem dL_law_1407 : decode code 1407 = .ok (.aload_n 3, 1) := by decide +kernel
theorem dL_law_1408 : decode code 1408 = .ok (.iconst 0, 1) := by decide +kernel
theorem dL_law_1409 : decode code 1409 = .ok (.laload, 1) := by decide +kernel
theorem dL_law_1410 : decode code 1410 = .ok (.iload 6, 2) := by decide +kernel
theorem dL_law_1412 : decode code 1412 = .ok (.i2l, 1) := by decide +kernel
theorem dL_law_1413 : decode code 1413 = .ok (.lcmp, 1) := by decide +kernel
theorem dL_law_1414 : decode code 1414 = .ok (.ifCond .eq 5, 3) := by decide +kernel
theorem dL_law_1417 : decode code 1417 = .ok (.iconst 0, 1) := by decide +kernel
theorem dL_law_1418 : decode code 1418 = .ok (.ireturn, 1) := by decide +kernel
theorem dL_law_1419 : decode code 1419 = .ok (.goto 3, 3) := by decide +kernel
theorem dL_law_1422 : decode code 1422 = .ok (.iinc 4 8, 3) := by decide +kernel
theorem dL_law_1425 : decode code 1425 = .ok (.goto (-1380), 3) := by decide +kernel
theorem dL_law_1428 : decode code 1428 = .ok (.iconst 1, 1) := by decide +kernel
theorem dL_law_1429 : decode code 1429 = .ok (.ireturn, 1) := by decide +kernel
abbrev iLaw : MInf := (code, 7, RL, ret, room_1)
theorem s_in (w : Int32) : -2147483648 ≤ w.toInt ∧ w.toInt ≤ 2147483647 := by
  have h1 := w.le_toInt
  have h2 := w.toInt_lt
  omega
def shl32 (u : Int) : Int := (jN u <<< ((iN 32).toInt64 &&& 63)).toInt
def low32 (u : Int) : Int := (jN u &&& jN 4294967295).toInt
def lor2 (u v : Int) : Int := (jN u ||| jN v).toInt
def lng (u v : Int) : Int := lor2 (shl32 u) (low32 v)
theorem j_in (w : Int64) : -9223372036854775808 ≤ w.toInt ∧ w.toInt ≤ 9223372036854775807 := by
  have h1 := w.le_toInt
  have h2 := w.toInt_lt
  omega
theorem lng_in (u v : Int) : -9223372036854775808 ≤ lng u v ∧ lng u v ≤ 9223372036854775807 := j_in _
theorem lcmp_same {u : Int} (hu : -9223372036854775808 ≤ u ∧ u ≤ 9223372036854775807) : lg_cmp (jN u) (jN u) = iN 0 := by
  rw [cmpz_j hu hu]
  unfold cmpz
  rw [if_neg (Int.lt_irrefl _), if_pos rfl]
theorem g_wid {l : Launch} {D : va_G} {tys : List (ClassId × FieldType)} {L : Lay} {a : Nat → Nat} {M : MInf} {x : Ctx} {pc : Nat} {lv : List (Nat × Value)} {st : List Value} {V : Mem} {c0 s0 c1 s1 : Nat} (z0 : zer x) (h1 : c0 ≤ c1) (h2 : s0 ≤ s1) (hR : c1 ≤ M.2.2.2.2.cells ∧ s1 ≤ M.2.2.2.2.slots) (k : G l D tys L a M (bmp x c1 s1) pc lv st V) : G l D tys L a M (bmp x c0 s0) pc lv st V := by
  obtain ⟨p, e, s, m, args, below, meth, c, cells, slots, Q, A⟩ := x
  obtain ⟨rfl, rfl⟩ := z0
  exact fun cx ls H locs hl hP hS => W.widen (k := 0 + c1) (n := 0 + s1) (by omega) (by omega) (k ⟨cx.1, cx.2.1, cx.2.2.1, cx.2.2.2.1, cx.2.2.2.2.1, cx.2.2.2.2.2.1, cx.2.2.2.2.2.2.1, cx.2.2.2.2.2.2.2.1, cx.2.2.2.2.2.2.2.2.1, cx.2.2.2.2.2.2.2.2.2.1, cx.2.2.2.2.2.2.2.2.2.2.1, by show 0 + c1 ≤ _; omega, by show 0 + s1 ≤ _; omega⟩ ls H locs hl hP hS)
abbrev LV (a : Nat → Nat) (b : Nat) (i : Nat) : List (Nat × Value) := [(0, .ref b), (1, .ref (a 0)), (2, .ref (a 121)), (3, .ref (a 143)), (4, .int (iN (i : Int)))]
theorem k84 : Cond.constantLong RL 84 4294967295 ∈ gw := tm_5 (List.mem_of_getElem? (i := 26) rfl) rfl
theorem u79 : LkV RL 79 yX7_kind mX7_kind 2 := ⟨tm_4 (List.mem_of_getElem? (i := 67) rfl) rfl, tm_4 (List.mem_of_getElem? (i := 68) rfl) rfl, tm_4 (List.mem_of_getElem? (i := 69) rfl) rfl, tm_1 (List.mem_of_getElem? (i := 10) rfl) rfl, tm_4 (List.mem_of_getElem? (i := 70) rfl) rfl, by decide +kernel, by decide +kernel, by decide +kernel⟩
theorem u80 : LkV RL 80 yX7_thrown mX7_thrown 0 := ⟨tm_4 (List.mem_of_getElem? (i := 63) rfl) rfl, tm_4 (List.mem_of_getElem? (i := 64) rfl) rfl, tm_4 (List.mem_of_getElem? (i := 65) rfl) rfl, tm_1 (List.mem_of_getElem? (i := 10) rfl) rfl, tm_4 (List.mem_of_getElem? (i := 66) rfl) rfl, by decide +kernel, by decide +kernel, by decide +kernel⟩
theorem u89 : LkV RL 89 yX7_part mX7_part 4 := ⟨tm_4 (List.mem_of_getElem? (i := 71) rfl) rfl, tm_4 (List.mem_of_getElem? (i := 72) rfl) rfl, tm_4 (List.mem_of_getElem? (i := 73) rfl) rfl, tm_1 (List.mem_of_getElem? (i := 10) rfl) rfl, tm_4 (List.mem_of_getElem? (i := 74) rfl) rfl, by decide +kernel, by decide +kernel, by decide +kernel⟩
theorem u92 : LkV RL 92 yX7_machine mX7_machine 2 := ⟨tm_4 (List.mem_of_getElem? (i := 84) rfl) rfl, tm_4 (List.mem_of_getElem? (i := 85) rfl) rfl, tm_4 (List.mem_of_getElem? (i := 86) rfl) rfl, tm_1 (List.mem_of_getElem? (i := 10) rfl) rfl, tm_4 (List.mem_of_getElem? (i := 87) rfl) rfl, by decide +kernel, by decide +kernel, by decide +kernel⟩
theorem u95 : LkV RL 95 yX7_fixed mX7_fixed 2 := ⟨tm_4 (List.mem_of_getElem? (i := 88) rfl) rfl, tm_4 (List.mem_of_getElem? (i := 89) rfl) rfl, tm_4 (List.mem_of_getElem? (i := 90) rfl) rfl, tm_1 (List.mem_of_getElem? (i := 10) rfl) rfl, tm_4 (List.mem_of_getElem? (i := 91) rfl) rfl, by decide +kernel, by decide +kernel, by decide +kernel⟩
theorem u99 : LkV RL 99 yX7_run mX7_run 2 := ⟨tm_4 (List.mem_of_getElem? (i := 101) rfl) rfl, tm_4 (List.mem_of_getElem? (i := 102) rfl) rfl, tm_4 (List.mem_of_getElem? (i := 103) rfl) rfl, tm_1 (List.mem_of_getElem? (i := 10) rfl) rfl, tm_4 (List.mem_of_getElem? (i := 104) rfl) rfl, by decide +kernel, by decide +kernel, by decide +kernel⟩
theorem u102 : LkV RL 102 yX7_slot mX7_slot 2 := ⟨tm_4 (List.mem_of_getElem? (i := 214) rfl) rfl, tm_4 (List.mem_of_getElem? (i := 215) rfl) rfl, tm_4 (List.mem_of_getElem? (i := 216) rfl) rfl, tm_1 (List.mem_of_getElem? (i := 10) rfl) rfl, tm_4 (List.mem_of_getElem? (i := 217) rfl) rfl, by decide +kernel, by decide +kernel, by decide +kernel⟩
theorem u105 : LkV RL 105 yX7_order mX7_order 2 := ⟨tm_4 (List.mem_of_getElem? (i := 222) rfl) rfl, tm_4 (List.mem_of_getElem? (i := 223) rfl) rfl, tm_4 (List.mem_of_getElem? (i := 224) rfl) rfl, tm_1 (List.mem_of_getElem? (i := 10) rfl) rfl, tm_4 (List.mem_of_getElem? (i := 225) rfl) rfl, by decide +kernel, by decide +kernel, by decide +kernel⟩
theorem u108 : LkV RL 108 yX7_trip mX7_trip 2 := ⟨tm_4 (List.mem_of_getElem? (i := 226) rfl) rfl, tm_4 (List.mem_of_getElem? (i := 227) rfl) rfl, tm_4 (List.mem_of_getElem? (i := 228) rfl) rfl, tm_1 (List.mem_of_getElem? (i := 10) rfl) rfl, tm_4 (List.mem_of_getElem? (i := 229) rfl) rfl, by decide +kernel, by decide +kernel, by decide +kernel⟩
theorem u109 : LkV RL 109 yX6_proved mX6_proved 0 := ⟨tm_1 (List.mem_of_getElem? (i := 233) rfl) rfl, tm_1 (List.mem_of_getElem? (i := 234) rfl) rfl, tm_1 (List.mem_of_getElem? (i := 235) rfl) rfl, tm_1 (List.mem_of_getElem? (i := 1) rfl) rfl, tm_1 (List.mem_of_getElem? (i := 236) rfl) rfl, by decide +kernel, by decide +kernel, by decide +kernel⟩
theorem u113 : LkV RL 113 yX7_proved mX7_proved 0 := ⟨tm_4 (List.mem_of_getElem? (i := 238) rfl) rfl, tm_4 (List.mem_of_getElem? (i := 239) rfl) rfl, tm_5 (List.mem_of_getElem? (i := 0) rfl) rfl, tm_1 (List.mem_of_getElem? (i := 10) rfl) rfl, tm_5 (List.mem_of_getElem? (i := 1) rfl) rfl, by decide +kernel, by decide +kernel, by decide +kernel⟩
theorem u114 : LkV RL 114 yX6_bound mX6_bound 0 := ⟨tm_2 (List.mem_of_getElem? (i := 5) rfl) rfl, tm_2 (List.mem_of_getElem? (i := 6) rfl) rfl, tm_2 (List.mem_of_getElem? (i := 7) rfl) rfl, tm_1 (List.mem_of_getElem? (i := 1) rfl) rfl, tm_2 (List.mem_of_getElem? (i := 8) rfl) rfl, by decide +kernel, by decide +kernel, by decide +kernel⟩
theorem u118 : LkV RL 118 yX7_bound mX7_bound 0 := ⟨tm_5 (List.mem_of_getElem? (i := 2) rfl) rfl, tm_5 (List.mem_of_getElem? (i := 3) rfl) rfl, tm_5 (List.mem_of_getElem? (i := 4) rfl) rfl, tm_1 (List.mem_of_getElem? (i := 10) rfl) rfl, tm_5 (List.mem_of_getElem? (i := 5) rfl) rfl, by decide +kernel, by decide +kernel, by decide +kernel⟩
theorem u121 : LkV RL 121 yX7_lower mX7_lower 2 := ⟨tm_5 (List.mem_of_getElem? (i := 14) rfl) rfl, tm_5 (List.mem_of_getElem? (i := 15) rfl) rfl, tm_5 (List.mem_of_getElem? (i := 16) rfl) rfl, tm_1 (List.mem_of_getElem? (i := 10) rfl) rfl, tm_5 (List.mem_of_getElem? (i := 17) rfl) rfl, by decide +kernel, by decide +kernel, by decide +kernel⟩
theorem u124 : LkV RL 124 yX7_refill mX7_refill 2 := ⟨tm_4 (List.mem_of_getElem? (i := 92) rfl) rfl, tm_4 (List.mem_of_getElem? (i := 93) rfl) rfl, tm_4 (List.mem_of_getElem? (i := 94) rfl) rfl, tm_1 (List.mem_of_getElem? (i := 10) rfl) rfl, tm_4 (List.mem_of_getElem? (i := 95) rfl) rfl, by decide +kernel, by decide +kernel, by decide +kernel⟩
theorem u128 : LkV RL 128 yX7_reject mX7_reject 3 := ⟨tm_4 (List.mem_of_getElem? (i := 96) rfl) rfl, tm_4 (List.mem_of_getElem? (i := 97) rfl) rfl, tm_4 (List.mem_of_getElem? (i := 98) rfl) rfl, tm_1 (List.mem_of_getElem? (i := 10) rfl) rfl, tm_4 (List.mem_of_getElem? (i := 99) rfl) rfl, by decide +kernel, by decide +kernel, by decide +kernel⟩
theorem u132 : LkV RL 132 yX7_machineOf mX7_machineOf 1 := ⟨tm_5 (List.mem_of_getElem? (i := 6) rfl) rfl, tm_5 (List.mem_of_getElem? (i := 7) rfl) rfl, tm_5 (List.mem_of_getElem? (i := 8) rfl) rfl, tm_1 (List.mem_of_getElem? (i := 10) rfl) rfl, tm_5 (List.mem_of_getElem? (i := 9) rfl) rfl, by decide +kernel, by decide +kernel, by decide +kernel⟩
theorem u135 : LkV RL 135 yX7_improve mX7_improve 1 := ⟨tm_4 (List.mem_of_getElem? (i := 210) rfl) rfl, tm_4 (List.mem_of_getElem? (i := 211) rfl) rfl, tm_4 (List.mem_of_getElem? (i := 212) rfl) rfl, tm_1 (List.mem_of_getElem? (i := 10) rfl) rfl, tm_4 (List.mem_of_getElem? (i := 213) rfl) rfl, by decide +kernel, by decide +kernel, by decide +kernel⟩
theorem u138 : LkV RL 138 yX7_common mX7_common 2 := ⟨tm_5 (List.mem_of_getElem? (i := 18) rfl) rfl, tm_5 (List.mem_of_getElem? (i := 19) rfl) rfl, tm_5 (List.mem_of_getElem? (i := 20) rfl) rfl, tm_1 (List.mem_of_getElem? (i := 10) rfl) rfl, tm_5 (List.mem_of_getElem? (i := 21) rfl) rfl, by decide +kernel, by decide +kernel, by decide +kernel⟩
theorem u141 : LkV RL 141 yX7_changes mX7_changes 1 := ⟨tm_5 (List.mem_of_getElem? (i := 22) rfl) rfl, tm_5 (List.mem_of_getElem? (i := 23) rfl) rfl, tm_5 (List.mem_of_getElem? (i := 24) rfl) rfl, tm_1 (List.mem_of_getElem? (i := 10) rfl) rfl, tm_5 (List.mem_of_getElem? (i := 25) rfl) rfl, by decide +kernel, by decide +kernel, by decide +kernel⟩
