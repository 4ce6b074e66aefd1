/-! ===== the law's instructions ===== -/
theorem dW_0 : decode code 0 = .ok (.new 8, 3) := by decide +kernel
theorem dW_3 : decode code 3 = .ok (.dup, 1) := by decide +kernel
theorem dW_4 : decode code 4 = .ok (.invokespecial 58, 3) := by decide +kernel
theorem dW_7 : decode code 7 = .ok (.astore_n 1, 1) := by decide +kernel
theorem dW_8 : decode code 8 = .ok (.new 59, 3) := by decide +kernel
theorem dW_11 : decode code 11 = .ok (.dup, 1) := by decide +kernel
theorem dW_12 : decode code 12 = .ok (.invokespecial 61, 3) := by decide +kernel
theorem dW_15 : decode code 15 = .ok (.astore_n 2, 1) := by decide +kernel
theorem dW_16 : decode code 16 = .ok (.iconst 1, 1) := by decide +kernel
theorem dW_17 : decode code 17 = .ok (.newarray .long, 2) := by decide +kernel
theorem dW_19 : decode code 19 = .ok (.astore_n 3, 1) := by decide +kernel
theorem dW_20 : decode code 20 = .ok (.iconst 0, 1) := by decide +kernel
theorem dW_21 : decode code 21 = .ok (.istore 4, 2) := by decide +kernel
theorem dW_23 : decode code 23 = .ok (.iload 4, 2) := by decide +kernel
theorem dW_25 : decode code 25 = .ok (.aload_n 0, 1) := by decide +kernel
theorem dW_26 : decode code 26 = .ok (.arraylength, 1) := by decide +kernel
theorem dW_27 : decode code 27 = .ok (.iconst 5, 1) := by decide +kernel
theorem dW_28 : decode code 28 = .ok (.isub, 1) := by decide +kernel
theorem dW_29 : decode code 29 = .ok (.if_icmp .gt 860, 3) := by decide +kernel
theorem dW_32 : decode code 32 = .ok (.aload_n 0, 1) := by decide +kernel
theorem dW_33 : decode code 33 = .ok (.iload 4, 2) := by decide +kernel
theorem dW_35 : decode code 35 = .ok (.iaload, 1) := by decide +kernel
theorem dW_36 : decode code 36 = .ok (.bipush 15, 2) := by decide +kernel
theorem dW_38 : decode code 38 = .ok (.iand, 1) := by decide +kernel
theorem dW_39 : decode code 39 = .ok (.tableswitch 844 0 12 #[65, 121, 233, 325, 373, 421, 477, 533, 601, 657, 713, 776, 831], 65) := by decide +kernel
theorem dW_104 : decode code 104 = .ok (.aload_n 1, 1) := by decide +kernel
theorem dW_105 : decode code 105 = .ok (.aload_n 0, 1) := by decide +kernel
theorem dW_106 : decode code 106 = .ok (.iload 4, 2) := by decide +kernel
theorem dW_108 : decode code 108 = .ok (.iconst 1, 1) := by decide +kernel
theorem dW_109 : decode code 109 = .ok (.iadd, 1) := by decide +kernel
theorem dW_110 : decode code 110 = .ok (.iaload, 1) := by decide +kernel
theorem dW_111 : decode code 111 = .ok (.aload_n 3, 1) := by decide +kernel
theorem dW_112 : decode code 112 = .ok (.invokestatic 62, 3) := by decide +kernel
theorem dW_115 : decode code 115 = .ok (.istore 5, 2) := by decide +kernel
theorem dW_117 : decode code 117 = .ok (.aload_n 2, 1) := by decide +kernel
theorem dW_118 : decode code 118 = .ok (.aload_n 0, 1) := by decide +kernel
theorem dW_119 : decode code 119 = .ok (.iload 4, 2) := by decide +kernel
theorem dW_121 : decode code 121 = .ok (.iconst 1, 1) := by decide +kernel
theorem dW_122 : decode code 122 = .ok (.iadd, 1) := by decide +kernel
theorem dW_123 : decode code 123 = .ok (.iaload, 1) := by decide +kernel
theorem dW_124 : decode code 124 = .ok (.invokevirtual 67, 3) := by decide +kernel
theorem dW_127 : decode code 127 = .ok (.istore 6, 2) := by decide +kernel
theorem dW_129 : decode code 129 = .ok (.aload_n 2, 1) := by decide +kernel
theorem dW_130 : decode code 130 = .ok (.invokevirtual 68, 3) := by decide +kernel
theorem dW_133 : decode code 133 = .ok (.iload 5, 2) := by decide +kernel
theorem dW_135 : decode code 135 = .ok (.if_icmp .eq 5, 3) := by decide +kernel
theorem dW_138 : decode code 138 = .ok (.iconst 0, 1) := by decide +kernel
theorem dW_139 : decode code 139 = .ok (.ireturn, 1) := by decide +kernel
theorem dW_140 : decode code 140 = .ok (.iload 5, 2) := by decide +kernel
theorem dW_142 : decode code 142 = .ok (.ifCond .ne 15, 3) := by decide +kernel
theorem dW_145 : decode code 145 = .ok (.aload_n 3, 1) := by decide +kernel
theorem dW_146 : decode code 146 = .ok (.iconst 0, 1) := by decide +kernel
theorem dW_147 : decode code 147 = .ok (.laload, 1) := by decide +kernel
theorem dW_148 : decode code 148 = .ok (.iload 6, 2) := by decide +kernel
theorem dW_150 : decode code 150 = .ok (.i2l, 1) := by decide +kernel
theorem dW_151 : decode code 151 = .ok (.lcmp, 1) := by decide +kernel
theorem dW_152 : decode code 152 = .ok (.ifCond .eq 5, 3) := by decide +kernel
theorem dW_155 : decode code 155 = .ok (.iconst 0, 1) := by decide +kernel
theorem dW_156 : decode code 156 = .ok (.ireturn, 1) := by decide +kernel
theorem dW_157 : decode code 157 = .ok (.goto 726, 3) := by decide +kernel
theorem dW_160 : decode code 160 = .ok (.aload_n 1, 1) := by decide +kernel
theorem dW_161 : decode code 161 = .ok (.aload_n 0, 1) := by decide +kernel
theorem dW_162 : decode code 162 = .ok (.iload 4, 2) := by decide +kernel
theorem dW_164 : decode code 164 = .ok (.iconst 1, 1) := by decide +kernel
theorem dW_165 : decode code 165 = .ok (.iadd, 1) := by decide +kernel
theorem dW_166 : decode code 166 = .ok (.iaload, 1) := by decide +kernel
theorem dW_167 : decode code 167 = .ok (.i2l, 1) := by decide +kernel
theorem dW_168 : decode code 168 = .ok (.bipush 32, 2) := by decide +kernel
theorem dW_170 : decode code 170 = .ok (.lshl, 1) := by decide +kernel
theorem dW_171 : decode code 171 = .ok (.aload_n 0, 1) := by decide +kernel
theorem dW_172 : decode code 172 = .ok (.iload 4, 2) := by decide +kernel
theorem dW_174 : decode code 174 = .ok (.iconst 2, 1) := by decide +kernel
theorem dW_175 : decode code 175 = .ok (.iadd, 1) := by decide +kernel
theorem dW_176 : decode code 176 = .ok (.iaload, 1) := by decide +kernel
theorem dW_177 : decode code 177 = .ok (.i2l, 1) := by decide +kernel
theorem dW_178 : decode code 178 = .ok (.ldc2_w 72, 3) := by decide +kernel
theorem dW_181 : decode code 181 = .ok (.land, 1) := by decide +kernel
theorem dW_182 : decode code 182 = .ok (.lor, 1) := by decide +kernel
theorem dW_183 : decode code 183 = .ok (.aload_n 0, 1) := by decide +kernel
theorem dW_184 : decode code 184 = .ok (.iload 4, 2) := by decide +kernel
theorem dW_186 : decode code 186 = .ok (.iconst 3, 1) := by decide +kernel
theorem dW_187 : decode code 187 = .ok (.iadd, 1) := by decide +kernel
theorem dW_188 : decode code 188 = .ok (.iaload, 1) := by decide +kernel
theorem dW_189 : decode code 189 = .ok (.aload_n 0, 1) := by decide +kernel
theorem dW_190 : decode code 190 = .ok (.iload 4, 2) := by decide +kernel
theorem dW_192 : decode code 192 = .ok (.iconst 4, 1) := by decide +kernel
theorem dW_193 : decode code 193 = .ok (.iadd, 1) := by decide +kernel
theorem dW_194 : decode code 194 = .ok (.iaload, 1) := by decide +kernel
theorem dW_195 : decode code 195 = .ok (.aload_n 3, 1) := by decide +kernel
theorem dW_196 : decode code 196 = .ok (.invokestatic 74, 3) := by decide +kernel
theorem dW_199 : decode code 199 = .ok (.istore 5, 2) := by decide +kernel
theorem dW_201 : decode code 201 = .ok (.aload_n 2, 1) := by decide +kernel
theorem dW_202 : decode code 202 = .ok (.aload_n 0, 1) := by decide +kernel
theorem dW_203 : decode code 203 = .ok (.iload 4, 2) := by decide +kernel
theorem dW_205 : decode code 205 = .ok (.iconst 1, 1) := by decide +kernel
theorem dW_206 : decode code 206 = .ok (.iadd, 1) := by decide +kernel
theorem dW_207 : decode code 207 = .ok (.iaload, 1) := by decide +kernel
theorem dW_208 : decode code 208 = .ok (.i2l, 1) := by decide +kernel
theorem dW_209 : decode code 209 = .ok (.bipush 32, 2) := by decide +kernel
theorem dW_211 : decode code 211 = .ok (.lshl, 1) := by decide +kernel
theorem dW_212 : decode code 212 = .ok (.aload_n 0, 1) := by decide +kernel
theorem dW_213 : decode code 213 = .ok (.iload 4, 2) := by decide +kernel
theorem dW_215 : decode code 215 = .ok (.iconst 2, 1) := by decide +kernel
theorem dW_216 : decode code 216 = .ok (.iadd, 1) := by decide +kernel
theorem dW_217 : decode code 217 = .ok (.iaload, 1) := by decide +kernel
theorem dW_218 : decode code 218 = .ok (.i2l, 1) := by decide +kernel
theorem dW_219 : decode code 219 = .ok (.ldc2_w 72, 3) := by decide +kernel
theorem dW_222 : decode code 222 = .ok (.land, 1) := by decide +kernel
theorem dW_223 : decode code 223 = .ok (.lor, 1) := by decide +kernel
theorem dW_224 : decode code 224 = .ok (.aload_n 0, 1) := by decide +kernel
theorem dW_225 : decode code 225 = .ok (.iload 4, 2) := by decide +kernel
theorem dW_227 : decode code 227 = .ok (.iconst 3, 1) := by decide +kernel
theorem dW_228 : decode code 228 = .ok (.iadd, 1) := by decide +kernel
theorem dW_229 : decode code 229 = .ok (.iaload, 1) := by decide +kernel
theorem dW_230 : decode code 230 = .ok (.aload_n 0, 1) := by decide +kernel
theorem dW_231 : decode code 231 = .ok (.iload 4, 2) := by decide +kernel
theorem dW_233 : decode code 233 = .ok (.iconst 4, 1) := by decide +kernel
theorem dW_234 : decode code 234 = .ok (.iadd, 1) := by decide +kernel
theorem dW_235 : decode code 235 = .ok (.iaload, 1) := by decide +kernel
theorem dW_236 : decode code 236 = .ok (.invokevirtual 77, 3) := by decide +kernel
theorem dW_239 : decode code 239 = .ok (.istore 6, 2) := by decide +kernel
theorem dW_241 : decode code 241 = .ok (.aload_n 2, 1) := by decide +kernel
theorem dW_242 : decode code 242 = .ok (.invokevirtual 68, 3) := by decide +kernel
theorem dW_245 : decode code 245 = .ok (.iload 5, 2) := by decide +kernel
theorem dW_247 : decode code 247 = .ok (.if_icmp .eq 5, 3) := by decide +kernel
theorem dW_250 : decode code 250 = .ok (.iconst 0, 1) := by decide +kernel
theorem dW_251 : decode code 251 = .ok (.ireturn, 1) := by decide +kernel
theorem dW_252 : decode code 252 = .ok (.iload 5, 2) := by decide +kernel
theorem dW_254 : decode code 254 = .ok (.ifCond .ne 15, 3) := by decide +kernel
theorem dW_257 : decode code 257 = .ok (.aload_n 3, 1) := by decide +kernel
theorem dW_258 : decode code 258 = .ok (.iconst 0, 1) := by decide +kernel
theorem dW_259 : decode code 259 = .ok (.laload, 1) := by decide +kernel
theorem dW_260 : decode code 260 = .ok (.iload 6, 2) := by decide +kernel
theorem dW_262 : decode code 262 = .ok (.i2l, 1) := by decide +kernel
theorem dW_263 : decode code 263 = .ok (.lcmp, 1) := by decide +kernel
theorem dW_264 : decode code 264 = .ok (.ifCond .eq 5, 3) := by decide +kernel
theorem dW_267 : decode code 267 = .ok (.iconst 0, 1) := by decide +kernel
theorem dW_268 : decode code 268 = .ok (.ireturn, 1) := by decide +kernel
theorem dW_269 : decode code 269 = .ok (.goto 614, 3) := by decide +kernel
theorem dW_272 : decode code 272 = .ok (.aload_n 1, 1) := by decide +kernel
theorem dW_273 : decode code 273 = .ok (.aload_n 0, 1) := by decide +kernel
theorem dW_274 : decode code 274 = .ok (.iload 4, 2) := by decide +kernel
theorem dW_276 : decode code 276 = .ok (.iconst 1, 1) := by decide +kernel
theorem dW_277 : decode code 277 = .ok (.iadd, 1) := by decide +kernel
theorem dW_278 : decode code 278 = .ok (.iaload, 1) := by decide +kernel
theorem dW_279 : decode code 279 = .ok (.aload_n 0, 1) := by decide +kernel
theorem dW_280 : decode code 280 = .ok (.iload 4, 2) := by decide +kernel
theorem dW_282 : decode code 282 = .ok (.iconst 2, 1) := by decide +kernel
theorem dW_283 : decode code 283 = .ok (.iadd, 1) := by decide +kernel
theorem dW_284 : decode code 284 = .ok (.iaload, 1) := by decide +kernel
theorem dW_285 : decode code 285 = .ok (.aload_n 0, 1) := by decide +kernel
theorem dW_286 : decode code 286 = .ok (.iload 4, 2) := by decide +kernel
theorem dW_288 : decode code 288 = .ok (.iconst 3, 1) := by decide +kernel
theorem dW_289 : decode code 289 = .ok (.iadd, 1) := by decide +kernel
theorem dW_290 : decode code 290 = .ok (.iaload, 1) := by decide +kernel
theorem dW_291 : decode code 291 = .ok (.aload_n 0, 1) := by decide +kernel
theorem dW_292 : decode code 292 = .ok (.iload 4, 2) := by decide +kernel
theorem dW_294 : decode code 294 = .ok (.iconst 4, 1) := by decide +kernel
theorem dW_295 : decode code 295 = .ok (.iadd, 1) := by decide +kernel
theorem dW_296 : decode code 296 = .ok (.iaload, 1) := by decide +kernel
theorem dW_297 : decode code 297 = .ok (.aload_n 3, 1) := by decide +kernel
theorem dW_298 : decode code 298 = .ok (.invokestatic 78, 3) := by decide +kernel
theorem dW_301 : decode code 301 = .ok (.istore 5, 2) := by decide +kernel
theorem dW_303 : decode code 303 = .ok (.aload_n 2, 1) := by decide +kernel
theorem dW_304 : decode code 304 = .ok (.aload_n 0, 1) := by decide +kernel
theorem dW_305 : decode code 305 = .ok (.iload 4, 2) := by decide +kernel
theorem dW_307 : decode code 307 = .ok (.iconst 1, 1) := by decide +kernel
theorem dW_308 : decode code 308 = .ok (.iadd, 1) := by decide +kernel
theorem dW_309 : decode code 309 = .ok (.iaload, 1) := by decide +kernel
theorem dW_310 : decode code 310 = .ok (.aload_n 0, 1) := by decide +kernel
theorem dW_311 : decode code 311 = .ok (.iload 4, 2) := by decide +kernel
theorem dW_313 : decode code 313 = .ok (.iconst 2, 1) := by decide +kernel
theorem dW_314 : decode code 314 = .ok (.iadd, 1) := by decide +kernel
theorem dW_315 : decode code 315 = .ok (.iaload, 1) := by decide +kernel
theorem dW_316 : decode code 316 = .ok (.aload_n 0, 1) := by decide +kernel
theorem dW_317 : decode code 317 = .ok (.iload 4, 2) := by decide +kernel
theorem dW_319 : decode code 319 = .ok (.iconst 3, 1) := by decide +kernel
theorem dW_320 : decode code 320 = .ok (.iadd, 1) := by decide +kernel
theorem dW_321 : decode code 321 = .ok (.iaload, 1) := by decide +kernel
theorem dW_322 : decode code 322 = .ok (.aload_n 0, 1) := by decide +kernel
theorem dW_323 : decode code 323 = .ok (.iload 4, 2) := by decide +kernel
theorem dW_325 : decode code 325 = .ok (.iconst 4, 1) := by decide +kernel
theorem dW_326 : decode code 326 = .ok (.iadd, 1) := by decide +kernel
theorem dW_327 : decode code 327 = .ok (.iaload, 1) := by decide +kernel
theorem dW_328 : decode code 328 = .ok (.invokevirtual 81, 3) := by decide +kernel
theorem dW_331 : decode code 331 = .ok (.istore 6, 2) := by decide +kernel
theorem dW_333 : decode code 333 = .ok (.aload_n 2, 1) := by decide +kernel
theorem dW_334 : decode code 334 = .ok (.invokevirtual 68, 3) := by decide +kernel
theorem dW_337 : decode code 337 = .ok (.iload 5, 2) := by decide +kernel
theorem dW_339 : decode code 339 = .ok (.if_icmp .eq 5, 3) := by decide +kernel
theorem dW_342 : decode code 342 = .ok (.iconst 0, 1) := by decide +kernel
theorem dW_343 : decode code 343 = .ok (.ireturn, 1) := by decide +kernel
theorem dW_344 : decode code 344 = .ok (.iload 5, 2) := by decide +kernel
theorem dW_346 : decode code 346 = .ok (.ifCond .ne 15, 3) := by decide +kernel
theorem dW_349 : decode code 349 = .ok (.aload_n 3, 1) := by decide +kernel
theorem dW_350 : decode code 350 = .ok (.iconst 0, 1) := by decide +kernel
theorem dW_351 : decode code 351 = .ok (.laload, 1) := by decide +kernel
theorem dW_352 : decode code 352 = .ok (.iload 6, 2) := by decide +kernel
theorem dW_354 : decode code 354 = .ok (.i2l, 1) := by decide +kernel
theorem dW_355 : decode code 355 = .ok (.lcmp, 1) := by decide +kernel
theorem dW_356 : decode code 356 = .ok (.ifCond .eq 5, 3) := by decide +kernel
theorem dW_359 : decode code 359 = .ok (.iconst 0, 1) := by decide +kernel
theorem dW_360 : decode code 360 = .ok (.ireturn, 1) := by decide +kernel
theorem dW_361 : decode code 361 = .ok (.goto 522, 3) := by decide +kernel
theorem dW_364 : decode code 364 = .ok (.aload_n 1, 1) := by decide +kernel
theorem dW_365 : decode code 365 = .ok (.aload_n 0, 1) := by decide +kernel
theorem dW_366 : decode code 366 = .ok (.iload 4, 2) := by decide +kernel
theorem dW_368 : decode code 368 = .ok (.iconst 1, 1) := by decide +kernel
theorem dW_369 : decode code 369 = .ok (.iadd, 1) := by decide +kernel
theorem dW_370 : decode code 370 = .ok (.iaload, 1) := by decide +kernel
theorem dW_371 : decode code 371 = .ok (.aload_n 0, 1) := by decide +kernel
theorem dW_372 : decode code 372 = .ok (.iload 4, 2) := by decide +kernel
theorem dW_374 : decode code 374 = .ok (.iconst 2, 1) := by decide +kernel
theorem dW_375 : decode code 375 = .ok (.iadd, 1) := by decide +kernel
theorem dW_376 : decode code 376 = .ok (.iaload, 1) := by decide +kernel
theorem dW_377 : decode code 377 = .ok (.invokestatic 82, 3) := by decide +kernel
theorem dW_380 : decode code 380 = .ok (.istore 5, 2) := by decide +kernel
theorem dW_382 : decode code 382 = .ok (.aload_n 2, 1) := by decide +kernel
theorem dW_383 : decode code 383 = .ok (.aload_n 0, 1) := by decide +kernel
theorem dW_384 : decode code 384 = .ok (.iload 4, 2) := by decide +kernel
theorem dW_386 : decode code 386 = .ok (.iconst 1, 1) := by decide +kernel
theorem dW_387 : decode code 387 = .ok (.iadd, 1) := by decide +kernel
theorem dW_388 : decode code 388 = .ok (.iaload, 1) := by decide +kernel
theorem dW_389 : decode code 389 = .ok (.aload_n 0, 1) := by decide +kernel
theorem dW_390 : decode code 390 = .ok (.iload 4, 2) := by decide +kernel
theorem dW_392 : decode code 392 = .ok (.iconst 2, 1) := by decide +kernel
theorem dW_393 : decode code 393 = .ok (.iadd, 1) := by decide +kernel
theorem dW_394 : decode code 394 = .ok (.iaload, 1) := by decide +kernel
theorem dW_395 : decode code 395 = .ok (.invokevirtual 85, 3) := by decide +kernel
theorem dW_398 : decode code 398 = .ok (.aload_n 2, 1) := by decide +kernel
theorem dW_399 : decode code 399 = .ok (.invokevirtual 68, 3) := by decide +kernel
theorem dW_402 : decode code 402 = .ok (.iload 5, 2) := by decide +kernel
theorem dW_404 : decode code 404 = .ok (.if_icmp .eq 5, 3) := by decide +kernel
theorem dW_407 : decode code 407 = .ok (.iconst 0, 1) := by decide +kernel
theorem dW_408 : decode code 408 = .ok (.ireturn, 1) := by decide +kernel
theorem dW_409 : decode code 409 = .ok (.goto 474, 3) := by decide +kernel
theorem dW_412 : decode code 412 = .ok (.aload_n 1, 1) := by decide +kernel
theorem dW_413 : decode code 413 = .ok (.aload_n 0, 1) := by decide +kernel
theorem dW_414 : decode code 414 = .ok (.iload 4, 2) := by decide +kernel
theorem dW_416 : decode code 416 = .ok (.iconst 1, 1) := by decide +kernel
theorem dW_417 : decode code 417 = .ok (.iadd, 1) := by decide +kernel
theorem dW_418 : decode code 418 = .ok (.iaload, 1) := by decide +kernel
theorem dW_419 : decode code 419 = .ok (.aload_n 0, 1) := by decide +kernel
theorem dW_420 : decode code 420 = .ok (.iload 4, 2) := by decide +kernel
theorem dW_422 : decode code 422 = .ok (.iconst 2, 1) := by decide +kernel
theorem dW_423 : decode code 423 = .ok (.iadd, 1) := by decide +kernel
theorem dW_424 : decode code 424 = .ok (.iaload, 1) := by decide +kernel
theorem dW_425 : decode code 425 = .ok (.invokestatic 86, 3) := by decide +kernel
theorem dW_428 : decode code 428 = .ok (.istore 5, 2) := by decide +kernel
theorem dW_430 : decode code 430 = .ok (.aload_n 2, 1) := by decide +kernel
theorem dW_431 : decode code 431 = .ok (.aload_n 0, 1) := by decide +kernel
theorem dW_432 : decode code 432 = .ok (.iload 4, 2) := by decide +kernel
theorem dW_434 : decode code 434 = .ok (.iconst 1, 1) := by decide +kernel
theorem dW_435 : decode code 435 = .ok (.iadd, 1) := by decide +kernel
theorem dW_436 : decode code 436 = .ok (.iaload, 1) := by decide +kernel
theorem dW_437 : decode code 437 = .ok (.aload_n 0, 1) := by decide +kernel
theorem dW_438 : decode code 438 = .ok (.iload 4, 2) := by decide +kernel
theorem dW_440 : decode code 440 = .ok (.iconst 2, 1) := by decide +kernel
theorem dW_441 : decode code 441 = .ok (.iadd, 1) := by decide +kernel
theorem dW_442 : decode code 442 = .ok (.iaload, 1) := by decide +kernel
theorem dW_443 : decode code 443 = .ok (.invokevirtual 88, 3) := by decide +kernel
theorem dW_446 : decode code 446 = .ok (.aload_n 2, 1) := by decide +kernel
theorem dW_447 : decode code 447 = .ok (.invokevirtual 68, 3) := by decide +kernel
theorem dW_450 : decode code 450 = .ok (.iload 5, 2) := by decide +kernel
theorem dW_452 : decode code 452 = .ok (.if_icmp .eq 5, 3) := by decide +kernel
theorem dW_455 : decode code 455 = .ok (.iconst 0, 1) := by decide +kernel
theorem dW_456 : decode code 456 = .ok (.ireturn, 1) := by decide +kernel
theorem dW_457 : decode code 457 = .ok (.goto 426, 3) := by decide +kernel
theorem dW_460 : decode code 460 = .ok (.aload_n 1, 1) := by decide +kernel
theorem dW_461 : decode code 461 = .ok (.aload_n 0, 1) := by decide +kernel
theorem dW_462 : decode code 462 = .ok (.iload 4, 2) := by decide +kernel
theorem dW_464 : decode code 464 = .ok (.iconst 1, 1) := by decide +kernel
theorem dW_465 : decode code 465 = .ok (.iadd, 1) := by decide +kernel
theorem dW_466 : decode code 466 = .ok (.iaload, 1) := by decide +kernel
theorem dW_467 : decode code 467 = .ok (.aload_n 3, 1) := by decide +kernel
theorem dW_468 : decode code 468 = .ok (.invokestatic 89, 3) := by decide +kernel
theorem dW_471 : decode code 471 = .ok (.istore 5, 2) := by decide +kernel
theorem dW_473 : decode code 473 = .ok (.aload_n 2, 1) := by decide +kernel
theorem dW_474 : decode code 474 = .ok (.aload_n 0, 1) := by decide +kernel
theorem dW_475 : decode code 475 = .ok (.iload 4, 2) := by decide +kernel
theorem dW_477 : decode code 477 = .ok (.iconst 1, 1) := by decide +kernel
theorem dW_478 : decode code 478 = .ok (.iadd, 1) := by decide +kernel
theorem dW_479 : decode code 479 = .ok (.iaload, 1) := by decide +kernel
theorem dW_480 : decode code 480 = .ok (.invokevirtual 91, 3) := by decide +kernel
theorem dW_483 : decode code 483 = .ok (.istore 6, 2) := by decide +kernel
theorem dW_485 : decode code 485 = .ok (.aload_n 2, 1) := by decide +kernel
theorem dW_486 : decode code 486 = .ok (.invokevirtual 68, 3) := by decide +kernel
theorem dW_489 : decode code 489 = .ok (.iload 5, 2) := by decide +kernel
theorem dW_491 : decode code 491 = .ok (.if_icmp .eq 5, 3) := by decide +kernel
theorem dW_494 : decode code 494 = .ok (.iconst 0, 1) := by decide +kernel
theorem dW_495 : decode code 495 = .ok (.ireturn, 1) := by decide +kernel
theorem dW_496 : decode code 496 = .ok (.iload 5, 2) := by decide +kernel
theorem dW_498 : decode code 498 = .ok (.ifCond .ne 15, 3) := by decide +kernel
theorem dW_501 : decode code 501 = .ok (.aload_n 3, 1) := by decide +kernel
theorem dW_502 : decode code 502 = .ok (.iconst 0, 1) := by decide +kernel
theorem dW_503 : decode code 503 = .ok (.laload, 1) := by decide +kernel
theorem dW_504 : decode code 504 = .ok (.iload 6, 2) := by decide +kernel
theorem dW_506 : decode code 506 = .ok (.i2l, 1) := by decide +kernel
theorem dW_507 : decode code 507 = .ok (.lcmp, 1) := by decide +kernel
theorem dW_508 : decode code 508 = .ok (.ifCond .eq 5, 3) := by decide +kernel
theorem dW_511 : decode code 511 = .ok (.iconst 0, 1) := by decide +kernel
theorem dW_512 : decode code 512 = .ok (.ireturn, 1) := by decide +kernel
theorem dW_513 : decode code 513 = .ok (.goto 370, 3) := by decide +kernel
theorem dW_516 : decode code 516 = .ok (.aload_n 1, 1) := by decide +kernel
theorem dW_517 : decode code 517 = .ok (.aload_n 0, 1) := by decide +kernel
theorem dW_518 : decode code 518 = .ok (.iload 4, 2) := by decide +kernel
theorem dW_520 : decode code 520 = .ok (.iconst 1, 1) := by decide +kernel
theorem dW_521 : decode code 521 = .ok (.iadd, 1) := by decide +kernel
theorem dW_522 : decode code 522 = .ok (.iaload, 1) := by decide +kernel
theorem dW_523 : decode code 523 = .ok (.aload_n 3, 1) := by decide +kernel
theorem dW_524 : decode code 524 = .ok (.invokestatic 92, 3) := by decide +kernel
theorem dW_527 : decode code 527 = .ok (.istore 5, 2) := by decide +kernel
theorem dW_529 : decode code 529 = .ok (.aload_n 2, 1) := by decide +kernel
theorem dW_530 : decode code 530 = .ok (.aload_n 0, 1) := by decide +kernel
theorem dW_531 : decode code 531 = .ok (.iload 4, 2) := by decide +kernel
theorem dW_533 : decode code 533 = .ok (.iconst 1, 1) := by decide +kernel
theorem dW_534 : decode code 534 = .ok (.iadd, 1) := by decide +kernel
theorem dW_535 : decode code 535 = .ok (.iaload, 1) := by decide +kernel
theorem dW_536 : decode code 536 = .ok (.invokevirtual 94, 3) := by decide +kernel
theorem dW_539 : decode code 539 = .ok (.istore 6, 2) := by decide +kernel
theorem dW_541 : decode code 541 = .ok (.aload_n 2, 1) := by decide +kernel
theorem dW_542 : decode code 542 = .ok (.invokevirtual 68, 3) := by decide +kernel
theorem dW_545 : decode code 545 = .ok (.iload 5, 2) := by decide +kernel
theorem dW_547 : decode code 547 = .ok (.if_icmp .eq 5, 3) := by decide +kernel
theorem dW_550 : decode code 550 = .ok (.iconst 0, 1) := by decide +kernel
theorem dW_551 : decode code 551 = .ok (.ireturn, 1) := by decide +kernel
theorem dW_552 : decode code 552 = .ok (.iload 5, 2) := by decide +kernel
theorem dW_554 : decode code 554 = .ok (.ifCond .ne 15, 3) := by decide +kernel
theorem dW_557 : decode code 557 = .ok (.aload_n 3, 1) := by decide +kernel
theorem dW_558 : decode code 558 = .ok (.iconst 0, 1) := by decide +kernel
theorem dW_559 : decode code 559 = .ok (.laload, 1) := by decide +kernel
theorem dW_560 : decode code 560 = .ok (.iload 6, 2) := by decide +kernel
theorem dW_562 : decode code 562 = .ok (.i2l, 1) := by decide +kernel
theorem dW_563 : decode code 563 = .ok (.lcmp, 1) := by decide +kernel
theorem dW_564 : decode code 564 = .ok (.ifCond .eq 5, 3) := by decide +kernel
theorem dW_567 : decode code 567 = .ok (.iconst 0, 1) := by decide +kernel
theorem dW_568 : decode code 568 = .ok (.ireturn, 1) := by decide +kernel
theorem dW_569 : decode code 569 = .ok (.goto 314, 3) := by decide +kernel
theorem dW_572 : decode code 572 = .ok (.aload_n 1, 1) := by decide +kernel
theorem dW_573 : decode code 573 = .ok (.aload_n 0, 1) := by decide +kernel
theorem dW_574 : decode code 574 = .ok (.iload 4, 2) := by decide +kernel
theorem dW_576 : decode code 576 = .ok (.iconst 1, 1) := by decide +kernel
theorem dW_577 : decode code 577 = .ok (.iadd, 1) := by decide +kernel
theorem dW_578 : decode code 578 = .ok (.iaload, 1) := by decide +kernel
theorem dW_579 : decode code 579 = .ok (.aload_n 0, 1) := by decide +kernel
theorem dW_580 : decode code 580 = .ok (.iload 4, 2) := by decide +kernel
theorem dW_582 : decode code 582 = .ok (.iconst 2, 1) := by decide +kernel
theorem dW_583 : decode code 583 = .ok (.iadd, 1) := by decide +kernel
theorem dW_584 : decode code 584 = .ok (.iaload, 1) := by decide +kernel
theorem dW_585 : decode code 585 = .ok (.aload_n 3, 1) := by decide +kernel
theorem dW_586 : decode code 586 = .ok (.invokestatic 95, 3) := by decide +kernel
theorem dW_589 : decode code 589 = .ok (.istore 5, 2) := by decide +kernel
theorem dW_591 : decode code 591 = .ok (.aload_n 2, 1) := by decide +kernel
theorem dW_592 : decode code 592 = .ok (.aload_n 0, 1) := by decide +kernel
theorem dW_593 : decode code 593 = .ok (.iload 4, 2) := by decide +kernel
theorem dW_595 : decode code 595 = .ok (.iconst 1, 1) := by decide +kernel
theorem dW_596 : decode code 596 = .ok (.iadd, 1) := by decide +kernel
theorem dW_597 : decode code 597 = .ok (.iaload, 1) := by decide +kernel
theorem dW_598 : decode code 598 = .ok (.aload_n 0, 1) := by decide +kernel
theorem dW_599 : decode code 599 = .ok (.iload 4, 2) := by decide +kernel
theorem dW_601 : decode code 601 = .ok (.iconst 2, 1) := by decide +kernel
theorem dW_602 : decode code 602 = .ok (.iadd, 1) := by decide +kernel
theorem dW_603 : decode code 603 = .ok (.iaload, 1) := by decide +kernel
theorem dW_604 : decode code 604 = .ok (.invokevirtual 98, 3) := by decide +kernel
theorem dW_607 : decode code 607 = .ok (.istore 6, 2) := by decide +kernel
theorem dW_609 : decode code 609 = .ok (.aload_n 2, 1) := by decide +kernel
theorem dW_610 : decode code 610 = .ok (.invokevirtual 68, 3) := by decide +kernel
theorem dW_613 : decode code 613 = .ok (.iload 5, 2) := by decide +kernel
theorem dW_615 : decode code 615 = .ok (.if_icmp .eq 5, 3) := by decide +kernel
theorem dW_618 : decode code 618 = .ok (.iconst 0, 1) := by decide +kernel
theorem dW_619 : decode code 619 = .ok (.ireturn, 1) := by decide +kernel
theorem dW_620 : decode code 620 = .ok (.iload 5, 2) := by decide +kernel
theorem dW_622 : decode code 622 = .ok (.ifCond .ne 15, 3) := by decide +kernel
theorem dW_625 : decode code 625 = .ok (.aload_n 3, 1) := by decide +kernel
theorem dW_626 : decode code 626 = .ok (.iconst 0, 1) := by decide +kernel
theorem dW_627 : decode code 627 = .ok (.laload, 1) := by decide +kernel
theorem dW_628 : decode code 628 = .ok (.iload 6, 2) := by decide +kernel
theorem dW_630 : decode code 630 = .ok (.i2l, 1) := by decide +kernel
theorem dW_631 : decode code 631 = .ok (.lcmp, 1) := by decide +kernel
theorem dW_632 : decode code 632 = .ok (.ifCond .eq 5, 3) := by decide +kernel
theorem dW_635 : decode code 635 = .ok (.iconst 0, 1) := by decide +kernel
theorem dW_636 : decode code 636 = .ok (.ireturn, 1) := by decide +kernel
theorem dW_637 : decode code 637 = .ok (.goto 246, 3) := by decide +kernel
theorem dW_640 : decode code 640 = .ok (.aload_n 1, 1) := by decide +kernel
theorem dW_641 : decode code 641 = .ok (.aload_n 0, 1) := by decide +kernel
theorem dW_642 : decode code 642 = .ok (.iload 4, 2) := by decide +kernel
theorem dW_644 : decode code 644 = .ok (.iconst 1, 1) := by decide +kernel
theorem dW_645 : decode code 645 = .ok (.iadd, 1) := by decide +kernel
theorem dW_646 : decode code 646 = .ok (.iaload, 1) := by decide +kernel
theorem dW_647 : decode code 647 = .ok (.aload_n 3, 1) := by decide +kernel
theorem dW_648 : decode code 648 = .ok (.invokestatic 99, 3) := by decide +kernel
theorem dW_651 : decode code 651 = .ok (.istore 5, 2) := by decide +kernel
theorem dW_653 : decode code 653 = .ok (.aload_n 2, 1) := by decide +kernel
theorem dW_654 : decode code 654 = .ok (.aload_n 0, 1) := by decide +kernel
theorem dW_655 : decode code 655 = .ok (.iload 4, 2) := by decide +kernel
theorem dW_657 : decode code 657 = .ok (.iconst 1, 1) := by decide +kernel
theorem dW_658 : decode code 658 = .ok (.iadd, 1) := by decide +kernel
theorem dW_659 : decode code 659 = .ok (.iaload, 1) := by decide +kernel
theorem dW_660 : decode code 660 = .ok (.invokevirtual 101, 3) := by decide +kernel
theorem dW_663 : decode code 663 = .ok (.istore 6, 2) := by decide +kernel
theorem dW_665 : decode code 665 = .ok (.aload_n 2, 1) := by decide +kernel
theorem dW_666 : decode code 666 = .ok (.invokevirtual 68, 3) := by decide +kernel
theorem dW_669 : decode code 669 = .ok (.iload 5, 2) := by decide +kernel
theorem dW_671 : decode code 671 = .ok (.if_icmp .eq 5, 3) := by decide +kernel
theorem dW_674 : decode code 674 = .ok (.iconst 0, 1) := by decide +kernel
theorem dW_675 : decode code 675 = .ok (.ireturn, 1) := by decide +kernel
theorem dW_676 : decode code 676 = .ok (.iload 5, 2) := by decide +kernel
theorem dW_678 : decode code 678 = .ok (.ifCond .ne 15, 3) := by decide +kernel
theorem dW_681 : decode code 681 = .ok (.aload_n 3, 1) := by decide +kernel
theorem dW_682 : decode code 682 = .ok (.iconst 0, 1) := by decide +kernel
theorem dW_683 : decode code 683 = .ok (.laload, 1) := by decide +kernel
theorem dW_684 : decode code 684 = .ok (.iload 6, 2) := by decide +kernel
theorem dW_686 : decode code 686 = .ok (.i2l, 1) := by decide +kernel
theorem dW_687 : decode code 687 = .ok (.lcmp, 1) := by decide +kernel
theorem dW_688 : decode code 688 = .ok (.ifCond .eq 5, 3) := by decide +kernel
theorem dW_691 : decode code 691 = .ok (.iconst 0, 1) := by decide +kernel
theorem dW_692 : decode code 692 = .ok (.ireturn, 1) := by decide +kernel
theorem dW_693 : decode code 693 = .ok (.goto 190, 3) := by decide +kernel
theorem dW_696 : decode code 696 = .ok (.aload_n 1, 1) := by decide +kernel
theorem dW_697 : decode code 697 = .ok (.aload_n 0, 1) := by decide +kernel
theorem dW_698 : decode code 698 = .ok (.iload 4, 2) := by decide +kernel
theorem dW_700 : decode code 700 = .ok (.iconst 1, 1) := by decide +kernel
theorem dW_701 : decode code 701 = .ok (.iadd, 1) := by decide +kernel
theorem dW_702 : decode code 702 = .ok (.iaload, 1) := by decide +kernel
theorem dW_703 : decode code 703 = .ok (.aload_n 3, 1) := by decide +kernel
theorem dW_704 : decode code 704 = .ok (.invokestatic 102, 3) := by decide +kernel
theorem dW_707 : decode code 707 = .ok (.istore 5, 2) := by decide +kernel
theorem dW_709 : decode code 709 = .ok (.aload_n 2, 1) := by decide +kernel
theorem dW_710 : decode code 710 = .ok (.aload_n 0, 1) := by decide +kernel
theorem dW_711 : decode code 711 = .ok (.iload 4, 2) := by decide +kernel
theorem dW_713 : decode code 713 = .ok (.iconst 1, 1) := by decide +kernel
theorem dW_714 : decode code 714 = .ok (.iadd, 1) := by decide +kernel
theorem dW_715 : decode code 715 = .ok (.iaload, 1) := by decide +kernel
theorem dW_716 : decode code 716 = .ok (.invokevirtual 104, 3) := by decide +kernel
theorem dW_719 : decode code 719 = .ok (.istore 6, 2) := by decide +kernel
theorem dW_721 : decode code 721 = .ok (.aload_n 2, 1) := by decide +kernel
theorem dW_722 : decode code 722 = .ok (.invokevirtual 68, 3) := by decide +kernel
theorem dW_725 : decode code 725 = .ok (.iload 5, 2) := by decide +kernel
theorem dW_727 : decode code 727 = .ok (.if_icmp .eq 5, 3) := by decide +kernel
theorem dW_730 : decode code 730 = .ok (.iconst 0, 1) := by decide +kernel
theorem dW_731 : decode code 731 = .ok (.ireturn, 1) := by decide +kernel
theorem dW_732 : decode code 732 = .ok (.iload 5, 2) := by decide +kernel
theorem dW_734 : decode code 734 = .ok (.ifCond .ne 15, 3) := by decide +kernel
theorem dW_737 : decode code 737 = .ok (.aload_n 3, 1) := by decide +kernel
theorem dW_738 : decode code 738 = .ok (.iconst 0, 1) := by decide +kernel
theorem dW_739 : decode code 739 = .ok (.laload, 1) := by decide +kernel
theorem dW_740 : decode code 740 = .ok (.iload 6, 2) := by decide +kernel
theorem dW_742 : decode code 742 = .ok (.i2l, 1) := by decide +kernel
theorem dW_743 : decode code 743 = .ok (.lcmp, 1) := by decide +kernel
theorem dW_744 : decode code 744 = .ok (.ifCond .eq 5, 3) := by decide +kernel
theorem dW_747 : decode code 747 = .ok (.iconst 0, 1) := by decide +kernel
theorem dW_748 : decode code 748 = .ok (.ireturn, 1) := by decide +kernel
theorem dW_749 : decode code 749 = .ok (.goto 134, 3) := by decide +kernel
theorem dW_752 : decode code 752 = .ok (.aload_n 1, 1) := by decide +kernel
theorem dW_753 : decode code 753 = .ok (.aload_n 0, 1) := by decide +kernel
theorem dW_754 : decode code 754 = .ok (.iload 4, 2) := by decide +kernel
theorem dW_756 : decode code 756 = .ok (.iconst 1, 1) := by decide +kernel
theorem dW_757 : decode code 757 = .ok (.iadd, 1) := by decide +kernel
theorem dW_758 : decode code 758 = .ok (.iaload, 1) := by decide +kernel
theorem dW_759 : decode code 759 = .ok (.aload_n 3, 1) := by decide +kernel
theorem dW_760 : decode code 760 = .ok (.invokestatic 105, 3) := by decide +kernel
theorem dW_763 : decode code 763 = .ok (.istore 5, 2) := by decide +kernel
theorem dW_765 : decode code 765 = .ok (.aload_n 2, 1) := by decide +kernel
theorem dW_766 : decode code 766 = .ok (.aload_n 0, 1) := by decide +kernel
theorem dW_767 : decode code 767 = .ok (.iload 4, 2) := by decide +kernel
theorem dW_769 : decode code 769 = .ok (.iconst 1, 1) := by decide +kernel
theorem dW_770 : decode code 770 = .ok (.iadd, 1) := by decide +kernel
theorem dW_771 : decode code 771 = .ok (.iaload, 1) := by decide +kernel
theorem dW_772 : decode code 772 = .ok (.invokevirtual 107, 3) := by decide +kernel
theorem dW_775 : decode code 775 = .ok (.istore 6, 2) := by decide +kernel
theorem dW_777 : decode code 777 = .ok (.aload_n 2, 1) := by decide +kernel
theorem dW_778 : decode code 778 = .ok (.invokevirtual 68, 3) := by decide +kernel
theorem dW_781 : decode code 781 = .ok (.iload 5, 2) := by decide +kernel
theorem dW_783 : decode code 783 = .ok (.if_icmp .eq 5, 3) := by decide +kernel
theorem dW_786 : decode code 786 = .ok (.iconst 0, 1) := by decide +kernel
theorem dW_787 : decode code 787 = .ok (.ireturn, 1) := by decide +kernel
theorem dW_788 : decode code 788 = .ok (.iload 5, 2) := by decide +kernel
theorem dW_790 : decode code 790 = .ok (.ifCond .ne 22, 3) := by decide +kernel
theorem dW_793 : decode code 793 = .ok (.aload_n 3, 1) := by decide +kernel
theorem dW_794 : decode code 794 = .ok (.iconst 0, 1) := by decide +kernel
theorem dW_795 : decode code 795 = .ok (.laload, 1) := by decide +kernel
theorem dW_796 : decode code 796 = .ok (.iload 6, 2) := by decide +kernel
theorem dW_798 : decode code 798 = .ok (.ifCond .eq 7, 3) := by decide +kernel
theorem dW_801 : decode code 801 = .ok (.lconst 1, 1) := by decide +kernel
theorem dW_802 : decode code 802 = .ok (.goto 4, 3) := by decide +kernel
theorem dW_805 : decode code 805 = .ok (.lconst 0, 1) := by decide +kernel
theorem dW_806 : decode code 806 = .ok (.lcmp, 1) := by decide +kernel
theorem dW_807 : decode code 807 = .ok (.ifCond .eq 5, 3) := by decide +kernel
theorem dW_810 : decode code 810 = .ok (.iconst 0, 1) := by decide +kernel
theorem dW_811 : decode code 811 = .ok (.ireturn, 1) := by decide +kernel
theorem dW_812 : decode code 812 = .ok (.goto 71, 3) := by decide +kernel
theorem dW_815 : decode code 815 = .ok (.aload_n 1, 1) := by decide +kernel
theorem dW_816 : decode code 816 = .ok (.aload_n 0, 1) := by decide +kernel
theorem dW_817 : decode code 817 = .ok (.iload 4, 2) := by decide +kernel
theorem dW_819 : decode code 819 = .ok (.iconst 1, 1) := by decide +kernel
theorem dW_820 : decode code 820 = .ok (.iadd, 1) := by decide +kernel
theorem dW_821 : decode code 821 = .ok (.iaload, 1) := by decide +kernel
theorem dW_822 : decode code 822 = .ok (.aload_n 3, 1) := by decide +kernel
theorem dW_823 : decode code 823 = .ok (.invokestatic 108, 3) := by decide +kernel
theorem dW_826 : decode code 826 = .ok (.istore 5, 2) := by decide +kernel
theorem dW_828 : decode code 828 = .ok (.aload_n 2, 1) := by decide +kernel
theorem dW_829 : decode code 829 = .ok (.aload_n 0, 1) := by decide +kernel
theorem dW_830 : decode code 830 = .ok (.iload 4, 2) := by decide +kernel
theorem dW_832 : decode code 832 = .ok (.iconst 1, 1) := by decide +kernel
theorem dW_833 : decode code 833 = .ok (.iadd, 1) := by decide +kernel
theorem dW_834 : decode code 834 = .ok (.iaload, 1) := by decide +kernel
theorem dW_835 : decode code 835 = .ok (.invokevirtual 110, 3) := by decide +kernel
theorem dW_838 : decode code 838 = .ok (.lstore 6, 2) := by decide +kernel
theorem dW_840 : decode code 840 = .ok (.aload_n 2, 1) := by decide +kernel
theorem dW_841 : decode code 841 = .ok (.invokevirtual 68, 3) := by decide +kernel
theorem dW_844 : decode code 844 = .ok (.iload 5, 2) := by decide +kernel
theorem dW_846 : decode code 846 = .ok (.if_icmp .eq 5, 3) := by decide +kernel
theorem dW_849 : decode code 849 = .ok (.iconst 0, 1) := by decide +kernel
theorem dW_850 : decode code 850 = .ok (.ireturn, 1) := by decide +kernel
theorem dW_851 : decode code 851 = .ok (.iload 5, 2) := by decide +kernel
theorem dW_853 : decode code 853 = .ok (.ifCond .ne 14, 3) := by decide +kernel
theorem dW_856 : decode code 856 = .ok (.aload_n 3, 1) := by decide +kernel
theorem dW_857 : decode code 857 = .ok (.iconst 0, 1) := by decide +kernel
theorem dW_858 : decode code 858 = .ok (.laload, 1) := by decide +kernel
theorem dW_859 : decode code 859 = .ok (.lload 6, 2) := by decide +kernel
theorem dW_861 : decode code 861 = .ok (.lcmp, 1) := by decide +kernel
theorem dW_862 : decode code 862 = .ok (.ifCond .eq 5, 3) := by decide +kernel
theorem dW_865 : decode code 865 = .ok (.iconst 0, 1) := by decide +kernel
theorem dW_866 : decode code 866 = .ok (.ireturn, 1) := by decide +kernel
theorem dW_867 : decode code 867 = .ok (.goto 16, 3) := by decide +kernel
theorem dW_870 : decode code 870 = .ok (.aload_n 1, 1) := by decide +kernel
theorem dW_871 : decode code 871 = .ok (.invokevirtual 111, 3) := by decide +kernel
theorem dW_874 : decode code 874 = .ok (.aload_n 2, 1) := by decide +kernel
theorem dW_875 : decode code 875 = .ok (.invokevirtual 114, 3) := by decide +kernel
theorem dW_878 : decode code 878 = .ok (.if_icmp .eq 5, 3) := by decide +kernel
theorem dW_881 : decode code 881 = .ok (.iconst 0, 1) := by decide +kernel
theorem dW_882 : decode code 882 = .ok (.ireturn, 1) := by decide +kernel
theorem dW_883 : decode code 883 = .ok (.iinc 4 5, 3) := by decide +kernel
theorem dW_886 : decode code 886 = .ok (.goto (-863), 3) := by decide +kernel
theorem dW_889 : decode code 889 = .ok (.iconst 1, 1) := by decide +kernel
theorem dW_890 : decode code 890 = .ok (.ireturn, 1) := by decide +kernel
