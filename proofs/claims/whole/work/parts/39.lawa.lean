theorem dW_0 : decode code 0 = .ok (.new 8, 3) := by decide +kernel
theorem dW_3 : decode code 3 = .ok (.dup, 1) := by decide +kernel
theorem dW_4 : decode code 4 = .ok (.invokespecial 28, 3) := by decide +kernel
theorem dW_7 : decode code 7 = .ok (.astore_n 1, 1) := by decide +kernel
theorem dW_8 : decode code 8 = .ok (.new 29, 3) := by decide +kernel
theorem dW_11 : decode code 11 = .ok (.dup, 1) := by decide +kernel
theorem dW_12 : decode code 12 = .ok (.invokespecial 31, 3) := by decide +kernel
theorem dW_15 : decode code 15 = .ok (.astore_n 2, 1) := by decide +kernel
theorem dW_16 : decode code 16 = .ok (.iconst 1, 1) := by decide +kernel
theorem dW_17 : decode code 17 = .ok (.newarray .long, 2) := by decide +kernel
theorem dW_19 : decode code 19 = .ok (.astore_n 3, 1) := by decide +kernel
theorem dW_20 : decode code 20 = .ok (.iconst 0, 1) := by decide +kernel
theorem dW_21 : decode code 21 = .ok (.istore 4, 2) := by decide +kernel
theorem dW_23 : decode code 23 = .ok (.iload 4, 2) := by decide +kernel
theorem dW_25 : decode code 25 = .ok (.aload_n 0, 1) := by decide +kernel
theorem dW_26 : decode code 26 = .ok (.arraylength, 1) := by decide +kernel
theorem dW_27 : decode code 27 = .ok (.iconst 4, 1) := by decide +kernel
theorem dW_28 : decode code 28 = .ok (.isub, 1) := by decide +kernel
theorem dW_29 : decode code 29 = .ok (.if_icmp .gt 486, 3) := by decide +kernel
theorem dW_32 : decode code 32 = .ok (.aload_n 0, 1) := by decide +kernel
theorem dW_33 : decode code 33 = .ok (.iload 4, 2) := by decide +kernel
theorem dW_35 : decode code 35 = .ok (.iaload, 1) := by decide +kernel
theorem dW_36 : decode code 36 = .ok (.bipush 15, 2) := by decide +kernel
theorem dW_38 : decode code 38 = .ok (.iand, 1) := by decide +kernel
theorem dW_39 : decode code 39 = .ok (.tableswitch 470 0 8 #[49, 97, 153, 218, 271, 327, 371, 396, 433], 49) := by decide +kernel
theorem dW_88 : decode code 88 = .ok (.aload_n 1, 1) := by decide +kernel
theorem dW_89 : decode code 89 = .ok (.aload_n 0, 1) := by decide +kernel
theorem dW_90 : decode code 90 = .ok (.iload 4, 2) := by decide +kernel
theorem dW_92 : decode code 92 = .ok (.iconst 1, 1) := by decide +kernel
theorem dW_93 : decode code 93 = .ok (.iadd, 1) := by decide +kernel
theorem dW_94 : decode code 94 = .ok (.iaload, 1) := by decide +kernel
theorem dW_95 : decode code 95 = .ok (.aload_n 0, 1) := by decide +kernel
theorem dW_96 : decode code 96 = .ok (.iload 4, 2) := by decide +kernel
theorem dW_98 : decode code 98 = .ok (.iconst 2, 1) := by decide +kernel
theorem dW_99 : decode code 99 = .ok (.iadd, 1) := by decide +kernel
theorem dW_100 : decode code 100 = .ok (.iaload, 1) := by decide +kernel
theorem dW_101 : decode code 101 = .ok (.invokestatic 32, 3) := by decide +kernel
theorem dW_104 : decode code 104 = .ok (.istore 5, 2) := by decide +kernel
theorem dW_106 : decode code 106 = .ok (.aload_n 2, 1) := by decide +kernel
theorem dW_107 : decode code 107 = .ok (.aload_n 0, 1) := by decide +kernel
theorem dW_108 : decode code 108 = .ok (.iload 4, 2) := by decide +kernel
theorem dW_110 : decode code 110 = .ok (.iconst 1, 1) := by decide +kernel
theorem dW_111 : decode code 111 = .ok (.iadd, 1) := by decide +kernel
theorem dW_112 : decode code 112 = .ok (.iaload, 1) := by decide +kernel
theorem dW_113 : decode code 113 = .ok (.aload_n 0, 1) := by decide +kernel
theorem dW_114 : decode code 114 = .ok (.iload 4, 2) := by decide +kernel
theorem dW_116 : decode code 116 = .ok (.iconst 2, 1) := by decide +kernel
theorem dW_117 : decode code 117 = .ok (.iadd, 1) := by decide +kernel
theorem dW_118 : decode code 118 = .ok (.iaload, 1) := by decide +kernel
theorem dW_119 : decode code 119 = .ok (.invokevirtual 37, 3) := by decide +kernel
theorem dW_122 : decode code 122 = .ok (.aload_n 2, 1) := by decide +kernel
theorem dW_123 : decode code 123 = .ok (.invokevirtual 38, 3) := by decide +kernel
theorem dW_126 : decode code 126 = .ok (.iload 5, 2) := by decide +kernel
theorem dW_128 : decode code 128 = .ok (.if_icmp .eq 5, 3) := by decide +kernel
theorem dW_131 : decode code 131 = .ok (.iconst 0, 1) := by decide +kernel
theorem dW_132 : decode code 132 = .ok (.ireturn, 1) := by decide +kernel
theorem dW_133 : decode code 133 = .ok (.goto 376, 3) := by decide +kernel
theorem dW_136 : decode code 136 = .ok (.aload_n 1, 1) := by decide +kernel
theorem dW_137 : decode code 137 = .ok (.aload_n 0, 1) := by decide +kernel
theorem dW_138 : decode code 138 = .ok (.iload 4, 2) := by decide +kernel
theorem dW_140 : decode code 140 = .ok (.iconst 1, 1) := by decide +kernel
theorem dW_141 : decode code 141 = .ok (.iadd, 1) := by decide +kernel
theorem dW_142 : decode code 142 = .ok (.iaload, 1) := by decide +kernel
theorem dW_143 : decode code 143 = .ok (.aload_n 3, 1) := by decide +kernel
theorem dW_144 : decode code 144 = .ok (.invokestatic 41, 3) := by decide +kernel
theorem dW_147 : decode code 147 = .ok (.istore 5, 2) := by decide +kernel
theorem dW_149 : decode code 149 = .ok (.aload_n 2, 1) := by decide +kernel
theorem dW_150 : decode code 150 = .ok (.aload_n 0, 1) := by decide +kernel
theorem dW_151 : decode code 151 = .ok (.iload 4, 2) := by decide +kernel
theorem dW_153 : decode code 153 = .ok (.iconst 1, 1) := by decide +kernel
theorem dW_154 : decode code 154 = .ok (.iadd, 1) := by decide +kernel
theorem dW_155 : decode code 155 = .ok (.iaload, 1) := by decide +kernel
theorem dW_156 : decode code 156 = .ok (.invokevirtual 44, 3) := by decide +kernel
theorem dW_159 : decode code 159 = .ok (.istore 6, 2) := by decide +kernel
theorem dW_161 : decode code 161 = .ok (.aload_n 2, 1) := by decide +kernel
theorem dW_162 : decode code 162 = .ok (.invokevirtual 38, 3) := by decide +kernel
theorem dW_165 : decode code 165 = .ok (.iload 5, 2) := by decide +kernel
theorem dW_167 : decode code 167 = .ok (.if_icmp .eq 5, 3) := by decide +kernel
theorem dW_170 : decode code 170 = .ok (.iconst 0, 1) := by decide +kernel
theorem dW_171 : decode code 171 = .ok (.ireturn, 1) := by decide +kernel
theorem dW_172 : decode code 172 = .ok (.iload 5, 2) := by decide +kernel
theorem dW_174 : decode code 174 = .ok (.ifCond .ne 15, 3) := by decide +kernel
theorem dW_177 : decode code 177 = .ok (.aload_n 3, 1) := by decide +kernel
theorem dW_178 : decode code 178 = .ok (.iconst 0, 1) := by decide +kernel
theorem dW_179 : decode code 179 = .ok (.laload, 1) := by decide +kernel
theorem dW_180 : decode code 180 = .ok (.iload 6, 2) := by decide +kernel
theorem dW_182 : decode code 182 = .ok (.i2l, 1) := by decide +kernel
theorem dW_183 : decode code 183 = .ok (.lcmp, 1) := by decide +kernel
theorem dW_184 : decode code 184 = .ok (.ifCond .eq 5, 3) := by decide +kernel
theorem dW_187 : decode code 187 = .ok (.iconst 0, 1) := by decide +kernel
theorem dW_188 : decode code 188 = .ok (.ireturn, 1) := by decide +kernel
theorem dW_189 : decode code 189 = .ok (.goto 320, 3) := by decide +kernel
theorem dW_192 : decode code 192 = .ok (.aload_n 1, 1) := by decide +kernel
theorem dW_193 : decode code 193 = .ok (.aload_n 0, 1) := by decide +kernel
theorem dW_194 : decode code 194 = .ok (.iload 4, 2) := by decide +kernel
theorem dW_196 : decode code 196 = .ok (.iconst 1, 1) := by decide +kernel
theorem dW_197 : decode code 197 = .ok (.iadd, 1) := by decide +kernel
theorem dW_198 : decode code 198 = .ok (.iaload, 1) := by decide +kernel
theorem dW_199 : decode code 199 = .ok (.aload_n 0, 1) := by decide +kernel
theorem dW_200 : decode code 200 = .ok (.iload 4, 2) := by decide +kernel
theorem dW_202 : decode code 202 = .ok (.iconst 2, 1) := by decide +kernel
theorem dW_203 : decode code 203 = .ok (.iadd, 1) := by decide +kernel
theorem dW_204 : decode code 204 = .ok (.iaload, 1) := by decide +kernel
theorem dW_205 : decode code 205 = .ok (.aload_n 0, 1) := by decide +kernel
theorem dW_206 : decode code 206 = .ok (.iload 4, 2) := by decide +kernel
theorem dW_208 : decode code 208 = .ok (.iconst 3, 1) := by decide +kernel
theorem dW_209 : decode code 209 = .ok (.iadd, 1) := by decide +kernel
theorem dW_210 : decode code 210 = .ok (.iaload, 1) := by decide +kernel
theorem dW_211 : decode code 211 = .ok (.ifCond .eq 7, 3) := by decide +kernel
theorem dW_214 : decode code 214 = .ok (.iconst 1, 1) := by decide +kernel
theorem dW_215 : decode code 215 = .ok (.goto 4, 3) := by decide +kernel
theorem dW_218 : decode code 218 = .ok (.iconst 0, 1) := by decide +kernel
theorem dW_219 : decode code 219 = .ok (.invokevirtual 45, 3) := by decide +kernel
theorem dW_222 : decode code 222 = .ok (.aload_n 2, 1) := by decide +kernel
theorem dW_223 : decode code 223 = .ok (.aload_n 0, 1) := by decide +kernel
theorem dW_224 : decode code 224 = .ok (.iload 4, 2) := by decide +kernel
theorem dW_226 : decode code 226 = .ok (.iconst 1, 1) := by decide +kernel
theorem dW_227 : decode code 227 = .ok (.iadd, 1) := by decide +kernel
theorem dW_228 : decode code 228 = .ok (.iaload, 1) := by decide +kernel
theorem dW_229 : decode code 229 = .ok (.aload_n 0, 1) := by decide +kernel
theorem dW_230 : decode code 230 = .ok (.iload 4, 2) := by decide +kernel
theorem dW_232 : decode code 232 = .ok (.iconst 2, 1) := by decide +kernel
theorem dW_233 : decode code 233 = .ok (.iadd, 1) := by decide +kernel
theorem dW_234 : decode code 234 = .ok (.iaload, 1) := by decide +kernel
theorem dW_235 : decode code 235 = .ok (.aload_n 0, 1) := by decide +kernel
theorem dW_236 : decode code 236 = .ok (.iload 4, 2) := by decide +kernel
theorem dW_238 : decode code 238 = .ok (.iconst 3, 1) := by decide +kernel
theorem dW_239 : decode code 239 = .ok (.iadd, 1) := by decide +kernel
theorem dW_240 : decode code 240 = .ok (.iaload, 1) := by decide +kernel
theorem dW_241 : decode code 241 = .ok (.ifCond .eq 7, 3) := by decide +kernel
theorem dW_244 : decode code 244 = .ok (.iconst 1, 1) := by decide +kernel
theorem dW_245 : decode code 245 = .ok (.goto 4, 3) := by decide +kernel
theorem dW_248 : decode code 248 = .ok (.iconst 0, 1) := by decide +kernel
theorem dW_249 : decode code 249 = .ok (.invokevirtual 49, 3) := by decide +kernel
theorem dW_252 : decode code 252 = .ok (.if_icmp .eq 257, 3) := by decide +kernel
theorem dW_255 : decode code 255 = .ok (.iconst 0, 1) := by decide +kernel
theorem dW_256 : decode code 256 = .ok (.ireturn, 1) := by decide +kernel
theorem dW_257 : decode code 257 = .ok (.aload_n 1, 1) := by decide +kernel
theorem dW_258 : decode code 258 = .ok (.aload_n 0, 1) := by decide +kernel
theorem dW_259 : decode code 259 = .ok (.iload 4, 2) := by decide +kernel
theorem dW_261 : decode code 261 = .ok (.iconst 1, 1) := by decide +kernel
theorem dW_262 : decode code 262 = .ok (.iadd, 1) := by decide +kernel
theorem dW_263 : decode code 263 = .ok (.iaload, 1) := by decide +kernel
theorem dW_264 : decode code 264 = .ok (.aload_n 0, 1) := by decide +kernel
theorem dW_265 : decode code 265 = .ok (.iload 4, 2) := by decide +kernel
theorem dW_267 : decode code 267 = .ok (.iconst 2, 1) := by decide +kernel
theorem dW_268 : decode code 268 = .ok (.iadd, 1) := by decide +kernel
theorem dW_269 : decode code 269 = .ok (.iaload, 1) := by decide +kernel
theorem dW_270 : decode code 270 = .ok (.ifCond .eq 7, 3) := by decide +kernel
theorem dW_273 : decode code 273 = .ok (.iconst 1, 1) := by decide +kernel
theorem dW_274 : decode code 274 = .ok (.goto 4, 3) := by decide +kernel
theorem dW_277 : decode code 277 = .ok (.iconst 0, 1) := by decide +kernel
theorem dW_278 : decode code 278 = .ok (.invokevirtual 50, 3) := by decide +kernel
theorem dW_281 : decode code 281 = .ok (.aload_n 2, 1) := by decide +kernel
theorem dW_282 : decode code 282 = .ok (.aload_n 0, 1) := by decide +kernel
theorem dW_283 : decode code 283 = .ok (.iload 4, 2) := by decide +kernel
theorem dW_285 : decode code 285 = .ok (.iconst 1, 1) := by decide +kernel
theorem dW_286 : decode code 286 = .ok (.iadd, 1) := by decide +kernel
theorem dW_287 : decode code 287 = .ok (.iaload, 1) := by decide +kernel
theorem dW_288 : decode code 288 = .ok (.aload_n 0, 1) := by decide +kernel
theorem dW_289 : decode code 289 = .ok (.iload 4, 2) := by decide +kernel
theorem dW_291 : decode code 291 = .ok (.iconst 2, 1) := by decide +kernel
theorem dW_292 : decode code 292 = .ok (.iadd, 1) := by decide +kernel
theorem dW_293 : decode code 293 = .ok (.iaload, 1) := by decide +kernel
theorem dW_294 : decode code 294 = .ok (.ifCond .eq 7, 3) := by decide +kernel
theorem dW_297 : decode code 297 = .ok (.iconst 1, 1) := by decide +kernel
theorem dW_298 : decode code 298 = .ok (.goto 4, 3) := by decide +kernel
theorem dW_301 : decode code 301 = .ok (.iconst 0, 1) := by decide +kernel
theorem dW_302 : decode code 302 = .ok (.invokevirtual 54, 3) := by decide +kernel
theorem dW_305 : decode code 305 = .ok (.if_icmp .eq 204, 3) := by decide +kernel
theorem dW_308 : decode code 308 = .ok (.iconst 0, 1) := by decide +kernel
theorem dW_309 : decode code 309 = .ok (.ireturn, 1) := by decide +kernel
theorem dW_310 : decode code 310 = .ok (.aload_n 1, 1) := by decide +kernel
theorem dW_311 : decode code 311 = .ok (.aload_n 0, 1) := by decide +kernel
theorem dW_312 : decode code 312 = .ok (.iload 4, 2) := by decide +kernel
theorem dW_314 : decode code 314 = .ok (.iconst 1, 1) := by decide +kernel
theorem dW_315 : decode code 315 = .ok (.iadd, 1) := by decide +kernel
theorem dW_316 : decode code 316 = .ok (.iaload, 1) := by decide +kernel
theorem dW_317 : decode code 317 = .ok (.aload_n 3, 1) := by decide +kernel
theorem dW_318 : decode code 318 = .ok (.invokestatic 55, 3) := by decide +kernel
theorem dW_321 : decode code 321 = .ok (.istore 5, 2) := by decide +kernel
theorem dW_323 : decode code 323 = .ok (.aload_n 2, 1) := by decide +kernel
theorem dW_324 : decode code 324 = .ok (.aload_n 0, 1) := by decide +kernel
theorem dW_325 : decode code 325 = .ok (.iload 4, 2) := by decide +kernel
theorem dW_327 : decode code 327 = .ok (.iconst 1, 1) := by decide +kernel
theorem dW_328 : decode code 328 = .ok (.iadd, 1) := by decide +kernel
theorem dW_329 : decode code 329 = .ok (.iaload, 1) := by decide +kernel
theorem dW_330 : decode code 330 = .ok (.invokevirtual 57, 3) := by decide +kernel
theorem dW_333 : decode code 333 = .ok (.istore 6, 2) := by decide +kernel
theorem dW_335 : decode code 335 = .ok (.aload_n 2, 1) := by decide +kernel
theorem dW_336 : decode code 336 = .ok (.invokevirtual 38, 3) := by decide +kernel
theorem dW_339 : decode code 339 = .ok (.iload 5, 2) := by decide +kernel
theorem dW_341 : decode code 341 = .ok (.if_icmp .eq 5, 3) := by decide +kernel
theorem dW_344 : decode code 344 = .ok (.iconst 0, 1) := by decide +kernel
theorem dW_345 : decode code 345 = .ok (.ireturn, 1) := by decide +kernel
theorem dW_346 : decode code 346 = .ok (.iload 5, 2) := by decide +kernel
theorem dW_348 : decode code 348 = .ok (.ifCond .ne 15, 3) := by decide +kernel
theorem dW_351 : decode code 351 = .ok (.aload_n 3, 1) := by decide +kernel
theorem dW_352 : decode code 352 = .ok (.iconst 0, 1) := by decide +kernel
theorem dW_353 : decode code 353 = .ok (.laload, 1) := by decide +kernel
theorem dW_354 : decode code 354 = .ok (.iload 6, 2) := by decide +kernel
theorem dW_356 : decode code 356 = .ok (.i2l, 1) := by decide +kernel
theorem dW_357 : decode code 357 = .ok (.lcmp, 1) := by decide +kernel
theorem dW_358 : decode code 358 = .ok (.ifCond .eq 5, 3) := by decide +kernel
theorem dW_361 : decode code 361 = .ok (.iconst 0, 1) := by decide +kernel
theorem dW_362 : decode code 362 = .ok (.ireturn, 1) := by decide +kernel
theorem dW_363 : decode code 363 = .ok (.goto 146, 3) := by decide +kernel
theorem dW_366 : decode code 366 = .ok (.aload_n 1, 1) := by decide +kernel
theorem dW_367 : decode code 367 = .ok (.aload_n 3, 1) := by decide +kernel
theorem dW_368 : decode code 368 = .ok (.invokestatic 58, 3) := by decide +kernel
theorem dW_371 : decode code 371 = .ok (.istore 5, 2) := by decide +kernel
theorem dW_373 : decode code 373 = .ok (.aload_n 2, 1) := by decide +kernel
theorem dW_374 : decode code 374 = .ok (.invokevirtual 61, 3) := by decide +kernel
theorem dW_377 : decode code 377 = .ok (.istore 6, 2) := by decide +kernel
theorem dW_379 : decode code 379 = .ok (.aload_n 2, 1) := by decide +kernel
theorem dW_380 : decode code 380 = .ok (.invokevirtual 38, 3) := by decide +kernel
theorem dW_383 : decode code 383 = .ok (.iload 5, 2) := by decide +kernel
theorem dW_385 : decode code 385 = .ok (.if_icmp .eq 5, 3) := by decide +kernel
theorem dW_388 : decode code 388 = .ok (.iconst 0, 1) := by decide +kernel
theorem dW_389 : decode code 389 = .ok (.ireturn, 1) := by decide +kernel
theorem dW_390 : decode code 390 = .ok (.iload 5, 2) := by decide +kernel
theorem dW_392 : decode code 392 = .ok (.ifCond .ne 15, 3) := by decide +kernel
theorem dW_395 : decode code 395 = .ok (.aload_n 3, 1) := by decide +kernel
theorem dW_396 : decode code 396 = .ok (.iconst 0, 1) := by decide +kernel
theorem dW_397 : decode code 397 = .ok (.laload, 1) := by decide +kernel
theorem dW_398 : decode code 398 = .ok (.iload 6, 2) := by decide +kernel
theorem dW_400 : decode code 400 = .ok (.i2l, 1) := by decide +kernel
theorem dW_401 : decode code 401 = .ok (.lcmp, 1) := by decide +kernel
theorem dW_402 : decode code 402 = .ok (.ifCond .eq 5, 3) := by decide +kernel
theorem dW_405 : decode code 405 = .ok (.iconst 0, 1) := by decide +kernel
theorem dW_406 : decode code 406 = .ok (.ireturn, 1) := by decide +kernel
theorem dW_407 : decode code 407 = .ok (.goto 102, 3) := by decide +kernel
theorem dW_410 : decode code 410 = .ok (.aload_n 1, 1) := by decide +kernel
theorem dW_411 : decode code 411 = .ok (.aload_n 0, 1) := by decide +kernel
theorem dW_412 : decode code 412 = .ok (.iload 4, 2) := by decide +kernel
theorem dW_414 : decode code 414 = .ok (.iconst 1, 1) := by decide +kernel
theorem dW_415 : decode code 415 = .ok (.iadd, 1) := by decide +kernel
theorem dW_416 : decode code 416 = .ok (.iaload, 1) := by decide +kernel
theorem dW_417 : decode code 417 = .ok (.invokevirtual 62, 3) := by decide +kernel
theorem dW_420 : decode code 420 = .ok (.aload_n 2, 1) := by decide +kernel
theorem dW_421 : decode code 421 = .ok (.aload_n 0, 1) := by decide +kernel
theorem dW_422 : decode code 422 = .ok (.iload 4, 2) := by decide +kernel
theorem dW_424 : decode code 424 = .ok (.iconst 1, 1) := by decide +kernel
theorem dW_425 : decode code 425 = .ok (.iadd, 1) := by decide +kernel
theorem dW_426 : decode code 426 = .ok (.iaload, 1) := by decide +kernel
theorem dW_427 : decode code 427 = .ok (.invokevirtual 65, 3) := by decide +kernel
theorem dW_430 : decode code 430 = .ok (.if_icmp .eq 79, 3) := by decide +kernel
theorem dW_433 : decode code 433 = .ok (.iconst 0, 1) := by decide +kernel
theorem dW_434 : decode code 434 = .ok (.ireturn, 1) := by decide +kernel
theorem dW_435 : decode code 435 = .ok (.aload_n 1, 1) := by decide +kernel
theorem dW_436 : decode code 436 = .ok (.aload_n 0, 1) := by decide +kernel
theorem dW_437 : decode code 437 = .ok (.iload 4, 2) := by decide +kernel
theorem dW_439 : decode code 439 = .ok (.iconst 1, 1) := by decide +kernel
theorem dW_440 : decode code 440 = .ok (.iadd, 1) := by decide +kernel
theorem dW_441 : decode code 441 = .ok (.iaload, 1) := by decide +kernel
theorem dW_442 : decode code 442 = .ok (.aload_n 0, 1) := by decide +kernel
theorem dW_443 : decode code 443 = .ok (.iload 4, 2) := by decide +kernel
theorem dW_445 : decode code 445 = .ok (.iconst 2, 1) := by decide +kernel
theorem dW_446 : decode code 446 = .ok (.iadd, 1) := by decide +kernel
theorem dW_447 : decode code 447 = .ok (.iaload, 1) := by decide +kernel
theorem dW_448 : decode code 448 = .ok (.invokevirtual 66, 3) := by decide +kernel
theorem dW_451 : decode code 451 = .ok (.aload_n 2, 1) := by decide +kernel
theorem dW_452 : decode code 452 = .ok (.aload_n 0, 1) := by decide +kernel
theorem dW_453 : decode code 453 = .ok (.iload 4, 2) := by decide +kernel
theorem dW_455 : decode code 455 = .ok (.iconst 1, 1) := by decide +kernel
theorem dW_456 : decode code 456 = .ok (.iadd, 1) := by decide +kernel
theorem dW_457 : decode code 457 = .ok (.iaload, 1) := by decide +kernel
theorem dW_458 : decode code 458 = .ok (.aload_n 0, 1) := by decide +kernel
theorem dW_459 : decode code 459 = .ok (.iload 4, 2) := by decide +kernel
theorem dW_461 : decode code 461 = .ok (.iconst 2, 1) := by decide +kernel
theorem dW_462 : decode code 462 = .ok (.iadd, 1) := by decide +kernel
theorem dW_463 : decode code 463 = .ok (.iaload, 1) := by decide +kernel
theorem dW_464 : decode code 464 = .ok (.invokevirtual 70, 3) := by decide +kernel
theorem dW_467 : decode code 467 = .ok (.if_icmp .eq 42, 3) := by decide +kernel
theorem dW_470 : decode code 470 = .ok (.iconst 0, 1) := by decide +kernel
theorem dW_471 : decode code 471 = .ok (.ireturn, 1) := by decide +kernel
theorem dW_472 : decode code 472 = .ok (.aload_n 1, 1) := by decide +kernel
theorem dW_473 : decode code 473 = .ok (.aload_n 0, 1) := by decide +kernel
theorem dW_474 : decode code 474 = .ok (.iload 4, 2) := by decide +kernel
theorem dW_476 : decode code 476 = .ok (.iconst 1, 1) := by decide +kernel
theorem dW_477 : decode code 477 = .ok (.iadd, 1) := by decide +kernel
theorem dW_478 : decode code 478 = .ok (.iaload, 1) := by decide +kernel
theorem dW_479 : decode code 479 = .ok (.aload_n 0, 1) := by decide +kernel
theorem dW_480 : decode code 480 = .ok (.iload 4, 2) := by decide +kernel
theorem dW_482 : decode code 482 = .ok (.iconst 2, 1) := by decide +kernel
theorem dW_483 : decode code 483 = .ok (.iadd, 1) := by decide +kernel
theorem dW_484 : decode code 484 = .ok (.iaload, 1) := by decide +kernel
theorem dW_485 : decode code 485 = .ok (.invokevirtual 71, 3) := by decide +kernel
theorem dW_488 : decode code 488 = .ok (.aload_n 2, 1) := by decide +kernel
theorem dW_489 : decode code 489 = .ok (.aload_n 0, 1) := by decide +kernel
theorem dW_490 : decode code 490 = .ok (.iload 4, 2) := by decide +kernel
theorem dW_492 : decode code 492 = .ok (.iconst 1, 1) := by decide +kernel
theorem dW_493 : decode code 493 = .ok (.iadd, 1) := by decide +kernel
theorem dW_494 : decode code 494 = .ok (.iaload, 1) := by decide +kernel
theorem dW_495 : decode code 495 = .ok (.aload_n 0, 1) := by decide +kernel
theorem dW_496 : decode code 496 = .ok (.iload 4, 2) := by decide +kernel
theorem dW_498 : decode code 498 = .ok (.iconst 2, 1) := by decide +kernel
theorem dW_499 : decode code 499 = .ok (.iadd, 1) := by decide +kernel
theorem dW_500 : decode code 500 = .ok (.iaload, 1) := by decide +kernel
theorem dW_501 : decode code 501 = .ok (.invokevirtual 74, 3) := by decide +kernel
theorem dW_504 : decode code 504 = .ok (.if_icmp .eq 5, 3) := by decide +kernel
theorem dW_507 : decode code 507 = .ok (.iconst 0, 1) := by decide +kernel
theorem dW_508 : decode code 508 = .ok (.ireturn, 1) := by decide +kernel
theorem dW_509 : decode code 509 = .ok (.iinc 4 4, 3) := by decide +kernel
theorem dW_512 : decode code 512 = .ok (.goto (-489), 3) := by decide +kernel
theorem dW_515 : decode code 515 = .ok (.iconst 1, 1) := by decide +kernel
theorem dW_516 : decode code 516 = .ok (.ireturn, 1) := by decide +kernel
/-- all the words that the law and what it calls want -/
def tkWA : List Cond := tkWH ++ tkWM
theorem tkWA_h : ∀ w ∈ tkWH, w ∈ tkWA := fun w h => List.mem_append_left _ h
theorem tkWA_m : ∀ w ∈ tkWM, w ∈ tkWA := fun w h => List.mem_append_right _ h
theorem tkWA_k : ∀ w ∈ tkW, w ∈ tkWA := fun w h => tkWA_h w (tkWH_k w h)
theorem tkWA_l : ∀ w ∈ tkWL, w ∈ tkWA := fun w h => tkWA_h w (tkWH_l w h)
theorem tkWA_good : ∀ w ∈ tkWA, goodWord w = true := fun w h => (List.mem_append.mp h).elim (tkWH_good w) (tkWM_good w)
theorem tkWA_lw : ∀ w ∈ tkWA, w ∈ lw_tbl := fun w h => (List.mem_append.mp h).elim (fun h => (List.mem_append.mp h).elim (tkWL_lw w) (tkW_lw w)) (tkWM_lw w)
theorem tk_gSW {own : String} {idx : Nat} {y : MethodName} {cc : ByteArray} {maxL : Nat} {ret : Option FieldType} {hh : List (Nat × Nat × Nat × Nat)} (h1 : Cond.methodLink own idx y ∈ tkWL) (h2 : Cond.static y ∈ tkWL) (h4 : Cond.initialized y.cls ∈ tkWL) (h5 : Cond.codeWith y cc maxL ret hh ∈ tkWL) : GoodIn tkWA (va_wsS own idx y (Cond.codeWith y cc maxL ret hh :: tkWH)) := by
  intro w hw
  have hm : w ∈ tkWA := by
    unfold va_wsS at hw
    rcases List.mem_append.mp hw with h | h
    · simp only [List.mem_cons, List.not_mem_nil, or_false] at h
      rcases h with rfl | rfl | rfl
      · exact tkWA_l _ h1
      · exact tkWA_l _ h2
      · exact tkWA_l _ h4
    · rcases List.mem_cons.mp h with rfl | h
      · exact tkWA_l _ h5
      · exact tkWA_h _ h
  exact ⟨hm, good_of_word (tkWA_good w hm)⟩
theorem tk_g0A {W : List Cond} (hs : ∀ w ∈ W, w ∈ tkWA) {y : MethodName} {cc : ByteArray} {maxL : Nat} {ret : Option FieldType} (h5 : Cond.code y cc maxL ret ∈ W) : GoodIn tkWA (Cond.code y cc maxL ret :: W) := by
  intro w hw
  have hm : w ∈ tkWA := by
    rcases List.mem_cons.mp hw with rfl | h
    · exact hs _ h5
    · exact hs _ h
  exact ⟨hm, good_of_word (tkWA_good w hm)⟩
theorem tk_P_swap {D : va_G} {cl : List vw_C} {wa wb wc : va_W} {H : Heap} (h : va_P D cl (wa ++ (wb ++ wc)) H) : va_P D cl (wb ++ (wa ++ wc)) H :=
  (tk_P_l (tk_P_r h)).app ((tk_P_l h).app (tk_P_r (tk_P_r h)))
theorem tk_D_swap {A : Nat → Prop} {wa wb wc : va_W} (h : va_D A (wa ++ (wb ++ wc))) : va_D A (wb ++ (wa ++ wc)) := by
  have hb := tk_D_l (tk_D_r h)
  have hc := tk_D_r (tk_D_r h)
  have xab : ∀ (i j : Nat) (p q : Nat × va_E), wa[i]? = some p → wb[j]? = some q → p.1 ≠ q.1 := fun i j p q hi hj => tk_D_x h i j p q hi (by rw [List.getElem?_append_left (List.getElem?_eq_some_iff.mp hj).1]; exact hj)
  have xac : ∀ (i j : Nat) (p q : Nat × va_E), wa[i]? = some p → wc[j]? = some q → p.1 ≠ q.1 := fun i j p q hi hj => tk_D_x h i (wb.length + j) p q hi (by rw [List.getElem?_append_right (by omega), Nat.add_sub_cancel_left]; exact hj)
  have xbc := fun i j p q hi hj => tk_D_x (tk_D_r h) i j p q hi hj
  refine hb.app ((tk_D_l h).app hc xac) (fun i j p q hi hj => ?_)
  by_cases hl : j < wa.length
  · rw [List.getElem?_append_left hl] at hj
    exact fun e => xab j i q p hj hi e.symm
  · rw [List.getElem?_append_right (by omega)] at hj
    exact xbc i _ p q hi hj
theorem tk_psi0 (ad : Nat → Nat) (cA : ClassId) : WT ad cA tkG0T = WT ad cA (tkPsi tkG0M) := rfl
theorem tk_inv0 : tkInv tkG0M := by
  have hc : ∀ i, i < 2 → tkInvC tkG0M i := fun i hi => by
    rcases (by omega : i = 0 ∨ i = 1) with rfl | rfl <;> exact ⟨tkb_l7, Or.inl rfl, Or.inl rfl⟩
  have hn : ∀ i, i < 3 → tkInvN tkG0M i := fun i hi => by
    rcases (by omega : i = 0 ∨ i = 1 ∨ i = 2) with rfl | rfl | rfl <;> exact ⟨⟨Or.inl rfl, Or.inl rfl⟩, Or.inl rfl, Or.inl rfl, fun _ => rfl, fun q => absurd rfl q, fun _ => ⟨rfl, rfl⟩, ⟨0, by decide, (by decide : (0 : Int32) = nI 0)⟩, ⟨0, by decide, (by decide : (0 : Int32) = nI 0)⟩, ⟨0, by decide, (by decide : (0 : Int32) = nI 0)⟩, Or.inl rfl, Or.inl rfl, (by decide : (0 : Int32) = if (-1 : Int32) = 0 then (if (0 : Int32) = 0 then 0 else 1) else 0)⟩
  exact ⟨⟨hc 0 (by omega), hc 1 (by omega)⟩, hn 0 (by omega), hn 1 (by omega), hn 2 (by omega)⟩
theorem tk_lim {L k : Nat} (hL : L ≤ 2048) (hk : k ≤ 4096) : (Int32.ofNat L - 4 < nI k) ↔ L < k + 4 := by
  have e : (Int32.ofNat L - 4).toInt = (L : Int) - 4 := by
    have h1 : (Int32.ofNat L).toInt = (L : Int) := nI_toInt (n := L) (by omega)
    have h4 : (4 : Int32).toInt = 4 := by decide
    rw [Int32.toInt_sub, h1, h4]
    exact Int.bmod_eq_of_le (by omega) (by omega)
  rw [tk_lt, e, nI_toInt (by omega)]
  omega
theorem tk_vi {L k : Nat} (hL : L ≤ 2048) (h : k < L) : vp_in (nI k) L := nI_in h (by omega)
theorem tk_vi1 {L k : Nat} (hL : L ≤ 2048) (h : k + 1 < L) : vp_in (nI k + 1) L := by
  have e : nI k + 1 = nI (k + 1) := nI_add k 1
  rw [e]; exact tk_vi hL h
theorem tk_vi2 {L k : Nat} (hL : L ≤ 2048) (h : k + 2 < L) : vp_in (nI k + 2) L := by
  have e : nI k + 2 = nI (k + 2) := nI_add k 2
  rw [e]; exact tk_vi hL h
theorem tk_vi3 {L k : Nat} (hL : L ≤ 2048) (h : k + 3 < L) : vp_in (nI k + 3) L := by
  have e : nI k + 3 = nI (k + 3) := nI_add k 3
  rw [e]; exact tk_vi hL h
theorem tk_i4 (k : Nat) : nI k + Int32.ofInt 4 = nI (k + 4) := nI_add k 4
theorem tk_sw (y : Int32) : (y &&& 15 = 0 ∨ y &&& 15 = 1 ∨ y &&& 15 = 2 ∨ y &&& 15 = 3 ∨ y &&& 15 = 4 ∨ y &&& 15 = 5 ∨ y &&& 15 = 6 ∨ y &&& 15 = 7 ∨ y &&& 15 = 8) ∨ ((y &&& 15).toInt < 0 ∨ 8 < (y &&& 15).toInt) := by
  by_cases h0 : (y &&& 15).toInt < 0
  · exact Or.inr (Or.inl h0)
  · by_cases h8 : 8 < (y &&& 15).toInt
    · exact Or.inr (Or.inr h8)
    · refine Or.inl ?_
      rcases (by omega : (y &&& 15).toInt = 0 ∨ (y &&& 15).toInt = 1 ∨ (y &&& 15).toInt = 2 ∨ (y &&& 15).toInt = 3 ∨ (y &&& 15).toInt = 4 ∨ (y &&& 15).toInt = 5 ∨ (y &&& 15).toInt = 6 ∨ (y &&& 15).toInt = 7 ∨ (y &&& 15).toInt = 8) with q | q | q | q | q | q | q | q | q <;> rw [tk_eqI q] <;> decide
theorem tk_cmp0 (x : Int64) : lg_cmp x x = 0 := by
  unfold lg_cmp
  simp
