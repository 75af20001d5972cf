theorem d_La_law_0 : decode code 0 = .ok (.new 8, 3) := by decide +kernel
theorem d_La_law_3 : decode code 3 = .ok (.dup, 1) := by decide +kernel
theorem d_La_law_4 : decode code 4 = .ok (.invokespecial 87, 3) := by decide +kernel
theorem d_La_law_7 : decode code 7 = .ok (.astore_n 1, 1) := by decide +kernel
theorem d_La_law_8 : decode code 8 = .ok (.new 88, 3) := by decide +kernel
theorem d_La_law_11 : decode code 11 = .ok (.dup, 1) := by decide +kernel
theorem d_La_law_12 : decode code 12 = .ok (.invokespecial 90, 3) := by decide +kernel
theorem d_La_law_15 : decode code 15 = .ok (.astore_n 2, 1) := by decide +kernel
theorem d_La_law_16 : decode code 16 = .ok (.iconst 1, 1) := by decide +kernel
theorem d_La_law_17 : decode code 17 = .ok (.newarray .long, 2) := by decide +kernel
theorem d_La_law_19 : decode code 19 = .ok (.astore_n 3, 1) := by decide +kernel
theorem d_La_law_20 : decode code 20 = .ok (.iconst 0, 1) := by decide +kernel
theorem d_La_law_21 : decode code 21 = .ok (.istore 4, 2) := by decide +kernel
theorem d_La_law_23 : decode code 23 = .ok (.iload 4, 2) := by decide +kernel
theorem d_La_law_25 : decode code 25 = .ok (.aload_n 0, 1) := by decide +kernel
theorem d_La_law_26 : decode code 26 = .ok (.arraylength, 1) := by decide +kernel
theorem d_La_law_27 : decode code 27 = .ok (.bipush 7, 2) := by decide +kernel
theorem d_La_law_29 : decode code 29 = .ok (.isub, 1) := by decide +kernel
theorem d_La_law_30 : decode code 30 = .ok (.if_icmp .gt 1436, 3) := by decide +kernel
theorem d_La_law_33 : decode code 33 = .ok (.aload_n 0, 1) := by decide +kernel
theorem d_La_law_34 : decode code 34 = .ok (.iload 4, 2) := by decide +kernel
theorem d_La_law_36 : decode code 36 = .ok (.iaload, 1) := by decide +kernel
theorem d_La_law_37 : decode code 37 = .ok (.bipush 31, 2) := by decide +kernel
theorem d_La_law_39 : decode code 39 = .ok (.iand, 1) := by decide +kernel
theorem d_La_law_40 : decode code 40 = .ok (.tableswitch 1420 0 23 #[112, 164, 204, 307, 335, 399, 463, 539, 603, 667, 743, 807, 859, 899, 939, 1015, 1067, 1119, 1183, 1289, 1302, 1315, 1355, 1395], 112) := by decide +kernel
theorem d_La_law_152 : decode code 152 = .ok (.aload_n 1, 1) := by decide +kernel
theorem d_La_law_153 : decode code 153 = .ok (.aload_n 0, 1) := by decide +kernel
theorem d_La_law_154 : decode code 154 = .ok (.iload 4, 2) := by decide +kernel
theorem d_La_law_156 : decode code 156 = .ok (.iconst 1, 1) := by decide +kernel
theorem d_La_law_157 : decode code 157 = .ok (.iadd, 1) := by decide +kernel
theorem d_La_law_158 : decode code 158 = .ok (.iaload, 1) := by decide +kernel
theorem d_La_law_159 : decode code 159 = .ok (.aload_n 0, 1) := by decide +kernel
theorem d_La_law_160 : decode code 160 = .ok (.iload 4, 2) := by decide +kernel
theorem d_La_law_162 : decode code 162 = .ok (.iconst 2, 1) := by decide +kernel
theorem d_La_law_163 : decode code 163 = .ok (.iadd, 1) := by decide +kernel
theorem d_La_law_164 : decode code 164 = .ok (.iaload, 1) := by decide +kernel
theorem d_La_law_165 : decode code 165 = .ok (.aload_n 0, 1) := by decide +kernel
theorem d_La_law_166 : decode code 166 = .ok (.iload 4, 2) := by decide +kernel
theorem d_La_law_168 : decode code 168 = .ok (.iconst 3, 1) := by decide +kernel
theorem d_La_law_169 : decode code 169 = .ok (.iadd, 1) := by decide +kernel
theorem d_La_law_170 : decode code 170 = .ok (.iaload, 1) := by decide +kernel
theorem d_La_law_171 : decode code 171 = .ok (.aload_n 3, 1) := by decide +kernel
theorem d_La_law_172 : decode code 172 = .ok (.invokestatic 91, 3) := by decide +kernel
theorem d_La_law_175 : decode code 175 = .ok (.istore 5, 2) := by decide +kernel
theorem d_La_law_177 : decode code 177 = .ok (.aload_n 2, 1) := by decide +kernel
theorem d_La_law_178 : decode code 178 = .ok (.aload_n 0, 1) := by decide +kernel
theorem d_La_law_179 : decode code 179 = .ok (.iload 4, 2) := by decide +kernel
theorem d_La_law_181 : decode code 181 = .ok (.iconst 1, 1) := by decide +kernel
theorem d_La_law_182 : decode code 182 = .ok (.iadd, 1) := by decide +kernel
theorem d_La_law_183 : decode code 183 = .ok (.iaload, 1) := by decide +kernel
theorem d_La_law_184 : decode code 184 = .ok (.aload_n 0, 1) := by decide +kernel
theorem d_La_law_185 : decode code 185 = .ok (.iload 4, 2) := by decide +kernel
theorem d_La_law_187 : decode code 187 = .ok (.iconst 2, 1) := by decide +kernel
theorem d_La_law_188 : decode code 188 = .ok (.iadd, 1) := by decide +kernel
theorem d_La_law_189 : decode code 189 = .ok (.iaload, 1) := by decide +kernel
theorem d_La_law_190 : decode code 190 = .ok (.aload_n 0, 1) := by decide +kernel
theorem d_La_law_191 : decode code 191 = .ok (.iload 4, 2) := by decide +kernel
theorem d_La_law_193 : decode code 193 = .ok (.iconst 3, 1) := by decide +kernel
theorem d_La_law_194 : decode code 194 = .ok (.iadd, 1) := by decide +kernel
theorem d_La_law_195 : decode code 195 = .ok (.iaload, 1) := by decide +kernel
theorem d_La_law_196 : decode code 196 = .ok (.invokevirtual 96, 3) := by decide +kernel
theorem d_La_law_199 : decode code 199 = .ok (.istore 6, 2) := by decide +kernel
theorem d_La_law_201 : decode code 201 = .ok (.goto 1259, 3) := by decide +kernel
theorem d_La_law_204 : decode code 204 = .ok (.aload_n 1, 1) := by decide +kernel
theorem d_La_law_205 : decode code 205 = .ok (.aload_n 0, 1) := by decide +kernel
theorem d_La_law_206 : decode code 206 = .ok (.iload 4, 2) := by decide +kernel
theorem d_La_law_208 : decode code 208 = .ok (.iconst 1, 1) := by decide +kernel
theorem d_La_law_209 : decode code 209 = .ok (.iadd, 1) := by decide +kernel
theorem d_La_law_210 : decode code 210 = .ok (.iaload, 1) := by decide +kernel
theorem d_La_law_211 : decode code 211 = .ok (.aload_n 0, 1) := by decide +kernel
theorem d_La_law_212 : decode code 212 = .ok (.iload 4, 2) := by decide +kernel
theorem d_La_law_214 : decode code 214 = .ok (.iconst 2, 1) := by decide +kernel
theorem d_La_law_215 : decode code 215 = .ok (.iadd, 1) := by decide +kernel
theorem d_La_law_216 : decode code 216 = .ok (.iaload, 1) := by decide +kernel
theorem d_La_law_217 : decode code 217 = .ok (.aload_n 3, 1) := by decide +kernel
theorem d_La_law_218 : decode code 218 = .ok (.invokestatic 97, 3) := by decide +kernel
theorem d_La_law_221 : decode code 221 = .ok (.istore 5, 2) := by decide +kernel
theorem d_La_law_223 : decode code 223 = .ok (.aload_n 2, 1) := by decide +kernel
theorem d_La_law_224 : decode code 224 = .ok (.aload_n 0, 1) := by decide +kernel
theorem d_La_law_225 : decode code 225 = .ok (.iload 4, 2) := by decide +kernel
theorem d_La_law_227 : decode code 227 = .ok (.iconst 1, 1) := by decide +kernel
theorem d_La_law_228 : decode code 228 = .ok (.iadd, 1) := by decide +kernel
theorem d_La_law_229 : decode code 229 = .ok (.iaload, 1) := by decide +kernel
theorem d_La_law_230 : decode code 230 = .ok (.aload_n 0, 1) := by decide +kernel
theorem d_La_law_231 : decode code 231 = .ok (.iload 4, 2) := by decide +kernel
theorem d_La_law_233 : decode code 233 = .ok (.iconst 2, 1) := by decide +kernel
theorem d_La_law_234 : decode code 234 = .ok (.iadd, 1) := by decide +kernel
theorem d_La_law_235 : decode code 235 = .ok (.iaload, 1) := by decide +kernel
theorem d_La_law_236 : decode code 236 = .ok (.invokevirtual 100, 3) := by decide +kernel
theorem d_La_law_239 : decode code 239 = .ok (.istore 6, 2) := by decide +kernel
theorem d_La_law_241 : decode code 241 = .ok (.goto 1219, 3) := by decide +kernel
theorem d_La_law_244 : decode code 244 = .ok (.aload_n 1, 1) := by decide +kernel
theorem d_La_law_245 : decode code 245 = .ok (.aload_n 0, 1) := by decide +kernel
theorem d_La_law_246 : decode code 246 = .ok (.iload 4, 2) := by decide +kernel
theorem d_La_law_248 : decode code 248 = .ok (.iconst 1, 1) := by decide +kernel
theorem d_La_law_249 : decode code 249 = .ok (.iadd, 1) := by decide +kernel
theorem d_La_law_250 : decode code 250 = .ok (.iaload, 1) := by decide +kernel
theorem d_La_law_251 : decode code 251 = .ok (.aload_n 0, 1) := by decide +kernel
theorem d_La_law_252 : decode code 252 = .ok (.iload 4, 2) := by decide +kernel
theorem d_La_law_254 : decode code 254 = .ok (.iconst 2, 1) := by decide +kernel
theorem d_La_law_255 : decode code 255 = .ok (.iadd, 1) := by decide +kernel
theorem d_La_law_256 : decode code 256 = .ok (.iaload, 1) := by decide +kernel
theorem d_La_law_257 : decode code 257 = .ok (.aload_n 0, 1) := by decide +kernel
theorem d_La_law_258 : decode code 258 = .ok (.iload 4, 2) := by decide +kernel
theorem d_La_law_260 : decode code 260 = .ok (.iconst 3, 1) := by decide +kernel
theorem d_La_law_261 : decode code 261 = .ok (.iadd, 1) := by decide +kernel
theorem d_La_law_262 : decode code 262 = .ok (.iaload, 1) := by decide +kernel
theorem d_La_law_263 : decode code 263 = .ok (.ifCond .eq 7, 3) := by decide +kernel
theorem d_La_law_266 : decode code 266 = .ok (.iconst 1, 1) := by decide +kernel
theorem d_La_law_267 : decode code 267 = .ok (.goto 4, 3) := by decide +kernel
theorem d_La_law_270 : decode code 270 = .ok (.iconst 0, 1) := by decide +kernel
theorem d_La_law_271 : decode code 271 = .ok (.aload_n 3, 1) := by decide +kernel
theorem d_La_law_272 : decode code 272 = .ok (.invokestatic 101, 3) := by decide +kernel
theorem d_La_law_275 : decode code 275 = .ok (.istore 5, 2) := by decide +kernel
theorem d_La_law_277 : decode code 277 = .ok (.aload_n 2, 1) := by decide +kernel
theorem d_La_law_278 : decode code 278 = .ok (.aload_n 0, 1) := by decide +kernel
theorem d_La_law_279 : decode code 279 = .ok (.iload 4, 2) := by decide +kernel
theorem d_La_law_281 : decode code 281 = .ok (.iconst 1, 1) := by decide +kernel
theorem d_La_law_282 : decode code 282 = .ok (.iadd, 1) := by decide +kernel
theorem d_La_law_283 : decode code 283 = .ok (.iaload, 1) := by decide +kernel
theorem d_La_law_284 : decode code 284 = .ok (.aload_n 0, 1) := by decide +kernel
theorem d_La_law_285 : decode code 285 = .ok (.iload 4, 2) := by decide +kernel
theorem d_La_law_287 : decode code 287 = .ok (.iconst 2, 1) := by decide +kernel
theorem d_La_law_288 : decode code 288 = .ok (.iadd, 1) := by decide +kernel
theorem d_La_law_289 : decode code 289 = .ok (.iaload, 1) := by decide +kernel
theorem d_La_law_290 : decode code 290 = .ok (.aload_n 0, 1) := by decide +kernel
theorem d_La_law_291 : decode code 291 = .ok (.iload 4, 2) := by decide +kernel
theorem d_La_law_293 : decode code 293 = .ok (.iconst 3, 1) := by decide +kernel
theorem d_La_law_294 : decode code 294 = .ok (.iadd, 1) := by decide +kernel
theorem d_La_law_295 : decode code 295 = .ok (.iaload, 1) := by decide +kernel
theorem d_La_law_296 : decode code 296 = .ok (.ifCond .eq 7, 3) := by decide +kernel
theorem d_La_law_299 : decode code 299 = .ok (.iconst 1, 1) := by decide +kernel
theorem d_La_law_300 : decode code 300 = .ok (.goto 4, 3) := by decide +kernel
theorem d_La_law_303 : decode code 303 = .ok (.iconst 0, 1) := by decide +kernel
theorem d_La_law_304 : decode code 304 = .ok (.invokevirtual 104, 3) := by decide +kernel
theorem d_La_law_307 : decode code 307 = .ok (.istore 6, 2) := by decide +kernel
theorem d_La_law_309 : decode code 309 = .ok (.aload_n 2, 1) := by decide +kernel
theorem d_La_law_310 : decode code 310 = .ok (.invokevirtual 105, 3) := by decide +kernel
theorem d_La_law_313 : decode code 313 = .ok (.iload 5, 2) := by decide +kernel
theorem d_La_law_315 : decode code 315 = .ok (.if_icmp .eq 5, 3) := by decide +kernel
theorem d_La_law_318 : decode code 318 = .ok (.iconst 0, 1) := by decide +kernel
theorem d_La_law_319 : decode code 319 = .ok (.ireturn, 1) := by decide +kernel
theorem d_La_law_320 : decode code 320 = .ok (.iload 5, 2) := by decide +kernel
theorem d_La_law_322 : decode code 322 = .ok (.ifCond .ne 22, 3) := by decide +kernel
theorem d_La_law_325 : decode code 325 = .ok (.aload_n 3, 1) := by decide +kernel
theorem d_La_law_326 : decode code 326 = .ok (.iconst 0, 1) := by decide +kernel
theorem d_La_law_327 : decode code 327 = .ok (.laload, 1) := by decide +kernel
theorem d_La_law_328 : decode code 328 = .ok (.iload 6, 2) := by decide +kernel
theorem d_La_law_330 : decode code 330 = .ok (.ifCond .eq 7, 3) := by decide +kernel
theorem d_La_law_333 : decode code 333 = .ok (.lconst 1, 1) := by decide +kernel
theorem d_La_law_334 : decode code 334 = .ok (.goto 4, 3) := by decide +kernel
theorem d_La_law_337 : decode code 337 = .ok (.lconst 0, 1) := by decide +kernel
theorem d_La_law_338 : decode code 338 = .ok (.lcmp, 1) := by decide +kernel
theorem d_La_law_339 : decode code 339 = .ok (.ifCond .eq 5, 3) := by decide +kernel
theorem d_La_law_342 : decode code 342 = .ok (.iconst 0, 1) := by decide +kernel
theorem d_La_law_343 : decode code 343 = .ok (.ireturn, 1) := by decide +kernel
theorem d_La_law_344 : decode code 344 = .ok (.goto 1116, 3) := by decide +kernel
theorem d_La_law_347 : decode code 347 = .ok (.aload_n 1, 1) := by decide +kernel
theorem d_La_law_348 : decode code 348 = .ok (.aload_n 0, 1) := by decide +kernel
theorem d_La_law_349 : decode code 349 = .ok (.iload 4, 2) := by decide +kernel
theorem d_La_law_351 : decode code 351 = .ok (.iconst 1, 1) := by decide +kernel
theorem d_La_law_352 : decode code 352 = .ok (.iadd, 1) := by decide +kernel
theorem d_La_law_353 : decode code 353 = .ok (.iaload, 1) := by decide +kernel
theorem d_La_law_354 : decode code 354 = .ok (.aload_n 3, 1) := by decide +kernel
theorem d_La_law_355 : decode code 355 = .ok (.invokestatic 109, 3) := by decide +kernel
theorem d_La_law_358 : decode code 358 = .ok (.istore 5, 2) := by decide +kernel
theorem d_La_law_360 : decode code 360 = .ok (.aload_n 2, 1) := by decide +kernel
theorem d_La_law_361 : decode code 361 = .ok (.aload_n 0, 1) := by decide +kernel
theorem d_La_law_362 : decode code 362 = .ok (.iload 4, 2) := by decide +kernel
theorem d_La_law_364 : decode code 364 = .ok (.iconst 1, 1) := by decide +kernel
theorem d_La_law_365 : decode code 365 = .ok (.iadd, 1) := by decide +kernel
theorem d_La_law_366 : decode code 366 = .ok (.iaload, 1) := by decide +kernel
theorem d_La_law_367 : decode code 367 = .ok (.invokevirtual 112, 3) := by decide +kernel
theorem d_La_law_370 : decode code 370 = .ok (.istore 6, 2) := by decide +kernel
theorem d_La_law_372 : decode code 372 = .ok (.goto 1088, 3) := by decide +kernel
theorem d_La_law_375 : decode code 375 = .ok (.aload_n 1, 1) := by decide +kernel
theorem d_La_law_376 : decode code 376 = .ok (.aload_n 0, 1) := by decide +kernel
theorem d_La_law_377 : decode code 377 = .ok (.iload 4, 2) := by decide +kernel
theorem d_La_law_379 : decode code 379 = .ok (.iconst 1, 1) := by decide +kernel
theorem d_La_law_380 : decode code 380 = .ok (.iadd, 1) := by decide +kernel
theorem d_La_law_381 : decode code 381 = .ok (.iaload, 1) := by decide +kernel
theorem d_La_law_382 : decode code 382 = .ok (.aload_n 0, 1) := by decide +kernel
theorem d_La_law_383 : decode code 383 = .ok (.iload 4, 2) := by decide +kernel
theorem d_La_law_385 : decode code 385 = .ok (.iconst 2, 1) := by decide +kernel
theorem d_La_law_386 : decode code 386 = .ok (.iadd, 1) := by decide +kernel
theorem d_La_law_387 : decode code 387 = .ok (.iaload, 1) := by decide +kernel
theorem d_La_law_388 : decode code 388 = .ok (.aload_n 0, 1) := by decide +kernel
theorem d_La_law_389 : decode code 389 = .ok (.iload 4, 2) := by decide +kernel
theorem d_La_law_391 : decode code 391 = .ok (.iconst 3, 1) := by decide +kernel
theorem d_La_law_392 : decode code 392 = .ok (.iadd, 1) := by decide +kernel
theorem d_La_law_393 : decode code 393 = .ok (.iaload, 1) := by decide +kernel
theorem d_La_law_394 : decode code 394 = .ok (.aload_n 0, 1) := by decide +kernel
theorem d_La_law_395 : decode code 395 = .ok (.iload 4, 2) := by decide +kernel
theorem d_La_law_397 : decode code 397 = .ok (.iconst 4, 1) := by decide +kernel
theorem d_La_law_398 : decode code 398 = .ok (.iadd, 1) := by decide +kernel
theorem d_La_law_399 : decode code 399 = .ok (.iaload, 1) := by decide +kernel
theorem d_La_law_400 : decode code 400 = .ok (.aload_n 3, 1) := by decide +kernel
theorem d_La_law_401 : decode code 401 = .ok (.invokestatic 113, 3) := by decide +kernel
theorem d_La_law_404 : decode code 404 = .ok (.istore 5, 2) := by decide +kernel
theorem d_La_law_406 : decode code 406 = .ok (.aload_n 2, 1) := by decide +kernel
theorem d_La_law_407 : decode code 407 = .ok (.aload_n 0, 1) := by decide +kernel
theorem d_La_law_408 : decode code 408 = .ok (.iload 4, 2) := by decide +kernel
theorem d_La_law_410 : decode code 410 = .ok (.iconst 1, 1) := by decide +kernel
theorem d_La_law_411 : decode code 411 = .ok (.iadd, 1) := by decide +kernel
theorem d_La_law_412 : decode code 412 = .ok (.iaload, 1) := by decide +kernel
theorem d_La_law_413 : decode code 413 = .ok (.aload_n 0, 1) := by decide +kernel
theorem d_La_law_414 : decode code 414 = .ok (.iload 4, 2) := by decide +kernel
theorem d_La_law_416 : decode code 416 = .ok (.iconst 2, 1) := by decide +kernel
theorem d_La_law_417 : decode code 417 = .ok (.iadd, 1) := by decide +kernel
theorem d_La_law_418 : decode code 418 = .ok (.iaload, 1) := by decide +kernel
theorem d_La_law_419 : decode code 419 = .ok (.aload_n 0, 1) := by decide +kernel
theorem d_La_law_420 : decode code 420 = .ok (.iload 4, 2) := by decide +kernel
theorem d_La_law_422 : decode code 422 = .ok (.iconst 3, 1) := by decide +kernel
theorem d_La_law_423 : decode code 423 = .ok (.iadd, 1) := by decide +kernel
theorem d_La_law_424 : decode code 424 = .ok (.iaload, 1) := by decide +kernel
theorem d_La_law_425 : decode code 425 = .ok (.aload_n 0, 1) := by decide +kernel
theorem d_La_law_426 : decode code 426 = .ok (.iload 4, 2) := by decide +kernel
theorem d_La_law_428 : decode code 428 = .ok (.iconst 4, 1) := by decide +kernel
theorem d_La_law_429 : decode code 429 = .ok (.iadd, 1) := by decide +kernel
theorem d_La_law_430 : decode code 430 = .ok (.iaload, 1) := by decide +kernel
theorem d_La_law_431 : decode code 431 = .ok (.invokevirtual 116, 3) := by decide +kernel
theorem d_La_law_434 : decode code 434 = .ok (.istore 6, 2) := by decide +kernel
theorem d_La_law_436 : decode code 436 = .ok (.goto 1024, 3) := by decide +kernel
theorem d_La_law_439 : decode code 439 = .ok (.aload_n 1, 1) := by decide +kernel
theorem d_La_law_440 : decode code 440 = .ok (.aload_n 0, 1) := by decide +kernel
theorem d_La_law_441 : decode code 441 = .ok (.iload 4, 2) := by decide +kernel
theorem d_La_law_443 : decode code 443 = .ok (.iconst 1, 1) := by decide +kernel
theorem d_La_law_444 : decode code 444 = .ok (.iadd, 1) := by decide +kernel
theorem d_La_law_445 : decode code 445 = .ok (.iaload, 1) := by decide +kernel
theorem d_La_law_446 : decode code 446 = .ok (.aload_n 0, 1) := by decide +kernel
theorem d_La_law_447 : decode code 447 = .ok (.iload 4, 2) := by decide +kernel
theorem d_La_law_449 : decode code 449 = .ok (.iconst 2, 1) := by decide +kernel
theorem d_La_law_450 : decode code 450 = .ok (.iadd, 1) := by decide +kernel
theorem d_La_law_451 : decode code 451 = .ok (.iaload, 1) := by decide +kernel
theorem d_La_law_452 : decode code 452 = .ok (.aload_n 0, 1) := by decide +kernel
theorem d_La_law_453 : decode code 453 = .ok (.iload 4, 2) := by decide +kernel
theorem d_La_law_455 : decode code 455 = .ok (.iconst 3, 1) := by decide +kernel
theorem d_La_law_456 : decode code 456 = .ok (.iadd, 1) := by decide +kernel
theorem d_La_law_457 : decode code 457 = .ok (.iaload, 1) := by decide +kernel
theorem d_La_law_458 : decode code 458 = .ok (.aload_n 0, 1) := by decide +kernel
theorem d_La_law_459 : decode code 459 = .ok (.iload 4, 2) := by decide +kernel
theorem d_La_law_461 : decode code 461 = .ok (.iconst 4, 1) := by decide +kernel
theorem d_La_law_462 : decode code 462 = .ok (.iadd, 1) := by decide +kernel
theorem d_La_law_463 : decode code 463 = .ok (.iaload, 1) := by decide +kernel
theorem d_La_law_464 : decode code 464 = .ok (.aload_n 3, 1) := by decide +kernel
theorem d_La_law_465 : decode code 465 = .ok (.invokestatic 117, 3) := by decide +kernel
theorem d_La_law_468 : decode code 468 = .ok (.istore 5, 2) := by decide +kernel
theorem d_La_law_470 : decode code 470 = .ok (.aload_n 2, 1) := by decide +kernel
theorem d_La_law_471 : decode code 471 = .ok (.aload_n 0, 1) := by decide +kernel
theorem d_La_law_472 : decode code 472 = .ok (.iload 4, 2) := by decide +kernel
theorem d_La_law_474 : decode code 474 = .ok (.iconst 1, 1) := by decide +kernel
theorem d_La_law_475 : decode code 475 = .ok (.iadd, 1) := by decide +kernel
theorem d_La_law_476 : decode code 476 = .ok (.iaload, 1) := by decide +kernel
theorem d_La_law_477 : decode code 477 = .ok (.aload_n 0, 1) := by decide +kernel
theorem d_La_law_478 : decode code 478 = .ok (.iload 4, 2) := by decide +kernel
theorem d_La_law_480 : decode code 480 = .ok (.iconst 2, 1) := by decide +kernel
theorem d_La_law_481 : decode code 481 = .ok (.iadd, 1) := by decide +kernel
theorem d_La_law_482 : decode code 482 = .ok (.iaload, 1) := by decide +kernel
theorem d_La_law_483 : decode code 483 = .ok (.aload_n 0, 1) := by decide +kernel
theorem d_La_law_484 : decode code 484 = .ok (.iload 4, 2) := by decide +kernel
theorem d_La_law_486 : decode code 486 = .ok (.iconst 3, 1) := by decide +kernel
theorem d_La_law_487 : decode code 487 = .ok (.iadd, 1) := by decide +kernel
theorem d_La_law_488 : decode code 488 = .ok (.iaload, 1) := by decide +kernel
theorem d_La_law_489 : decode code 489 = .ok (.aload_n 0, 1) := by decide +kernel
theorem d_La_law_490 : decode code 490 = .ok (.iload 4, 2) := by decide +kernel
theorem d_La_law_492 : decode code 492 = .ok (.iconst 4, 1) := by decide +kernel
theorem d_La_law_493 : decode code 493 = .ok (.iadd, 1) := by decide +kernel
theorem d_La_law_494 : decode code 494 = .ok (.iaload, 1) := by decide +kernel
theorem d_La_law_495 : decode code 495 = .ok (.invokevirtual 119, 3) := by decide +kernel
theorem d_La_law_498 : decode code 498 = .ok (.istore 6, 2) := by decide +kernel
theorem d_La_law_500 : decode code 500 = .ok (.goto 960, 3) := by decide +kernel
theorem d_La_law_503 : decode code 503 = .ok (.aload_n 1, 1) := by decide +kernel
theorem d_La_law_504 : decode code 504 = .ok (.aload_n 0, 1) := by decide +kernel
theorem d_La_law_505 : decode code 505 = .ok (.iload 4, 2) := by decide +kernel
theorem d_La_law_507 : decode code 507 = .ok (.iconst 1, 1) := by decide +kernel
theorem d_La_law_508 : decode code 508 = .ok (.iadd, 1) := by decide +kernel
theorem d_La_law_509 : decode code 509 = .ok (.iaload, 1) := by decide +kernel
theorem d_La_law_510 : decode code 510 = .ok (.aload_n 0, 1) := by decide +kernel
theorem d_La_law_511 : decode code 511 = .ok (.iload 4, 2) := by decide +kernel
theorem d_La_law_513 : decode code 513 = .ok (.iconst 2, 1) := by decide +kernel
theorem d_La_law_514 : decode code 514 = .ok (.iadd, 1) := by decide +kernel
theorem d_La_law_515 : decode code 515 = .ok (.iaload, 1) := by decide +kernel
theorem d_La_law_516 : decode code 516 = .ok (.aload_n 0, 1) := by decide +kernel
theorem d_La_law_517 : decode code 517 = .ok (.iload 4, 2) := by decide +kernel
theorem d_La_law_519 : decode code 519 = .ok (.iconst 3, 1) := by decide +kernel
theorem d_La_law_520 : decode code 520 = .ok (.iadd, 1) := by decide +kernel
theorem d_La_law_521 : decode code 521 = .ok (.iaload, 1) := by decide +kernel
theorem d_La_law_522 : decode code 522 = .ok (.aload_n 0, 1) := by decide +kernel
theorem d_La_law_523 : decode code 523 = .ok (.iload 4, 2) := by decide +kernel
theorem d_La_law_525 : decode code 525 = .ok (.iconst 4, 1) := by decide +kernel
theorem d_La_law_526 : decode code 526 = .ok (.iadd, 1) := by decide +kernel
theorem d_La_law_527 : decode code 527 = .ok (.iaload, 1) := by decide +kernel
theorem d_La_law_528 : decode code 528 = .ok (.aload_n 0, 1) := by decide +kernel
theorem d_La_law_529 : decode code 529 = .ok (.iload 4, 2) := by decide +kernel
theorem d_La_law_531 : decode code 531 = .ok (.iconst 5, 1) := by decide +kernel
theorem d_La_law_532 : decode code 532 = .ok (.iadd, 1) := by decide +kernel
theorem d_La_law_533 : decode code 533 = .ok (.iaload, 1) := by decide +kernel
theorem d_La_law_534 : decode code 534 = .ok (.aload_n 3, 1) := by decide +kernel
theorem d_La_law_535 : decode code 535 = .ok (.invokestatic 120, 3) := by decide +kernel
theorem d_La_law_538 : decode code 538 = .ok (.istore 5, 2) := by decide +kernel
theorem d_La_law_540 : decode code 540 = .ok (.aload_n 2, 1) := by decide +kernel
theorem d_La_law_541 : decode code 541 = .ok (.aload_n 0, 1) := by decide +kernel
theorem d_La_law_542 : decode code 542 = .ok (.iload 4, 2) := by decide +kernel
theorem d_La_law_544 : decode code 544 = .ok (.iconst 1, 1) := by decide +kernel
theorem d_La_law_545 : decode code 545 = .ok (.iadd, 1) := by decide +kernel
theorem d_La_law_546 : decode code 546 = .ok (.iaload, 1) := by decide +kernel
theorem d_La_law_547 : decode code 547 = .ok (.aload_n 0, 1) := by decide +kernel
theorem d_La_law_548 : decode code 548 = .ok (.iload 4, 2) := by decide +kernel
theorem d_La_law_550 : decode code 550 = .ok (.iconst 2, 1) := by decide +kernel
theorem d_La_law_551 : decode code 551 = .ok (.iadd, 1) := by decide +kernel
theorem d_La_law_552 : decode code 552 = .ok (.iaload, 1) := by decide +kernel
theorem d_La_law_553 : decode code 553 = .ok (.aload_n 0, 1) := by decide +kernel
theorem d_La_law_554 : decode code 554 = .ok (.iload 4, 2) := by decide +kernel
theorem d_La_law_556 : decode code 556 = .ok (.iconst 3, 1) := by decide +kernel
theorem d_La_law_557 : decode code 557 = .ok (.iadd, 1) := by decide +kernel
theorem d_La_law_558 : decode code 558 = .ok (.iaload, 1) := by decide +kernel
theorem d_La_law_559 : decode code 559 = .ok (.aload_n 0, 1) := by decide +kernel
theorem d_La_law_560 : decode code 560 = .ok (.iload 4, 2) := by decide +kernel
theorem d_La_law_562 : decode code 562 = .ok (.iconst 4, 1) := by decide +kernel
theorem d_La_law_563 : decode code 563 = .ok (.iadd, 1) := by decide +kernel
theorem d_La_law_564 : decode code 564 = .ok (.iaload, 1) := by decide +kernel
theorem d_La_law_565 : decode code 565 = .ok (.aload_n 0, 1) := by decide +kernel
theorem d_La_law_566 : decode code 566 = .ok (.iload 4, 2) := by decide +kernel
theorem d_La_law_568 : decode code 568 = .ok (.iconst 5, 1) := by decide +kernel
theorem d_La_law_569 : decode code 569 = .ok (.iadd, 1) := by decide +kernel
theorem d_La_law_570 : decode code 570 = .ok (.iaload, 1) := by decide +kernel
theorem d_La_law_571 : decode code 571 = .ok (.invokevirtual 123, 3) := by decide +kernel
theorem d_La_law_574 : decode code 574 = .ok (.istore 6, 2) := by decide +kernel
theorem d_La_law_576 : decode code 576 = .ok (.goto 884, 3) := by decide +kernel
theorem d_La_law_579 : decode code 579 = .ok (.aload_n 1, 1) := by decide +kernel
theorem d_La_law_580 : decode code 580 = .ok (.aload_n 0, 1) := by decide +kernel
theorem d_La_law_581 : decode code 581 = .ok (.iload 4, 2) := by decide +kernel
theorem d_La_law_583 : decode code 583 = .ok (.iconst 1, 1) := by decide +kernel
theorem d_La_law_584 : decode code 584 = .ok (.iadd, 1) := by decide +kernel
theorem d_La_law_585 : decode code 585 = .ok (.iaload, 1) := by decide +kernel
theorem d_La_law_586 : decode code 586 = .ok (.aload_n 0, 1) := by decide +kernel
theorem d_La_law_587 : decode code 587 = .ok (.iload 4, 2) := by decide +kernel
theorem d_La_law_589 : decode code 589 = .ok (.iconst 2, 1) := by decide +kernel
theorem d_La_law_590 : decode code 590 = .ok (.iadd, 1) := by decide +kernel
theorem d_La_law_591 : decode code 591 = .ok (.iaload, 1) := by decide +kernel
theorem d_La_law_592 : decode code 592 = .ok (.aload_n 0, 1) := by decide +kernel
theorem d_La_law_593 : decode code 593 = .ok (.iload 4, 2) := by decide +kernel
theorem d_La_law_595 : decode code 595 = .ok (.iconst 3, 1) := by decide +kernel
theorem d_La_law_596 : decode code 596 = .ok (.iadd, 1) := by decide +kernel
theorem d_La_law_597 : decode code 597 = .ok (.iaload, 1) := by decide +kernel
theorem d_La_law_598 : decode code 598 = .ok (.aload_n 0, 1) := by decide +kernel
theorem d_La_law_599 : decode code 599 = .ok (.iload 4, 2) := by decide +kernel
theorem d_La_law_601 : decode code 601 = .ok (.iconst 4, 1) := by decide +kernel
theorem d_La_law_602 : decode code 602 = .ok (.iadd, 1) := by decide +kernel
theorem d_La_law_603 : decode code 603 = .ok (.iaload, 1) := by decide +kernel
theorem d_La_law_604 : decode code 604 = .ok (.aload_n 3, 1) := by decide +kernel
theorem d_La_law_605 : decode code 605 = .ok (.invokestatic 124, 3) := by decide +kernel
theorem d_La_law_608 : decode code 608 = .ok (.istore 5, 2) := by decide +kernel
theorem d_La_law_610 : decode code 610 = .ok (.aload_n 2, 1) := by decide +kernel
theorem d_La_law_611 : decode code 611 = .ok (.aload_n 0, 1) := by decide +kernel
theorem d_La_law_612 : decode code 612 = .ok (.iload 4, 2) := by decide +kernel
theorem d_La_law_614 : decode code 614 = .ok (.iconst 1, 1) := by decide +kernel
theorem d_La_law_615 : decode code 615 = .ok (.iadd, 1) := by decide +kernel
theorem d_La_law_616 : decode code 616 = .ok (.iaload, 1) := by decide +kernel
theorem d_La_law_617 : decode code 617 = .ok (.aload_n 0, 1) := by decide +kernel
theorem d_La_law_618 : decode code 618 = .ok (.iload 4, 2) := by decide +kernel
theorem d_La_law_620 : decode code 620 = .ok (.iconst 2, 1) := by decide +kernel
theorem d_La_law_621 : decode code 621 = .ok (.iadd, 1) := by decide +kernel
theorem d_La_law_622 : decode code 622 = .ok (.iaload, 1) := by decide +kernel
theorem d_La_law_623 : decode code 623 = .ok (.aload_n 0, 1) := by decide +kernel
theorem d_La_law_624 : decode code 624 = .ok (.iload 4, 2) := by decide +kernel
theorem d_La_law_626 : decode code 626 = .ok (.iconst 3, 1) := by decide +kernel
theorem d_La_law_627 : decode code 627 = .ok (.iadd, 1) := by decide +kernel
theorem d_La_law_628 : decode code 628 = .ok (.iaload, 1) := by decide +kernel
theorem d_La_law_629 : decode code 629 = .ok (.aload_n 0, 1) := by decide +kernel
theorem d_La_law_630 : decode code 630 = .ok (.iload 4, 2) := by decide +kernel
theorem d_La_law_632 : decode code 632 = .ok (.iconst 4, 1) := by decide +kernel
theorem d_La_law_633 : decode code 633 = .ok (.iadd, 1) := by decide +kernel
theorem d_La_law_634 : decode code 634 = .ok (.iaload, 1) := by decide +kernel
theorem d_La_law_635 : decode code 635 = .ok (.invokevirtual 126, 3) := by decide +kernel
theorem d_La_law_638 : decode code 638 = .ok (.istore 6, 2) := by decide +kernel
theorem d_La_law_640 : decode code 640 = .ok (.goto 820, 3) := by decide +kernel
theorem d_La_law_643 : decode code 643 = .ok (.aload_n 1, 1) := by decide +kernel
theorem d_La_law_644 : decode code 644 = .ok (.aload_n 0, 1) := by decide +kernel
theorem d_La_law_645 : decode code 645 = .ok (.iload 4, 2) := by decide +kernel
theorem d_La_law_647 : decode code 647 = .ok (.iconst 1, 1) := by decide +kernel
theorem d_La_law_648 : decode code 648 = .ok (.iadd, 1) := by decide +kernel
theorem d_La_law_649 : decode code 649 = .ok (.iaload, 1) := by decide +kernel
theorem d_La_law_650 : decode code 650 = .ok (.aload_n 0, 1) := by decide +kernel
theorem d_La_law_651 : decode code 651 = .ok (.iload 4, 2) := by decide +kernel
theorem d_La_law_653 : decode code 653 = .ok (.iconst 2, 1) := by decide +kernel
theorem d_La_law_654 : decode code 654 = .ok (.iadd, 1) := by decide +kernel
theorem d_La_law_655 : decode code 655 = .ok (.iaload, 1) := by decide +kernel
theorem d_La_law_656 : decode code 656 = .ok (.aload_n 0, 1) := by decide +kernel
theorem d_La_law_657 : decode code 657 = .ok (.iload 4, 2) := by decide +kernel
theorem d_La_law_659 : decode code 659 = .ok (.iconst 3, 1) := by decide +kernel
theorem d_La_law_660 : decode code 660 = .ok (.iadd, 1) := by decide +kernel
theorem d_La_law_661 : decode code 661 = .ok (.iaload, 1) := by decide +kernel
theorem d_La_law_662 : decode code 662 = .ok (.aload_n 0, 1) := by decide +kernel
theorem d_La_law_663 : decode code 663 = .ok (.iload 4, 2) := by decide +kernel
theorem d_La_law_665 : decode code 665 = .ok (.iconst 4, 1) := by decide +kernel
theorem d_La_law_666 : decode code 666 = .ok (.iadd, 1) := by decide +kernel
theorem d_La_law_667 : decode code 667 = .ok (.iaload, 1) := by decide +kernel
theorem d_La_law_668 : decode code 668 = .ok (.aload_n 3, 1) := by decide +kernel
theorem d_La_law_669 : decode code 669 = .ok (.invokestatic 127, 3) := by decide +kernel
theorem d_La_law_672 : decode code 672 = .ok (.istore 5, 2) := by decide +kernel
theorem d_La_law_674 : decode code 674 = .ok (.aload_n 2, 1) := by decide +kernel
theorem d_La_law_675 : decode code 675 = .ok (.aload_n 0, 1) := by decide +kernel
theorem d_La_law_676 : decode code 676 = .ok (.iload 4, 2) := by decide +kernel
theorem d_La_law_678 : decode code 678 = .ok (.iconst 1, 1) := by decide +kernel
theorem d_La_law_679 : decode code 679 = .ok (.iadd, 1) := by decide +kernel
theorem d_La_law_680 : decode code 680 = .ok (.iaload, 1) := by decide +kernel
theorem d_La_law_681 : decode code 681 = .ok (.aload_n 0, 1) := by decide +kernel
theorem d_La_law_682 : decode code 682 = .ok (.iload 4, 2) := by decide +kernel
theorem d_La_law_684 : decode code 684 = .ok (.iconst 2, 1) := by decide +kernel
theorem d_La_law_685 : decode code 685 = .ok (.iadd, 1) := by decide +kernel
theorem d_La_law_686 : decode code 686 = .ok (.iaload, 1) := by decide +kernel
theorem d_La_law_687 : decode code 687 = .ok (.aload_n 0, 1) := by decide +kernel
theorem d_La_law_688 : decode code 688 = .ok (.iload 4, 2) := by decide +kernel
theorem d_La_law_690 : decode code 690 = .ok (.iconst 3, 1) := by decide +kernel
theorem d_La_law_691 : decode code 691 = .ok (.iadd, 1) := by decide +kernel
theorem d_La_law_692 : decode code 692 = .ok (.iaload, 1) := by decide +kernel
theorem d_La_law_693 : decode code 693 = .ok (.aload_n 0, 1) := by decide +kernel
theorem d_La_law_694 : decode code 694 = .ok (.iload 4, 2) := by decide +kernel
theorem d_La_law_696 : decode code 696 = .ok (.iconst 4, 1) := by decide +kernel
theorem d_La_law_697 : decode code 697 = .ok (.iadd, 1) := by decide +kernel
theorem d_La_law_698 : decode code 698 = .ok (.iaload, 1) := by decide +kernel
theorem d_La_law_699 : decode code 699 = .ok (.invokevirtual 129, 3) := by decide +kernel
theorem d_La_law_702 : decode code 702 = .ok (.istore 6, 2) := by decide +kernel
theorem d_La_law_704 : decode code 704 = .ok (.goto 756, 3) := by decide +kernel
theorem d_La_law_707 : decode code 707 = .ok (.aload_n 1, 1) := by decide +kernel
theorem d_La_law_708 : decode code 708 = .ok (.aload_n 0, 1) := by decide +kernel
theorem d_La_law_709 : decode code 709 = .ok (.iload 4, 2) := by decide +kernel
theorem d_La_law_711 : decode code 711 = .ok (.iconst 1, 1) := by decide +kernel
theorem d_La_law_712 : decode code 712 = .ok (.iadd, 1) := by decide +kernel
theorem d_La_law_713 : decode code 713 = .ok (.iaload, 1) := by decide +kernel
theorem d_La_law_714 : decode code 714 = .ok (.aload_n 0, 1) := by decide +kernel
theorem d_La_law_715 : decode code 715 = .ok (.iload 4, 2) := by decide +kernel
theorem d_La_law_717 : decode code 717 = .ok (.iconst 2, 1) := by decide +kernel
theorem d_La_law_718 : decode code 718 = .ok (.iadd, 1) := by decide +kernel
theorem d_La_law_719 : decode code 719 = .ok (.iaload, 1) := by decide +kernel
theorem d_La_law_720 : decode code 720 = .ok (.aload_n 0, 1) := by decide +kernel
theorem d_La_law_721 : decode code 721 = .ok (.iload 4, 2) := by decide +kernel
theorem d_La_law_723 : decode code 723 = .ok (.iconst 3, 1) := by decide +kernel
theorem d_La_law_724 : decode code 724 = .ok (.iadd, 1) := by decide +kernel
theorem d_La_law_725 : decode code 725 = .ok (.iaload, 1) := by decide +kernel
theorem d_La_law_726 : decode code 726 = .ok (.aload_n 0, 1) := by decide +kernel
theorem d_La_law_727 : decode code 727 = .ok (.iload 4, 2) := by decide +kernel
theorem d_La_law_729 : decode code 729 = .ok (.iconst 4, 1) := by decide +kernel
theorem d_La_law_730 : decode code 730 = .ok (.iadd, 1) := by decide +kernel
theorem d_La_law_731 : decode code 731 = .ok (.iaload, 1) := by decide +kernel
theorem d_La_law_732 : decode code 732 = .ok (.aload_n 0, 1) := by decide +kernel
theorem d_La_law_733 : decode code 733 = .ok (.iload 4, 2) := by decide +kernel
theorem d_La_law_735 : decode code 735 = .ok (.iconst 5, 1) := by decide +kernel
theorem d_La_law_736 : decode code 736 = .ok (.iadd, 1) := by decide +kernel
theorem d_La_law_737 : decode code 737 = .ok (.iaload, 1) := by decide +kernel
theorem d_La_law_738 : decode code 738 = .ok (.aload_n 3, 1) := by decide +kernel
theorem d_La_law_739 : decode code 739 = .ok (.invokestatic 130, 3) := by decide +kernel
theorem d_La_law_742 : decode code 742 = .ok (.istore 5, 2) := by decide +kernel
theorem d_La_law_744 : decode code 744 = .ok (.aload_n 2, 1) := by decide +kernel
theorem d_La_law_745 : decode code 745 = .ok (.aload_n 0, 1) := by decide +kernel
theorem d_La_law_746 : decode code 746 = .ok (.iload 4, 2) := by decide +kernel
theorem d_La_law_748 : decode code 748 = .ok (.iconst 1, 1) := by decide +kernel
theorem d_La_law_749 : decode code 749 = .ok (.iadd, 1) := by decide +kernel
theorem d_La_law_750 : decode code 750 = .ok (.iaload, 1) := by decide +kernel
theorem d_La_law_751 : decode code 751 = .ok (.aload_n 0, 1) := by decide +kernel
theorem d_La_law_752 : decode code 752 = .ok (.iload 4, 2) := by decide +kernel
theorem d_La_law_754 : decode code 754 = .ok (.iconst 2, 1) := by decide +kernel
theorem d_La_law_755 : decode code 755 = .ok (.iadd, 1) := by decide +kernel
theorem d_La_law_756 : decode code 756 = .ok (.iaload, 1) := by decide +kernel
theorem d_La_law_757 : decode code 757 = .ok (.aload_n 0, 1) := by decide +kernel
theorem d_La_law_758 : decode code 758 = .ok (.iload 4, 2) := by decide +kernel
theorem d_La_law_760 : decode code 760 = .ok (.iconst 3, 1) := by decide +kernel
theorem d_La_law_761 : decode code 761 = .ok (.iadd, 1) := by decide +kernel
theorem d_La_law_762 : decode code 762 = .ok (.iaload, 1) := by decide +kernel
theorem d_La_law_763 : decode code 763 = .ok (.aload_n 0, 1) := by decide +kernel
theorem d_La_law_764 : decode code 764 = .ok (.iload 4, 2) := by decide +kernel
theorem d_La_law_766 : decode code 766 = .ok (.iconst 4, 1) := by decide +kernel
theorem d_La_law_767 : decode code 767 = .ok (.iadd, 1) := by decide +kernel
theorem d_La_law_768 : decode code 768 = .ok (.iaload, 1) := by decide +kernel
theorem d_La_law_769 : decode code 769 = .ok (.aload_n 0, 1) := by decide +kernel
theorem d_La_law_770 : decode code 770 = .ok (.iload 4, 2) := by decide +kernel
theorem d_La_law_772 : decode code 772 = .ok (.iconst 5, 1) := by decide +kernel
theorem d_La_law_773 : decode code 773 = .ok (.iadd, 1) := by decide +kernel
theorem d_La_law_774 : decode code 774 = .ok (.iaload, 1) := by decide +kernel
theorem d_La_law_775 : decode code 775 = .ok (.invokevirtual 132, 3) := by decide +kernel
theorem d_La_law_778 : decode code 778 = .ok (.istore 6, 2) := by decide +kernel
theorem d_La_law_780 : decode code 780 = .ok (.goto 680, 3) := by decide +kernel
theorem d_La_law_783 : decode code 783 = .ok (.aload_n 1, 1) := by decide +kernel
theorem d_La_law_784 : decode code 784 = .ok (.aload_n 0, 1) := by decide +kernel
theorem d_La_law_785 : decode code 785 = .ok (.iload 4, 2) := by decide +kernel
theorem d_La_law_787 : decode code 787 = .ok (.iconst 1, 1) := by decide +kernel
theorem d_La_law_788 : decode code 788 = .ok (.iadd, 1) := by decide +kernel
theorem d_La_law_789 : decode code 789 = .ok (.iaload, 1) := by decide +kernel
theorem d_La_law_790 : decode code 790 = .ok (.aload_n 0, 1) := by decide +kernel
theorem d_La_law_791 : decode code 791 = .ok (.iload 4, 2) := by decide +kernel
theorem d_La_law_793 : decode code 793 = .ok (.iconst 2, 1) := by decide +kernel
theorem d_La_law_794 : decode code 794 = .ok (.iadd, 1) := by decide +kernel
theorem d_La_law_795 : decode code 795 = .ok (.iaload, 1) := by decide +kernel
theorem d_La_law_796 : decode code 796 = .ok (.aload_n 0, 1) := by decide +kernel
theorem d_La_law_797 : decode code 797 = .ok (.iload 4, 2) := by decide +kernel
theorem d_La_law_799 : decode code 799 = .ok (.iconst 3, 1) := by decide +kernel
theorem d_La_law_800 : decode code 800 = .ok (.iadd, 1) := by decide +kernel
theorem d_La_law_801 : decode code 801 = .ok (.iaload, 1) := by decide +kernel
theorem d_La_law_802 : decode code 802 = .ok (.aload_n 0, 1) := by decide +kernel
theorem d_La_law_803 : decode code 803 = .ok (.iload 4, 2) := by decide +kernel
theorem d_La_law_805 : decode code 805 = .ok (.iconst 4, 1) := by decide +kernel
theorem d_La_law_806 : decode code 806 = .ok (.iadd, 1) := by decide +kernel
theorem d_La_law_807 : decode code 807 = .ok (.iaload, 1) := by decide +kernel
theorem d_La_law_808 : decode code 808 = .ok (.aload_n 3, 1) := by decide +kernel
theorem d_La_law_809 : decode code 809 = .ok (.invokestatic 133, 3) := by decide +kernel
theorem d_La_law_812 : decode code 812 = .ok (.istore 5, 2) := by decide +kernel
theorem d_La_law_814 : decode code 814 = .ok (.aload_n 2, 1) := by decide +kernel
theorem d_La_law_815 : decode code 815 = .ok (.aload_n 0, 1) := by decide +kernel
theorem d_La_law_816 : decode code 816 = .ok (.iload 4, 2) := by decide +kernel
theorem d_La_law_818 : decode code 818 = .ok (.iconst 1, 1) := by decide +kernel
theorem d_La_law_819 : decode code 819 = .ok (.iadd, 1) := by decide +kernel
theorem d_La_law_820 : decode code 820 = .ok (.iaload, 1) := by decide +kernel
theorem d_La_law_821 : decode code 821 = .ok (.aload_n 0, 1) := by decide +kernel
theorem d_La_law_822 : decode code 822 = .ok (.iload 4, 2) := by decide +kernel
theorem d_La_law_824 : decode code 824 = .ok (.iconst 2, 1) := by decide +kernel
theorem d_La_law_825 : decode code 825 = .ok (.iadd, 1) := by decide +kernel
theorem d_La_law_826 : decode code 826 = .ok (.iaload, 1) := by decide +kernel
theorem d_La_law_827 : decode code 827 = .ok (.aload_n 0, 1) := by decide +kernel
theorem d_La_law_828 : decode code 828 = .ok (.iload 4, 2) := by decide +kernel
theorem d_La_law_830 : decode code 830 = .ok (.iconst 3, 1) := by decide +kernel
theorem d_La_law_831 : decode code 831 = .ok (.iadd, 1) := by decide +kernel
theorem d_La_law_832 : decode code 832 = .ok (.iaload, 1) := by decide +kernel
theorem d_La_law_833 : decode code 833 = .ok (.aload_n 0, 1) := by decide +kernel
theorem d_La_law_834 : decode code 834 = .ok (.iload 4, 2) := by decide +kernel
theorem d_La_law_836 : decode code 836 = .ok (.iconst 4, 1) := by decide +kernel
theorem d_La_law_837 : decode code 837 = .ok (.iadd, 1) := by decide +kernel
theorem d_La_law_838 : decode code 838 = .ok (.iaload, 1) := by decide +kernel
theorem d_La_law_839 : decode code 839 = .ok (.invokevirtual 135, 3) := by decide +kernel
theorem d_La_law_842 : decode code 842 = .ok (.istore 6, 2) := by decide +kernel
theorem d_La_law_844 : decode code 844 = .ok (.goto 616, 3) := by decide +kernel
theorem d_La_law_847 : decode code 847 = .ok (.aload_n 1, 1) := by decide +kernel
theorem d_La_law_848 : decode code 848 = .ok (.aload_n 0, 1) := by decide +kernel
theorem d_La_law_849 : decode code 849 = .ok (.iload 4, 2) := by decide +kernel
theorem d_La_law_851 : decode code 851 = .ok (.iconst 1, 1) := by decide +kernel
theorem d_La_law_852 : decode code 852 = .ok (.iadd, 1) := by decide +kernel
theorem d_La_law_853 : decode code 853 = .ok (.iaload, 1) := by decide +kernel
theorem d_La_law_854 : decode code 854 = .ok (.aload_n 0, 1) := by decide +kernel
theorem d_La_law_855 : decode code 855 = .ok (.iload 4, 2) := by decide +kernel
theorem d_La_law_857 : decode code 857 = .ok (.iconst 2, 1) := by decide +kernel
theorem d_La_law_858 : decode code 858 = .ok (.iadd, 1) := by decide +kernel
theorem d_La_law_859 : decode code 859 = .ok (.iaload, 1) := by decide +kernel
theorem d_La_law_860 : decode code 860 = .ok (.aload_n 0, 1) := by decide +kernel
theorem d_La_law_861 : decode code 861 = .ok (.iload 4, 2) := by decide +kernel
theorem d_La_law_863 : decode code 863 = .ok (.iconst 3, 1) := by decide +kernel
theorem d_La_law_864 : decode code 864 = .ok (.iadd, 1) := by decide +kernel
theorem d_La_law_865 : decode code 865 = .ok (.iaload, 1) := by decide +kernel
theorem d_La_law_866 : decode code 866 = .ok (.aload_n 3, 1) := by decide +kernel
theorem d_La_law_867 : decode code 867 = .ok (.invokestatic 136, 3) := by decide +kernel
theorem d_La_law_870 : decode code 870 = .ok (.istore 5, 2) := by decide +kernel
theorem d_La_law_872 : decode code 872 = .ok (.aload_n 2, 1) := by decide +kernel
theorem d_La_law_873 : decode code 873 = .ok (.aload_n 0, 1) := by decide +kernel
theorem d_La_law_874 : decode code 874 = .ok (.iload 4, 2) := by decide +kernel
theorem d_La_law_876 : decode code 876 = .ok (.iconst 1, 1) := by decide +kernel
theorem d_La_law_877 : decode code 877 = .ok (.iadd, 1) := by decide +kernel
theorem d_La_law_878 : decode code 878 = .ok (.iaload, 1) := by decide +kernel
theorem d_La_law_879 : decode code 879 = .ok (.aload_n 0, 1) := by decide +kernel
theorem d_La_law_880 : decode code 880 = .ok (.iload 4, 2) := by decide +kernel
theorem d_La_law_882 : decode code 882 = .ok (.iconst 2, 1) := by decide +kernel
theorem d_La_law_883 : decode code 883 = .ok (.iadd, 1) := by decide +kernel
theorem d_La_law_884 : decode code 884 = .ok (.iaload, 1) := by decide +kernel
theorem d_La_law_885 : decode code 885 = .ok (.aload_n 0, 1) := by decide +kernel
theorem d_La_law_886 : decode code 886 = .ok (.iload 4, 2) := by decide +kernel
theorem d_La_law_888 : decode code 888 = .ok (.iconst 3, 1) := by decide +kernel
theorem d_La_law_889 : decode code 889 = .ok (.iadd, 1) := by decide +kernel
theorem d_La_law_890 : decode code 890 = .ok (.iaload, 1) := by decide +kernel
theorem d_La_law_891 : decode code 891 = .ok (.invokevirtual 138, 3) := by decide +kernel
theorem d_La_law_894 : decode code 894 = .ok (.istore 6, 2) := by decide +kernel
theorem d_La_law_896 : decode code 896 = .ok (.goto 564, 3) := by decide +kernel
theorem d_La_law_899 : decode code 899 = .ok (.aload_n 1, 1) := by decide +kernel
theorem d_La_law_900 : decode code 900 = .ok (.aload_n 0, 1) := by decide +kernel
theorem d_La_law_901 : decode code 901 = .ok (.iload 4, 2) := by decide +kernel
theorem d_La_law_903 : decode code 903 = .ok (.iconst 1, 1) := by decide +kernel
theorem d_La_law_904 : decode code 904 = .ok (.iadd, 1) := by decide +kernel
theorem d_La_law_905 : decode code 905 = .ok (.iaload, 1) := by decide +kernel
theorem d_La_law_906 : decode code 906 = .ok (.aload_n 0, 1) := by decide +kernel
theorem d_La_law_907 : decode code 907 = .ok (.iload 4, 2) := by decide +kernel
theorem d_La_law_909 : decode code 909 = .ok (.iconst 2, 1) := by decide +kernel
theorem d_La_law_910 : decode code 910 = .ok (.iadd, 1) := by decide +kernel
theorem d_La_law_911 : decode code 911 = .ok (.iaload, 1) := by decide +kernel
theorem d_La_law_912 : decode code 912 = .ok (.aload_n 3, 1) := by decide +kernel
theorem d_La_law_913 : decode code 913 = .ok (.invokestatic 139, 3) := by decide +kernel
theorem d_La_law_916 : decode code 916 = .ok (.istore 5, 2) := by decide +kernel
theorem d_La_law_918 : decode code 918 = .ok (.aload_n 2, 1) := by decide +kernel
theorem d_La_law_919 : decode code 919 = .ok (.aload_n 0, 1) := by decide +kernel
theorem d_La_law_920 : decode code 920 = .ok (.iload 4, 2) := by decide +kernel
theorem d_La_law_922 : decode code 922 = .ok (.iconst 1, 1) := by decide +kernel
theorem d_La_law_923 : decode code 923 = .ok (.iadd, 1) := by decide +kernel
theorem d_La_law_924 : decode code 924 = .ok (.iaload, 1) := by decide +kernel
theorem d_La_law_925 : decode code 925 = .ok (.aload_n 0, 1) := by decide +kernel
theorem d_La_law_926 : decode code 926 = .ok (.iload 4, 2) := by decide +kernel
theorem d_La_law_928 : decode code 928 = .ok (.iconst 2, 1) := by decide +kernel
theorem d_La_law_929 : decode code 929 = .ok (.iadd, 1) := by decide +kernel
theorem d_La_law_930 : decode code 930 = .ok (.iaload, 1) := by decide +kernel
theorem d_La_law_931 : decode code 931 = .ok (.invokevirtual 141, 3) := by decide +kernel
theorem d_La_law_934 : decode code 934 = .ok (.istore 6, 2) := by decide +kernel
theorem d_La_law_936 : decode code 936 = .ok (.goto 524, 3) := by decide +kernel
theorem d_La_law_939 : decode code 939 = .ok (.aload_n 1, 1) := by decide +kernel
theorem d_La_law_940 : decode code 940 = .ok (.aload_n 0, 1) := by decide +kernel
theorem d_La_law_941 : decode code 941 = .ok (.iload 4, 2) := by decide +kernel
theorem d_La_law_943 : decode code 943 = .ok (.iconst 1, 1) := by decide +kernel
theorem d_La_law_944 : decode code 944 = .ok (.iadd, 1) := by decide +kernel
theorem d_La_law_945 : decode code 945 = .ok (.iaload, 1) := by decide +kernel
theorem d_La_law_946 : decode code 946 = .ok (.aload_n 0, 1) := by decide +kernel
theorem d_La_law_947 : decode code 947 = .ok (.iload 4, 2) := by decide +kernel
theorem d_La_law_949 : decode code 949 = .ok (.iconst 2, 1) := by decide +kernel
theorem d_La_law_950 : decode code 950 = .ok (.iadd, 1) := by decide +kernel
theorem d_La_law_951 : decode code 951 = .ok (.iaload, 1) := by decide +kernel
theorem d_La_law_952 : decode code 952 = .ok (.aload_n 3, 1) := by decide +kernel
theorem d_La_law_953 : decode code 953 = .ok (.invokestatic 142, 3) := by decide +kernel
theorem d_La_law_956 : decode code 956 = .ok (.istore 5, 2) := by decide +kernel
theorem d_La_law_958 : decode code 958 = .ok (.aload_n 2, 1) := by decide +kernel
theorem d_La_law_959 : decode code 959 = .ok (.aload_n 0, 1) := by decide +kernel
theorem d_La_law_960 : decode code 960 = .ok (.iload 4, 2) := by decide +kernel
theorem d_La_law_962 : decode code 962 = .ok (.iconst 1, 1) := by decide +kernel
theorem d_La_law_963 : decode code 963 = .ok (.iadd, 1) := by decide +kernel
theorem d_La_law_964 : decode code 964 = .ok (.iaload, 1) := by decide +kernel
theorem d_La_law_965 : decode code 965 = .ok (.aload_n 0, 1) := by decide +kernel
theorem d_La_law_966 : decode code 966 = .ok (.iload 4, 2) := by decide +kernel
theorem d_La_law_968 : decode code 968 = .ok (.iconst 2, 1) := by decide +kernel
theorem d_La_law_969 : decode code 969 = .ok (.iadd, 1) := by decide +kernel
theorem d_La_law_970 : decode code 970 = .ok (.iaload, 1) := by decide +kernel
theorem d_La_law_971 : decode code 971 = .ok (.invokevirtual 144, 3) := by decide +kernel
theorem d_La_law_974 : decode code 974 = .ok (.istore 6, 2) := by decide +kernel
theorem d_La_law_976 : decode code 976 = .ok (.goto 484, 3) := by decide +kernel
theorem d_La_law_979 : decode code 979 = .ok (.aload_n 1, 1) := by decide +kernel
theorem d_La_law_980 : decode code 980 = .ok (.aload_n 0, 1) := by decide +kernel
theorem d_La_law_981 : decode code 981 = .ok (.iload 4, 2) := by decide +kernel
theorem d_La_law_983 : decode code 983 = .ok (.iconst 1, 1) := by decide +kernel
theorem d_La_law_984 : decode code 984 = .ok (.iadd, 1) := by decide +kernel
theorem d_La_law_985 : decode code 985 = .ok (.iaload, 1) := by decide +kernel
theorem d_La_law_986 : decode code 986 = .ok (.aload_n 0, 1) := by decide +kernel
theorem d_La_law_987 : decode code 987 = .ok (.iload 4, 2) := by decide +kernel
theorem d_La_law_989 : decode code 989 = .ok (.iconst 2, 1) := by decide +kernel
theorem d_La_law_990 : decode code 990 = .ok (.iadd, 1) := by decide +kernel
theorem d_La_law_991 : decode code 991 = .ok (.iaload, 1) := by decide +kernel
theorem d_La_law_992 : decode code 992 = .ok (.aload_n 0, 1) := by decide +kernel
theorem d_La_law_993 : decode code 993 = .ok (.iload 4, 2) := by decide +kernel
theorem d_La_law_995 : decode code 995 = .ok (.iconst 3, 1) := by decide +kernel
theorem d_La_law_996 : decode code 996 = .ok (.iadd, 1) := by decide +kernel
theorem d_La_law_997 : decode code 997 = .ok (.iaload, 1) := by decide +kernel
theorem d_La_law_998 : decode code 998 = .ok (.aload_n 0, 1) := by decide +kernel
theorem d_La_law_999 : decode code 999 = .ok (.iload 4, 2) := by decide +kernel
theorem d_La_law_1001 : decode code 1001 = .ok (.iconst 4, 1) := by decide +kernel
theorem d_La_law_1002 : decode code 1002 = .ok (.iadd, 1) := by decide +kernel
theorem d_La_law_1003 : decode code 1003 = .ok (.iaload, 1) := by decide +kernel
theorem d_La_law_1004 : decode code 1004 = .ok (.aload_n 0, 1) := by decide +kernel
theorem d_La_law_1005 : decode code 1005 = .ok (.iload 4, 2) := by decide +kernel
theorem d_La_law_1007 : decode code 1007 = .ok (.iconst 5, 1) := by decide +kernel
theorem d_La_law_1008 : decode code 1008 = .ok (.iadd, 1) := by decide +kernel
theorem d_La_law_1009 : decode code 1009 = .ok (.iaload, 1) := by decide +kernel
theorem d_La_law_1010 : decode code 1010 = .ok (.aload_n 3, 1) := by decide +kernel
theorem d_La_law_1011 : decode code 1011 = .ok (.invokestatic 145, 3) := by decide +kernel
theorem d_La_law_1014 : decode code 1014 = .ok (.istore 5, 2) := by decide +kernel
theorem d_La_law_1016 : decode code 1016 = .ok (.aload_n 2, 1) := by decide +kernel
theorem d_La_law_1017 : decode code 1017 = .ok (.aload_n 0, 1) := by decide +kernel
theorem d_La_law_1018 : decode code 1018 = .ok (.iload 4, 2) := by decide +kernel
theorem d_La_law_1020 : decode code 1020 = .ok (.iconst 1, 1) := by decide +kernel
theorem d_La_law_1021 : decode code 1021 = .ok (.iadd, 1) := by decide +kernel
theorem d_La_law_1022 : decode code 1022 = .ok (.iaload, 1) := by decide +kernel
theorem d_La_law_1023 : decode code 1023 = .ok (.aload_n 0, 1) := by decide +kernel
theorem d_La_law_1024 : decode code 1024 = .ok (.iload 4, 2) := by decide +kernel
theorem d_La_law_1026 : decode code 1026 = .ok (.iconst 2, 1) := by decide +kernel
theorem d_La_law_1027 : decode code 1027 = .ok (.iadd, 1) := by decide +kernel
theorem d_La_law_1028 : decode code 1028 = .ok (.iaload, 1) := by decide +kernel
theorem d_La_law_1029 : decode code 1029 = .ok (.aload_n 0, 1) := by decide +kernel
theorem d_La_law_1030 : decode code 1030 = .ok (.iload 4, 2) := by decide +kernel
theorem d_La_law_1032 : decode code 1032 = .ok (.iconst 3, 1) := by decide +kernel
theorem d_La_law_1033 : decode code 1033 = .ok (.iadd, 1) := by decide +kernel
theorem d_La_law_1034 : decode code 1034 = .ok (.iaload, 1) := by decide +kernel
theorem d_La_law_1035 : decode code 1035 = .ok (.aload_n 0, 1) := by decide +kernel
theorem d_La_law_1036 : decode code 1036 = .ok (.iload 4, 2) := by decide +kernel
theorem d_La_law_1038 : decode code 1038 = .ok (.iconst 4, 1) := by decide +kernel
theorem d_La_law_1039 : decode code 1039 = .ok (.iadd, 1) := by decide +kernel
theorem d_La_law_1040 : decode code 1040 = .ok (.iaload, 1) := by decide +kernel
theorem d_La_law_1041 : decode code 1041 = .ok (.aload_n 0, 1) := by decide +kernel
theorem d_La_law_1042 : decode code 1042 = .ok (.iload 4, 2) := by decide +kernel
theorem d_La_law_1044 : decode code 1044 = .ok (.iconst 5, 1) := by decide +kernel
theorem d_La_law_1045 : decode code 1045 = .ok (.iadd, 1) := by decide +kernel
theorem d_La_law_1046 : decode code 1046 = .ok (.iaload, 1) := by decide +kernel
theorem d_La_law_1047 : decode code 1047 = .ok (.invokevirtual 147, 3) := by decide +kernel
theorem d_La_law_1050 : decode code 1050 = .ok (.istore 6, 2) := by decide +kernel
theorem d_La_law_1052 : decode code 1052 = .ok (.goto 408, 3) := by decide +kernel
theorem d_La_law_1055 : decode code 1055 = .ok (.aload_n 1, 1) := by decide +kernel
theorem d_La_law_1056 : decode code 1056 = .ok (.aload_n 0, 1) := by decide +kernel
theorem d_La_law_1057 : decode code 1057 = .ok (.iload 4, 2) := by decide +kernel
theorem d_La_law_1059 : decode code 1059 = .ok (.iconst 1, 1) := by decide +kernel
theorem d_La_law_1060 : decode code 1060 = .ok (.iadd, 1) := by decide +kernel
theorem d_La_law_1061 : decode code 1061 = .ok (.iaload, 1) := by decide +kernel
theorem d_La_law_1062 : decode code 1062 = .ok (.aload_n 0, 1) := by decide +kernel
theorem d_La_law_1063 : decode code 1063 = .ok (.iload 4, 2) := by decide +kernel
theorem d_La_law_1065 : decode code 1065 = .ok (.iconst 2, 1) := by decide +kernel
theorem d_La_law_1066 : decode code 1066 = .ok (.iadd, 1) := by decide +kernel
theorem d_La_law_1067 : decode code 1067 = .ok (.iaload, 1) := by decide +kernel
theorem d_La_law_1068 : decode code 1068 = .ok (.aload_n 0, 1) := by decide +kernel
theorem d_La_law_1069 : decode code 1069 = .ok (.iload 4, 2) := by decide +kernel
theorem d_La_law_1071 : decode code 1071 = .ok (.iconst 3, 1) := by decide +kernel
theorem d_La_law_1072 : decode code 1072 = .ok (.iadd, 1) := by decide +kernel
theorem d_La_law_1073 : decode code 1073 = .ok (.iaload, 1) := by decide +kernel
theorem d_La_law_1074 : decode code 1074 = .ok (.aload_n 3, 1) := by decide +kernel
theorem d_La_law_1075 : decode code 1075 = .ok (.invokestatic 148, 3) := by decide +kernel
theorem d_La_law_1078 : decode code 1078 = .ok (.istore 5, 2) := by decide +kernel
theorem d_La_law_1080 : decode code 1080 = .ok (.aload_n 2, 1) := by decide +kernel
theorem d_La_law_1081 : decode code 1081 = .ok (.aload_n 0, 1) := by decide +kernel
theorem d_La_law_1082 : decode code 1082 = .ok (.iload 4, 2) := by decide +kernel
theorem d_La_law_1084 : decode code 1084 = .ok (.iconst 1, 1) := by decide +kernel
theorem d_La_law_1085 : decode code 1085 = .ok (.iadd, 1) := by decide +kernel
theorem d_La_law_1086 : decode code 1086 = .ok (.iaload, 1) := by decide +kernel
theorem d_La_law_1087 : decode code 1087 = .ok (.aload_n 0, 1) := by decide +kernel
theorem d_La_law_1088 : decode code 1088 = .ok (.iload 4, 2) := by decide +kernel
theorem d_La_law_1090 : decode code 1090 = .ok (.iconst 2, 1) := by decide +kernel
theorem d_La_law_1091 : decode code 1091 = .ok (.iadd, 1) := by decide +kernel
theorem d_La_law_1092 : decode code 1092 = .ok (.iaload, 1) := by decide +kernel
theorem d_La_law_1093 : decode code 1093 = .ok (.aload_n 0, 1) := by decide +kernel
theorem d_La_law_1094 : decode code 1094 = .ok (.iload 4, 2) := by decide +kernel
theorem d_La_law_1096 : decode code 1096 = .ok (.iconst 3, 1) := by decide +kernel
theorem d_La_law_1097 : decode code 1097 = .ok (.iadd, 1) := by decide +kernel
theorem d_La_law_1098 : decode code 1098 = .ok (.iaload, 1) := by decide +kernel
theorem d_La_law_1099 : decode code 1099 = .ok (.invokevirtual 150, 3) := by decide +kernel
theorem d_La_law_1102 : decode code 1102 = .ok (.istore 6, 2) := by decide +kernel
theorem d_La_law_1104 : decode code 1104 = .ok (.goto 356, 3) := by decide +kernel
theorem d_La_law_1107 : decode code 1107 = .ok (.aload_n 1, 1) := by decide +kernel
theorem d_La_law_1108 : decode code 1108 = .ok (.aload_n 0, 1) := by decide +kernel
theorem d_La_law_1109 : decode code 1109 = .ok (.iload 4, 2) := by decide +kernel
theorem d_La_law_1111 : decode code 1111 = .ok (.iconst 1, 1) := by decide +kernel
theorem d_La_law_1112 : decode code 1112 = .ok (.iadd, 1) := by decide +kernel
theorem d_La_law_1113 : decode code 1113 = .ok (.iaload, 1) := by decide +kernel
theorem d_La_law_1114 : decode code 1114 = .ok (.aload_n 0, 1) := by decide +kernel
theorem d_La_law_1115 : decode code 1115 = .ok (.iload 4, 2) := by decide +kernel
theorem d_La_law_1117 : decode code 1117 = .ok (.iconst 2, 1) := by decide +kernel
theorem d_La_law_1118 : decode code 1118 = .ok (.iadd, 1) := by decide +kernel
theorem d_La_law_1119 : decode code 1119 = .ok (.iaload, 1) := by decide +kernel
theorem d_La_law_1120 : decode code 1120 = .ok (.aload_n 0, 1) := by decide +kernel
theorem d_La_law_1121 : decode code 1121 = .ok (.iload 4, 2) := by decide +kernel
theorem d_La_law_1123 : decode code 1123 = .ok (.iconst 3, 1) := by decide +kernel
theorem d_La_law_1124 : decode code 1124 = .ok (.iadd, 1) := by decide +kernel
theorem d_La_law_1125 : decode code 1125 = .ok (.iaload, 1) := by decide +kernel
theorem d_La_law_1126 : decode code 1126 = .ok (.aload_n 3, 1) := by decide +kernel
theorem d_La_law_1127 : decode code 1127 = .ok (.invokestatic 151, 3) := by decide +kernel
theorem d_La_law_1130 : decode code 1130 = .ok (.istore 5, 2) := by decide +kernel
theorem d_La_law_1132 : decode code 1132 = .ok (.aload_n 2, 1) := by decide +kernel
theorem d_La_law_1133 : decode code 1133 = .ok (.aload_n 0, 1) := by decide +kernel
theorem d_La_law_1134 : decode code 1134 = .ok (.iload 4, 2) := by decide +kernel
theorem d_La_law_1136 : decode code 1136 = .ok (.iconst 1, 1) := by decide +kernel
theorem d_La_law_1137 : decode code 1137 = .ok (.iadd, 1) := by decide +kernel
theorem d_La_law_1138 : decode code 1138 = .ok (.iaload, 1) := by decide +kernel
theorem d_La_law_1139 : decode code 1139 = .ok (.aload_n 0, 1) := by decide +kernel
theorem d_La_law_1140 : decode code 1140 = .ok (.iload 4, 2) := by decide +kernel
theorem d_La_law_1142 : decode code 1142 = .ok (.iconst 2, 1) := by decide +kernel
theorem d_La_law_1143 : decode code 1143 = .ok (.iadd, 1) := by decide +kernel
theorem d_La_law_1144 : decode code 1144 = .ok (.iaload, 1) := by decide +kernel
theorem d_La_law_1145 : decode code 1145 = .ok (.aload_n 0, 1) := by decide +kernel
theorem d_La_law_1146 : decode code 1146 = .ok (.iload 4, 2) := by decide +kernel
theorem d_La_law_1148 : decode code 1148 = .ok (.iconst 3, 1) := by decide +kernel
theorem d_La_law_1149 : decode code 1149 = .ok (.iadd, 1) := by decide +kernel
theorem d_La_law_1150 : decode code 1150 = .ok (.iaload, 1) := by decide +kernel
theorem d_La_law_1151 : decode code 1151 = .ok (.invokevirtual 153, 3) := by decide +kernel
theorem d_La_law_1154 : decode code 1154 = .ok (.istore 6, 2) := by decide +kernel
theorem d_La_law_1156 : decode code 1156 = .ok (.goto 304, 3) := by decide +kernel
theorem d_La_law_1159 : decode code 1159 = .ok (.aload_n 1, 1) := by decide +kernel
theorem d_La_law_1160 : decode code 1160 = .ok (.aload_n 0, 1) := by decide +kernel
theorem d_La_law_1161 : decode code 1161 = .ok (.iload 4, 2) := by decide +kernel
theorem d_La_law_1163 : decode code 1163 = .ok (.iconst 1, 1) := by decide +kernel
theorem d_La_law_1164 : decode code 1164 = .ok (.iadd, 1) := by decide +kernel
theorem d_La_law_1165 : decode code 1165 = .ok (.iaload, 1) := by decide +kernel
theorem d_La_law_1166 : decode code 1166 = .ok (.aload_n 0, 1) := by decide +kernel
theorem d_La_law_1167 : decode code 1167 = .ok (.iload 4, 2) := by decide +kernel
theorem d_La_law_1169 : decode code 1169 = .ok (.iconst 2, 1) := by decide +kernel
theorem d_La_law_1170 : decode code 1170 = .ok (.iadd, 1) := by decide +kernel
theorem d_La_law_1171 : decode code 1171 = .ok (.iaload, 1) := by decide +kernel
theorem d_La_law_1172 : decode code 1172 = .ok (.aload_n 0, 1) := by decide +kernel
theorem d_La_law_1173 : decode code 1173 = .ok (.iload 4, 2) := by decide +kernel
theorem d_La_law_1175 : decode code 1175 = .ok (.iconst 3, 1) := by decide +kernel
theorem d_La_law_1176 : decode code 1176 = .ok (.iadd, 1) := by decide +kernel
theorem d_La_law_1177 : decode code 1177 = .ok (.iaload, 1) := by decide +kernel
theorem d_La_law_1178 : decode code 1178 = .ok (.aload_n 0, 1) := by decide +kernel
theorem d_La_law_1179 : decode code 1179 = .ok (.iload 4, 2) := by decide +kernel
theorem d_La_law_1181 : decode code 1181 = .ok (.iconst 4, 1) := by decide +kernel
theorem d_La_law_1182 : decode code 1182 = .ok (.iadd, 1) := by decide +kernel
theorem d_La_law_1183 : decode code 1183 = .ok (.iaload, 1) := by decide +kernel
theorem d_La_law_1184 : decode code 1184 = .ok (.aload_n 3, 1) := by decide +kernel
theorem d_La_law_1185 : decode code 1185 = .ok (.invokestatic 154, 3) := by decide +kernel
theorem d_La_law_1188 : decode code 1188 = .ok (.istore 5, 2) := by decide +kernel
theorem d_La_law_1190 : decode code 1190 = .ok (.aload_n 2, 1) := by decide +kernel
theorem d_La_law_1191 : decode code 1191 = .ok (.aload_n 0, 1) := by decide +kernel
theorem d_La_law_1192 : decode code 1192 = .ok (.iload 4, 2) := by decide +kernel
theorem d_La_law_1194 : decode code 1194 = .ok (.iconst 1, 1) := by decide +kernel
theorem d_La_law_1195 : decode code 1195 = .ok (.iadd, 1) := by decide +kernel
theorem d_La_law_1196 : decode code 1196 = .ok (.iaload, 1) := by decide +kernel
theorem d_La_law_1197 : decode code 1197 = .ok (.aload_n 0, 1) := by decide +kernel
theorem d_La_law_1198 : decode code 1198 = .ok (.iload 4, 2) := by decide +kernel
theorem d_La_law_1200 : decode code 1200 = .ok (.iconst 2, 1) := by decide +kernel
theorem d_La_law_1201 : decode code 1201 = .ok (.iadd, 1) := by decide +kernel
theorem d_La_law_1202 : decode code 1202 = .ok (.iaload, 1) := by decide +kernel
theorem d_La_law_1203 : decode code 1203 = .ok (.aload_n 0, 1) := by decide +kernel
theorem d_La_law_1204 : decode code 1204 = .ok (.iload 4, 2) := by decide +kernel
theorem d_La_law_1206 : decode code 1206 = .ok (.iconst 3, 1) := by decide +kernel
theorem d_La_law_1207 : decode code 1207 = .ok (.iadd, 1) := by decide +kernel
theorem d_La_law_1208 : decode code 1208 = .ok (.iaload, 1) := by decide +kernel
theorem d_La_law_1209 : decode code 1209 = .ok (.aload_n 0, 1) := by decide +kernel
theorem d_La_law_1210 : decode code 1210 = .ok (.iload 4, 2) := by decide +kernel
theorem d_La_law_1212 : decode code 1212 = .ok (.iconst 4, 1) := by decide +kernel
theorem d_La_law_1213 : decode code 1213 = .ok (.iadd, 1) := by decide +kernel
theorem d_La_law_1214 : decode code 1214 = .ok (.iaload, 1) := by decide +kernel
theorem d_La_law_1215 : decode code 1215 = .ok (.invokevirtual 156, 3) := by decide +kernel
theorem d_La_law_1218 : decode code 1218 = .ok (.istore 6, 2) := by decide +kernel
theorem d_La_law_1220 : decode code 1220 = .ok (.goto 240, 3) := by decide +kernel
theorem d_La_law_1223 : decode code 1223 = .ok (.aload_n 1, 1) := by decide +kernel
theorem d_La_law_1224 : decode code 1224 = .ok (.aload_n 0, 1) := by decide +kernel
theorem d_La_law_1225 : decode code 1225 = .ok (.iload 4, 2) := by decide +kernel
theorem d_La_law_1227 : decode code 1227 = .ok (.iconst 1, 1) := by decide +kernel
theorem d_La_law_1228 : decode code 1228 = .ok (.iadd, 1) := by decide +kernel
theorem d_La_law_1229 : decode code 1229 = .ok (.iaload, 1) := by decide +kernel
theorem d_La_law_1230 : decode code 1230 = .ok (.aload_n 0, 1) := by decide +kernel
theorem d_La_law_1231 : decode code 1231 = .ok (.iload 4, 2) := by decide +kernel
theorem d_La_law_1233 : decode code 1233 = .ok (.iconst 2, 1) := by decide +kernel
theorem d_La_law_1234 : decode code 1234 = .ok (.iadd, 1) := by decide +kernel
theorem d_La_law_1235 : decode code 1235 = .ok (.iaload, 1) := by decide +kernel
theorem d_La_law_1236 : decode code 1236 = .ok (.aload_n 0, 1) := by decide +kernel
theorem d_La_law_1237 : decode code 1237 = .ok (.iload 4, 2) := by decide +kernel
theorem d_La_law_1239 : decode code 1239 = .ok (.iconst 3, 1) := by decide +kernel
theorem d_La_law_1240 : decode code 1240 = .ok (.iadd, 1) := by decide +kernel
theorem d_La_law_1241 : decode code 1241 = .ok (.iaload, 1) := by decide +kernel
theorem d_La_law_1242 : decode code 1242 = .ok (.aload_n 0, 1) := by decide +kernel
theorem d_La_law_1243 : decode code 1243 = .ok (.iload 4, 2) := by decide +kernel
theorem d_La_law_1245 : decode code 1245 = .ok (.iconst 4, 1) := by decide +kernel
theorem d_La_law_1246 : decode code 1246 = .ok (.iadd, 1) := by decide +kernel
theorem d_La_law_1247 : decode code 1247 = .ok (.iaload, 1) := by decide +kernel
theorem d_La_law_1248 : decode code 1248 = .ok (.aload_n 0, 1) := by decide +kernel
theorem d_La_law_1249 : decode code 1249 = .ok (.iload 4, 2) := by decide +kernel
theorem d_La_law_1251 : decode code 1251 = .ok (.iconst 5, 1) := by decide +kernel
theorem d_La_law_1252 : decode code 1252 = .ok (.iadd, 1) := by decide +kernel
theorem d_La_law_1253 : decode code 1253 = .ok (.iaload, 1) := by decide +kernel
theorem d_La_law_1254 : decode code 1254 = .ok (.ifCond .eq 7, 3) := by decide +kernel
theorem d_La_law_1257 : decode code 1257 = .ok (.iconst 1, 1) := by decide +kernel
theorem d_La_law_1258 : decode code 1258 = .ok (.goto 4, 3) := by decide +kernel
theorem d_La_law_1261 : decode code 1261 = .ok (.iconst 0, 1) := by decide +kernel
theorem d_La_law_1262 : decode code 1262 = .ok (.aload_n 0, 1) := by decide +kernel
theorem d_La_law_1263 : decode code 1263 = .ok (.iload 4, 2) := by decide +kernel
theorem d_La_law_1265 : decode code 1265 = .ok (.bipush 6, 2) := by decide +kernel
theorem d_La_law_1267 : decode code 1267 = .ok (.iadd, 1) := by decide +kernel
theorem d_La_law_1268 : decode code 1268 = .ok (.iaload, 1) := by decide +kernel
theorem d_La_law_1269 : decode code 1269 = .ok (.aload_n 3, 1) := by decide +kernel
theorem d_La_law_1270 : decode code 1270 = .ok (.invokestatic 157, 3) := by decide +kernel
theorem d_La_law_1273 : decode code 1273 = .ok (.istore 5, 2) := by decide +kernel
theorem d_La_law_1275 : decode code 1275 = .ok (.aload_n 2, 1) := by decide +kernel
theorem d_La_law_1276 : decode code 1276 = .ok (.aload_n 0, 1) := by decide +kernel
theorem d_La_law_1277 : decode code 1277 = .ok (.iload 4, 2) := by decide +kernel
theorem d_La_law_1279 : decode code 1279 = .ok (.iconst 1, 1) := by decide +kernel
theorem d_La_law_1280 : decode code 1280 = .ok (.iadd, 1) := by decide +kernel
theorem d_La_law_1281 : decode code 1281 = .ok (.iaload, 1) := by decide +kernel
theorem d_La_law_1282 : decode code 1282 = .ok (.aload_n 0, 1) := by decide +kernel
theorem d_La_law_1283 : decode code 1283 = .ok (.iload 4, 2) := by decide +kernel
theorem d_La_law_1285 : decode code 1285 = .ok (.iconst 2, 1) := by decide +kernel
theorem d_La_law_1286 : decode code 1286 = .ok (.iadd, 1) := by decide +kernel
theorem d_La_law_1287 : decode code 1287 = .ok (.iaload, 1) := by decide +kernel
theorem d_La_law_1288 : decode code 1288 = .ok (.aload_n 0, 1) := by decide +kernel
theorem d_La_law_1289 : decode code 1289 = .ok (.iload 4, 2) := by decide +kernel
theorem d_La_law_1291 : decode code 1291 = .ok (.iconst 3, 1) := by decide +kernel
theorem d_La_law_1292 : decode code 1292 = .ok (.iadd, 1) := by decide +kernel
theorem d_La_law_1293 : decode code 1293 = .ok (.iaload, 1) := by decide +kernel
theorem d_La_law_1294 : decode code 1294 = .ok (.aload_n 0, 1) := by decide +kernel
theorem d_La_law_1295 : decode code 1295 = .ok (.iload 4, 2) := by decide +kernel
theorem d_La_law_1297 : decode code 1297 = .ok (.iconst 4, 1) := by decide +kernel
theorem d_La_law_1298 : decode code 1298 = .ok (.iadd, 1) := by decide +kernel
theorem d_La_law_1299 : decode code 1299 = .ok (.iaload, 1) := by decide +kernel
theorem d_La_law_1300 : decode code 1300 = .ok (.aload_n 0, 1) := by decide +kernel
theorem d_La_law_1301 : decode code 1301 = .ok (.iload 4, 2) := by decide +kernel
theorem d_La_law_1303 : decode code 1303 = .ok (.iconst 5, 1) := by decide +kernel
theorem d_La_law_1304 : decode code 1304 = .ok (.iadd, 1) := by decide +kernel
theorem d_La_law_1305 : decode code 1305 = .ok (.iaload, 1) := by decide +kernel
theorem d_La_law_1306 : decode code 1306 = .ok (.ifCond .eq 7, 3) := by decide +kernel
theorem d_La_law_1309 : decode code 1309 = .ok (.iconst 1, 1) := by decide +kernel
theorem d_La_law_1310 : decode code 1310 = .ok (.goto 4, 3) := by decide +kernel
theorem d_La_law_1313 : decode code 1313 = .ok (.iconst 0, 1) := by decide +kernel
theorem d_La_law_1314 : decode code 1314 = .ok (.aload_n 0, 1) := by decide +kernel
theorem d_La_law_1315 : decode code 1315 = .ok (.iload 4, 2) := by decide +kernel
theorem d_La_law_1317 : decode code 1317 = .ok (.bipush 6, 2) := by decide +kernel
theorem d_La_law_1319 : decode code 1319 = .ok (.iadd, 1) := by decide +kernel
theorem d_La_law_1320 : decode code 1320 = .ok (.iaload, 1) := by decide +kernel
theorem d_La_law_1321 : decode code 1321 = .ok (.invokevirtual 160, 3) := by decide +kernel
theorem d_La_law_1324 : decode code 1324 = .ok (.istore 6, 2) := by decide +kernel
theorem d_La_law_1326 : decode code 1326 = .ok (.goto 134, 3) := by decide +kernel
theorem d_La_law_1329 : decode code 1329 = .ok (.aload_n 1, 1) := by decide +kernel
theorem d_La_law_1330 : decode code 1330 = .ok (.invokevirtual 161, 3) := by decide +kernel
theorem d_La_law_1333 : decode code 1333 = .ok (.pop, 1) := by decide +kernel
theorem d_La_law_1334 : decode code 1334 = .ok (.aload_n 2, 1) := by decide +kernel
theorem d_La_law_1335 : decode code 1335 = .ok (.invokevirtual 164, 3) := by decide +kernel
theorem d_La_law_1338 : decode code 1338 = .ok (.pop, 1) := by decide +kernel
theorem d_La_law_1339 : decode code 1339 = .ok (.goto 121, 3) := by decide +kernel
theorem d_La_law_1342 : decode code 1342 = .ok (.aload_n 1, 1) := by decide +kernel
theorem d_La_law_1343 : decode code 1343 = .ok (.invokevirtual 165, 3) := by decide +kernel
theorem d_La_law_1346 : decode code 1346 = .ok (.pop, 1) := by decide +kernel
theorem d_La_law_1347 : decode code 1347 = .ok (.aload_n 2, 1) := by decide +kernel
theorem d_La_law_1348 : decode code 1348 = .ok (.invokevirtual 168, 3) := by decide +kernel
theorem d_La_law_1351 : decode code 1351 = .ok (.pop, 1) := by decide +kernel
theorem d_La_law_1352 : decode code 1352 = .ok (.goto 108, 3) := by decide +kernel
theorem d_La_law_1355 : decode code 1355 = .ok (.aload_n 1, 1) := by decide +kernel
theorem d_La_law_1356 : decode code 1356 = .ok (.aload_n 0, 1) := by decide +kernel
theorem d_La_law_1357 : decode code 1357 = .ok (.iload 4, 2) := by decide +kernel
theorem d_La_law_1359 : decode code 1359 = .ok (.iconst 1, 1) := by decide +kernel
theorem d_La_law_1360 : decode code 1360 = .ok (.iadd, 1) := by decide +kernel
theorem d_La_law_1361 : decode code 1361 = .ok (.iaload, 1) := by decide +kernel
theorem d_La_law_1362 : decode code 1362 = .ok (.aload_n 0, 1) := by decide +kernel
theorem d_La_law_1363 : decode code 1363 = .ok (.iload 4, 2) := by decide +kernel
theorem d_La_law_1365 : decode code 1365 = .ok (.iconst 2, 1) := by decide +kernel
theorem d_La_law_1366 : decode code 1366 = .ok (.iadd, 1) := by decide +kernel
theorem d_La_law_1367 : decode code 1367 = .ok (.iaload, 1) := by decide +kernel
theorem d_La_law_1368 : decode code 1368 = .ok (.aload_n 3, 1) := by decide +kernel
theorem d_La_law_1369 : decode code 1369 = .ok (.invokestatic 169, 3) := by decide +kernel
theorem d_La_law_1372 : decode code 1372 = .ok (.istore 5, 2) := by decide +kernel
theorem d_La_law_1374 : decode code 1374 = .ok (.aload_n 2, 1) := by decide +kernel
theorem d_La_law_1375 : decode code 1375 = .ok (.aload_n 0, 1) := by decide +kernel
theorem d_La_law_1376 : decode code 1376 = .ok (.iload 4, 2) := by decide +kernel
theorem d_La_law_1378 : decode code 1378 = .ok (.iconst 1, 1) := by decide +kernel
theorem d_La_law_1379 : decode code 1379 = .ok (.iadd, 1) := by decide +kernel
theorem d_La_law_1380 : decode code 1380 = .ok (.iaload, 1) := by decide +kernel
theorem d_La_law_1381 : decode code 1381 = .ok (.aload_n 0, 1) := by decide +kernel
theorem d_La_law_1382 : decode code 1382 = .ok (.iload 4, 2) := by decide +kernel
theorem d_La_law_1384 : decode code 1384 = .ok (.iconst 2, 1) := by decide +kernel
theorem d_La_law_1385 : decode code 1385 = .ok (.iadd, 1) := by decide +kernel
theorem d_La_law_1386 : decode code 1386 = .ok (.iaload, 1) := by decide +kernel
theorem d_La_law_1387 : decode code 1387 = .ok (.invokevirtual 171, 3) := by decide +kernel
theorem d_La_law_1390 : decode code 1390 = .ok (.istore 6, 2) := by decide +kernel
theorem d_La_law_1392 : decode code 1392 = .ok (.goto 68, 3) := by decide +kernel
theorem d_La_law_1395 : decode code 1395 = .ok (.aload_n 1, 1) := by decide +kernel
theorem d_La_law_1396 : decode code 1396 = .ok (.aload_n 0, 1) := by decide +kernel
theorem d_La_law_1397 : decode code 1397 = .ok (.iload 4, 2) := by decide +kernel
theorem d_La_law_1399 : decode code 1399 = .ok (.iconst 1, 1) := by decide +kernel
theorem d_La_law_1400 : decode code 1400 = .ok (.iadd, 1) := by decide +kernel
theorem d_La_law_1401 : decode code 1401 = .ok (.iaload, 1) := by decide +kernel
theorem d_La_law_1402 : decode code 1402 = .ok (.aload_n 0, 1) := by decide +kernel
theorem d_La_law_1403 : decode code 1403 = .ok (.iload 4, 2) := by decide +kernel
theorem d_La_law_1405 : decode code 1405 = .ok (.iconst 2, 1) := by decide +kernel
theorem d_La_law_1406 : decode code 1406 = .ok (.iadd, 1) := by decide +kernel
theorem d_La_law_1407 : decode code 1407 = .ok (.iaload, 1) := by decide +kernel
theorem d_La_law_1408 : decode code 1408 = .ok (.aload_n 3, 1) := by decide +kernel
theorem d_La_law_1409 : decode code 1409 = .ok (.invokestatic 172, 3) := by decide +kernel
theorem d_La_law_1412 : decode code 1412 = .ok (.istore 5, 2) := by decide +kernel
theorem d_La_law_1414 : decode code 1414 = .ok (.aload_n 2, 1) := by decide +kernel
theorem d_La_law_1415 : decode code 1415 = .ok (.aload_n 0, 1) := by decide +kernel
theorem d_La_law_1416 : decode code 1416 = .ok (.iload 4, 2) := by decide +kernel
theorem d_La_law_1418 : decode code 1418 = .ok (.iconst 1, 1) := by decide +kernel
theorem d_La_law_1419 : decode code 1419 = .ok (.iadd, 1) := by decide +kernel
theorem d_La_law_1420 : decode code 1420 = .ok (.iaload, 1) := by decide +kernel
theorem d_La_law_1421 : decode code 1421 = .ok (.aload_n 0, 1) := by decide +kernel
theorem d_La_law_1422 : decode code 1422 = .ok (.iload 4, 2) := by decide +kernel
theorem d_La_law_1424 : decode code 1424 = .ok (.iconst 2, 1) := by decide +kernel
theorem d_La_law_1425 : decode code 1425 = .ok (.iadd, 1) := by decide +kernel
theorem d_La_law_1426 : decode code 1426 = .ok (.iaload, 1) := by decide +kernel
theorem d_La_law_1427 : decode code 1427 = .ok (.invokevirtual 174, 3) := by decide +kernel
theorem d_La_law_1430 : decode code 1430 = .ok (.istore 6, 2) := by decide +kernel
theorem d_La_law_1432 : decode code 1432 = .ok (.goto 28, 3) := by decide +kernel
theorem d_La_law_1435 : decode code 1435 = .ok (.aload_n 1, 1) := by decide +kernel
theorem d_La_law_1436 : decode code 1436 = .ok (.aload_n 0, 1) := by decide +kernel
theorem d_La_law_1437 : decode code 1437 = .ok (.iload 4, 2) := by decide +kernel
theorem d_La_law_1439 : decode code 1439 = .ok (.iconst 1, 1) := by decide +kernel
theorem d_La_law_1440 : decode code 1440 = .ok (.iadd, 1) := by decide +kernel
theorem d_La_law_1441 : decode code 1441 = .ok (.iaload, 1) := by decide +kernel
theorem d_La_law_1442 : decode code 1442 = .ok (.invokevirtual 175, 3) := by decide +kernel
theorem d_La_law_1445 : decode code 1445 = .ok (.pop, 1) := by decide +kernel
theorem d_La_law_1446 : decode code 1446 = .ok (.aload_n 2, 1) := by decide +kernel
theorem d_La_law_1447 : decode code 1447 = .ok (.aload_n 0, 1) := by decide +kernel
theorem d_La_law_1448 : decode code 1448 = .ok (.iload 4, 2) := by decide +kernel
theorem d_La_law_1450 : decode code 1450 = .ok (.iconst 1, 1) := by decide +kernel
theorem d_La_law_1451 : decode code 1451 = .ok (.iadd, 1) := by decide +kernel
theorem d_La_law_1452 : decode code 1452 = .ok (.iaload, 1) := by decide +kernel
theorem d_La_law_1453 : decode code 1453 = .ok (.invokevirtual 178, 3) := by decide +kernel
theorem d_La_law_1456 : decode code 1456 = .ok (.pop, 1) := by decide +kernel
theorem d_La_law_1457 : decode code 1457 = .ok (.goto 3, 3) := by decide +kernel
theorem d_La_law_1460 : decode code 1460 = .ok (.iinc 4 7, 3) := by decide +kernel
theorem d_La_law_1463 : decode code 1463 = .ok (.goto (-1440), 3) := by decide +kernel
theorem d_La_law_1466 : decode code 1466 = .ok (.iconst 1, 1) := by decide +kernel
theorem d_La_law_1467 : decode code 1467 = .ok (.ireturn, 1) := by decide +kernel
