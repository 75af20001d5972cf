theorem d_La_law_0 : decode code 0 = .ok (.new 8, 3) := by decide +kernel
theorem d_La_law_3 : decode code 3 = .ok (.dup, 1) := by decide +kernel
theorem d_La_law_4 : decode code 4 = .ok (.invokespecial 87, 3) := by decide +kernel
theorem d_La_law_7 : decode code 7 = .ok (.astore_n 1, 1) := by decide +kernel
theorem d_La_law_8 : decode code 8 = .ok (.new 88, 3) := by decide +kernel
theorem d_La_law_11 : decode code 11 = .ok (.dup, 1) := by decide +kernel
theorem d_La_law_12 : decode code 12 = .ok (.invokespecial 90, 3) := by decide +kernel
theorem d_La_law_15 : decode code 15 = .ok (.astore_n 2, 1) := by decide +kernel
theorem d_La_law_16 : decode code 16 = .ok (.iconst 1, 1) := by decide +kernel
theorem d_La_law_17 : decode code 17 = .ok (.newarray .long, 2) := by decide +kernel
theorem d_La_law_19 : decode code 19 = .ok (.astore_n 3, 1) := by decide +kernel
theorem d_La_law_20 : decode code 20 = .ok (.iconst 0, 1) := by decide +kernel
theorem d_La_law_21 : decode code 21 = .ok (.istore 4, 2) := by decide +kernel
theorem d_La_law_23 : decode code 23 = .ok (.iload 4, 2) := by decide +kernel
theorem d_La_law_25 : decode code 25 = .ok (.aload_n 0, 1) := by decide +kernel
theorem d_La_law_26 : decode code 26 = .ok (.arraylength, 1) := by decide +kernel
theorem d_La_law_27 : decode code 27 = .ok (.bipush 7, 2) := by decide +kernel
theorem d_La_law_29 : decode code 29 = .ok (.isub, 1) := by decide +kernel
theorem d_La_law_30 : decode code 30 = .ok (.if_icmp .gt 1429, 3) := by decide +kernel
theorem d_La_law_33 : decode code 33 = .ok (.aload_n 0, 1) := by decide +kernel
theorem d_La_law_34 : decode code 34 = .ok (.iload 4, 2) := by decide +kernel
theorem d_La_law_36 : decode code 36 = .ok (.iaload, 1) := by decide +kernel
theorem d_La_law_37 : decode code 37 = .ok (.bipush 31, 2) := by decide +kernel
theorem d_La_law_39 : decode code 39 = .ok (.iand, 1) := by decide +kernel
theorem d_La_law_40 : decode code 40 = .ok (.tableswitch 1413 0 23 #[112, 164, 204, 272, 300, 364, 428, 504, 568, 632, 708, 772, 824, 864, 904, 980, 1032, 1084, 1148, 1254, 1267, 1280, 1320, 1388], 112) := by decide +kernel
theorem d_La_law_152 : decode code 152 = .ok (.aload_n 1, 1) := by decide +kernel
theorem d_La_law_153 : decode code 153 = .ok (.aload_n 0, 1) := by decide +kernel
theorem d_La_law_154 : decode code 154 = .ok (.iload 4, 2) := by decide +kernel
theorem d_La_law_156 : decode code 156 = .ok (.iconst 1, 1) := by decide +kernel
theorem d_La_law_157 : decode code 157 = .ok (.iadd, 1) := by decide +kernel
theorem d_La_law_158 : decode code 158 = .ok (.iaload, 1) := by decide +kernel
theorem d_La_law_159 : decode code 159 = .ok (.aload_n 0, 1) := by decide +kernel
theorem d_La_law_160 : decode code 160 = .ok (.iload 4, 2) := by decide +kernel
theorem d_La_law_162 : decode code 162 = .ok (.iconst 2, 1) := by decide +kernel
theorem d_La_law_163 : decode code 163 = .ok (.iadd, 1) := by decide +kernel
theorem d_La_law_164 : decode code 164 = .ok (.iaload, 1) := by decide +kernel
theorem d_La_law_165 : decode code 165 = .ok (.aload_n 0, 1) := by decide +kernel
theorem d_La_law_166 : decode code 166 = .ok (.iload 4, 2) := by decide +kernel
theorem d_La_law_168 : decode code 168 = .ok (.iconst 3, 1) := by decide +kernel
theorem d_La_law_169 : decode code 169 = .ok (.iadd, 1) := by decide +kernel
theorem d_La_law_170 : decode code 170 = .ok (.iaload, 1) := by decide +kernel
theorem d_La_law_171 : decode code 171 = .ok (.aload_n 3, 1) := by decide +kernel
theorem d_La_law_172 : decode code 172 = .ok (.invokestatic 91, 3) := by decide +kernel
theorem d_La_law_175 : decode code 175 = .ok (.istore 5, 2) := by decide +kernel
theorem d_La_law_177 : decode code 177 = .ok (.aload_n 2, 1) := by decide +kernel
theorem d_La_law_178 : decode code 178 = .ok (.aload_n 0, 1) := by decide +kernel
theorem d_La_law_179 : decode code 179 = .ok (.iload 4, 2) := by decide +kernel
theorem d_La_law_181 : decode code 181 = .ok (.iconst 1, 1) := by decide +kernel
theorem d_La_law_182 : decode code 182 = .ok (.iadd, 1) := by decide +kernel
theorem d_La_law_183 : decode code 183 = .ok (.iaload, 1) := by decide +kernel
theorem d_La_law_184 : decode code 184 = .ok (.aload_n 0, 1) := by decide +kernel
theorem d_La_law_185 : decode code 185 = .ok (.iload 4, 2) := by decide +kernel
theorem d_La_law_187 : decode code 187 = .ok (.iconst 2, 1) := by decide +kernel
theorem d_La_law_188 : decode code 188 = .ok (.iadd, 1) := by decide +kernel
theorem d_La_law_189 : decode code 189 = .ok (.iaload, 1) := by decide +kernel
theorem d_La_law_190 : decode code 190 = .ok (.aload_n 0, 1) := by decide +kernel
theorem d_La_law_191 : decode code 191 = .ok (.iload 4, 2) := by decide +kernel
theorem d_La_law_193 : decode code 193 = .ok (.iconst 3, 1) := by decide +kernel
theorem d_La_law_194 : decode code 194 = .ok (.iadd, 1) := by decide +kernel
theorem d_La_law_195 : decode code 195 = .ok (.iaload, 1) := by decide +kernel
theorem d_La_law_196 : decode code 196 = .ok (.invokevirtual 96, 3) := by decide +kernel
theorem d_La_law_199 : decode code 199 = .ok (.istore 6, 2) := by decide +kernel
theorem d_La_law_201 : decode code 201 = .ok (.goto 1252, 3) := by decide +kernel
theorem d_La_law_204 : decode code 204 = .ok (.aload_n 1, 1) := by decide +kernel
theorem d_La_law_205 : decode code 205 = .ok (.aload_n 0, 1) := by decide +kernel
theorem d_La_law_206 : decode code 206 = .ok (.iload 4, 2) := by decide +kernel
theorem d_La_law_208 : decode code 208 = .ok (.iconst 1, 1) := by decide +kernel
theorem d_La_law_209 : decode code 209 = .ok (.iadd, 1) := by decide +kernel
theorem d_La_law_210 : decode code 210 = .ok (.iaload, 1) := by decide +kernel
theorem d_La_law_211 : decode code 211 = .ok (.aload_n 0, 1) := by decide +kernel
theorem d_La_law_212 : decode code 212 = .ok (.iload 4, 2) := by decide +kernel
theorem d_La_law_214 : decode code 214 = .ok (.iconst 2, 1) := by decide +kernel
theorem d_La_law_215 : decode code 215 = .ok (.iadd, 1) := by decide +kernel
theorem d_La_law_216 : decode code 216 = .ok (.iaload, 1) := by decide +kernel
theorem d_La_law_217 : decode code 217 = .ok (.aload_n 3, 1) := by decide +kernel
theorem d_La_law_218 : decode code 218 = .ok (.invokestatic 97, 3) := by decide +kernel
theorem d_La_law_221 : decode code 221 = .ok (.istore 5, 2) := by decide +kernel
theorem d_La_law_223 : decode code 223 = .ok (.aload_n 2, 1) := by decide +kernel
theorem d_La_law_224 : decode code 224 = .ok (.aload_n 0, 1) := by decide +kernel
theorem d_La_law_225 : decode code 225 = .ok (.iload 4, 2) := by decide +kernel
theorem d_La_law_227 : decode code 227 = .ok (.iconst 1, 1) := by decide +kernel
theorem d_La_law_228 : decode code 228 = .ok (.iadd, 1) := by decide +kernel
theorem d_La_law_229 : decode code 229 = .ok (.iaload, 1) := by decide +kernel
theorem d_La_law_230 : decode code 230 = .ok (.aload_n 0, 1) := by decide +kernel
theorem d_La_law_231 : decode code 231 = .ok (.iload 4, 2) := by decide +kernel
theorem d_La_law_233 : decode code 233 = .ok (.iconst 2, 1) := by decide +kernel
theorem d_La_law_234 : decode code 234 = .ok (.iadd, 1) := by decide +kernel
theorem d_La_law_235 : decode code 235 = .ok (.iaload, 1) := by decide +kernel
theorem d_La_law_236 : decode code 236 = .ok (.invokevirtual 100, 3) := by decide +kernel
theorem d_La_law_239 : decode code 239 = .ok (.istore 6, 2) := by decide +kernel
theorem d_La_law_241 : decode code 241 = .ok (.goto 1212, 3) := by decide +kernel
theorem d_La_law_244 : decode code 244 = .ok (.aload_n 1, 1) := by decide +kernel
theorem d_La_law_245 : decode code 245 = .ok (.aload_n 0, 1) := by decide +kernel
theorem d_La_law_246 : decode code 246 = .ok (.iload 4, 2) := by decide +kernel
theorem d_La_law_248 : decode code 248 = .ok (.iconst 1, 1) := by decide +kernel
theorem d_La_law_249 : decode code 249 = .ok (.iadd, 1) := by decide +kernel
theorem d_La_law_250 : decode code 250 = .ok (.iaload, 1) := by decide +kernel
theorem d_La_law_251 : decode code 251 = .ok (.aload_n 0, 1) := by decide +kernel
theorem d_La_law_252 : decode code 252 = .ok (.iload 4, 2) := by decide +kernel
theorem d_La_law_254 : decode code 254 = .ok (.iconst 2, 1) := by decide +kernel
theorem d_La_law_255 : decode code 255 = .ok (.iadd, 1) := by decide +kernel
theorem d_La_law_256 : decode code 256 = .ok (.iaload, 1) := by decide +kernel
theorem d_La_law_257 : decode code 257 = .ok (.aload_n 0, 1) := by decide +kernel
theorem d_La_law_258 : decode code 258 = .ok (.iload 4, 2) := by decide +kernel
theorem d_La_law_260 : decode code 260 = .ok (.iconst 3, 1) := by decide +kernel
theorem d_La_law_261 : decode code 261 = .ok (.iadd, 1) := by decide +kernel
theorem d_La_law_262 : decode code 262 = .ok (.iaload, 1) := by decide +kernel
theorem d_La_law_263 : decode code 263 = .ok (.ifCond .eq 7, 3) := by decide +kernel
theorem d_La_law_266 : decode code 266 = .ok (.iconst 1, 1) := by decide +kernel
theorem d_La_law_267 : decode code 267 = .ok (.goto 4, 3) := by decide +kernel
theorem d_La_law_270 : decode code 270 = .ok (.iconst 0, 1) := by decide +kernel
theorem d_La_law_271 : decode code 271 = .ok (.aload_n 3, 1) := by decide +kernel
theorem d_La_law_272 : decode code 272 = .ok (.invokestatic 101, 3) := by decide +kernel
theorem d_La_law_275 : decode code 275 = .ok (.istore 5, 2) := by decide +kernel
theorem d_La_law_277 : decode code 277 = .ok (.aload_n 2, 1) := by decide +kernel
theorem d_La_law_278 : decode code 278 = .ok (.aload_n 0, 1) := by decide +kernel
theorem d_La_law_279 : decode code 279 = .ok (.iload 4, 2) := by decide +kernel
theorem d_La_law_281 : decode code 281 = .ok (.iconst 1, 1) := by decide +kernel
theorem d_La_law_282 : decode code 282 = .ok (.iadd, 1) := by decide +kernel
theorem d_La_law_283 : decode code 283 = .ok (.iaload, 1) := by decide +kernel
theorem d_La_law_284 : decode code 284 = .ok (.aload_n 0, 1) := by decide +kernel
theorem d_La_law_285 : decode code 285 = .ok (.iload 4, 2) := by decide +kernel
theorem d_La_law_287 : decode code 287 = .ok (.iconst 2, 1) := by decide +kernel
theorem d_La_law_288 : decode code 288 = .ok (.iadd, 1) := by decide +kernel
theorem d_La_law_289 : decode code 289 = .ok (.iaload, 1) := by decide +kernel
theorem d_La_law_290 : decode code 290 = .ok (.aload_n 0, 1) := by decide +kernel
theorem d_La_law_291 : decode code 291 = .ok (.iload 4, 2) := by decide +kernel
theorem d_La_law_293 : decode code 293 = .ok (.iconst 3, 1) := by decide +kernel
theorem d_La_law_294 : decode code 294 = .ok (.iadd, 1) := by decide +kernel
theorem d_La_law_295 : decode code 295 = .ok (.iaload, 1) := by decide +kernel
theorem d_La_law_296 : decode code 296 = .ok (.ifCond .eq 7, 3) := by decide +kernel
theorem d_La_law_299 : decode code 299 = .ok (.iconst 1, 1) := by decide +kernel
theorem d_La_law_300 : decode code 300 = .ok (.goto 4, 3) := by decide +kernel
theorem d_La_law_303 : decode code 303 = .ok (.iconst 0, 1) := by decide +kernel
theorem d_La_law_304 : decode code 304 = .ok (.invokevirtual 104, 3) := by decide +kernel
theorem d_La_law_307 : decode code 307 = .ok (.istore 6, 2) := by decide +kernel
theorem d_La_law_309 : decode code 309 = .ok (.goto 1144, 3) := by decide +kernel
theorem d_La_law_312 : decode code 312 = .ok (.aload_n 1, 1) := by decide +kernel
theorem d_La_law_313 : decode code 313 = .ok (.aload_n 0, 1) := by decide +kernel
theorem d_La_law_314 : decode code 314 = .ok (.iload 4, 2) := by decide +kernel
theorem d_La_law_316 : decode code 316 = .ok (.iconst 1, 1) := by decide +kernel
theorem d_La_law_317 : decode code 317 = .ok (.iadd, 1) := by decide +kernel
theorem d_La_law_318 : decode code 318 = .ok (.iaload, 1) := by decide +kernel
theorem d_La_law_319 : decode code 319 = .ok (.aload_n 3, 1) := by decide +kernel
theorem d_La_law_320 : decode code 320 = .ok (.invokestatic 105, 3) := by decide +kernel
theorem d_La_law_323 : decode code 323 = .ok (.istore 5, 2) := by decide +kernel
theorem d_La_law_325 : decode code 325 = .ok (.aload_n 2, 1) := by decide +kernel
theorem d_La_law_326 : decode code 326 = .ok (.aload_n 0, 1) := by decide +kernel
theorem d_La_law_327 : decode code 327 = .ok (.iload 4, 2) := by decide +kernel
theorem d_La_law_329 : decode code 329 = .ok (.iconst 1, 1) := by decide +kernel
theorem d_La_law_330 : decode code 330 = .ok (.iadd, 1) := by decide +kernel
theorem d_La_law_331 : decode code 331 = .ok (.iaload, 1) := by decide +kernel
theorem d_La_law_332 : decode code 332 = .ok (.invokevirtual 108, 3) := by decide +kernel
theorem d_La_law_335 : decode code 335 = .ok (.istore 6, 2) := by decide +kernel
theorem d_La_law_337 : decode code 337 = .ok (.goto 1116, 3) := by decide +kernel
theorem d_La_law_340 : decode code 340 = .ok (.aload_n 1, 1) := by decide +kernel
theorem d_La_law_341 : decode code 341 = .ok (.aload_n 0, 1) := by decide +kernel
theorem d_La_law_342 : decode code 342 = .ok (.iload 4, 2) := by decide +kernel
theorem d_La_law_344 : decode code 344 = .ok (.iconst 1, 1) := by decide +kernel
theorem d_La_law_345 : decode code 345 = .ok (.iadd, 1) := by decide +kernel
theorem d_La_law_346 : decode code 346 = .ok (.iaload, 1) := by decide +kernel
theorem d_La_law_347 : decode code 347 = .ok (.aload_n 0, 1) := by decide +kernel
theorem d_La_law_348 : decode code 348 = .ok (.iload 4, 2) := by decide +kernel
theorem d_La_law_350 : decode code 350 = .ok (.iconst 2, 1) := by decide +kernel
theorem d_La_law_351 : decode code 351 = .ok (.iadd, 1) := by decide +kernel
theorem d_La_law_352 : decode code 352 = .ok (.iaload, 1) := by decide +kernel
theorem d_La_law_353 : decode code 353 = .ok (.aload_n 0, 1) := by decide +kernel
theorem d_La_law_354 : decode code 354 = .ok (.iload 4, 2) := by decide +kernel
theorem d_La_law_356 : decode code 356 = .ok (.iconst 3, 1) := by decide +kernel
theorem d_La_law_357 : decode code 357 = .ok (.iadd, 1) := by decide +kernel
theorem d_La_law_358 : decode code 358 = .ok (.iaload, 1) := by decide +kernel
theorem d_La_law_359 : decode code 359 = .ok (.aload_n 0, 1) := by decide +kernel
theorem d_La_law_360 : decode code 360 = .ok (.iload 4, 2) := by decide +kernel
theorem d_La_law_362 : decode code 362 = .ok (.iconst 4, 1) := by decide +kernel
theorem d_La_law_363 : decode code 363 = .ok (.iadd, 1) := by decide +kernel
theorem d_La_law_364 : decode code 364 = .ok (.iaload, 1) := by decide +kernel
theorem d_La_law_365 : decode code 365 = .ok (.aload_n 3, 1) := by decide +kernel
theorem d_La_law_366 : decode code 366 = .ok (.invokestatic 109, 3) := by decide +kernel
theorem d_La_law_369 : decode code 369 = .ok (.istore 5, 2) := by decide +kernel
theorem d_La_law_371 : decode code 371 = .ok (.aload_n 2, 1) := by decide +kernel
theorem d_La_law_372 : decode code 372 = .ok (.aload_n 0, 1) := by decide +kernel
theorem d_La_law_373 : decode code 373 = .ok (.iload 4, 2) := by decide +kernel
theorem d_La_law_375 : decode code 375 = .ok (.iconst 1, 1) := by decide +kernel
theorem d_La_law_376 : decode code 376 = .ok (.iadd, 1) := by decide +kernel
theorem d_La_law_377 : decode code 377 = .ok (.iaload, 1) := by decide +kernel
theorem d_La_law_378 : decode code 378 = .ok (.aload_n 0, 1) := by decide +kernel
theorem d_La_law_379 : decode code 379 = .ok (.iload 4, 2) := by decide +kernel
theorem d_La_law_381 : decode code 381 = .ok (.iconst 2, 1) := by decide +kernel
theorem d_La_law_382 : decode code 382 = .ok (.iadd, 1) := by decide +kernel
theorem d_La_law_383 : decode code 383 = .ok (.iaload, 1) := by decide +kernel
theorem d_La_law_384 : decode code 384 = .ok (.aload_n 0, 1) := by decide +kernel
theorem d_La_law_385 : decode code 385 = .ok (.iload 4, 2) := by decide +kernel
theorem d_La_law_387 : decode code 387 = .ok (.iconst 3, 1) := by decide +kernel
theorem d_La_law_388 : decode code 388 = .ok (.iadd, 1) := by decide +kernel
theorem d_La_law_389 : decode code 389 = .ok (.iaload, 1) := by decide +kernel
theorem d_La_law_390 : decode code 390 = .ok (.aload_n 0, 1) := by decide +kernel
theorem d_La_law_391 : decode code 391 = .ok (.iload 4, 2) := by decide +kernel
theorem d_La_law_393 : decode code 393 = .ok (.iconst 4, 1) := by decide +kernel
theorem d_La_law_394 : decode code 394 = .ok (.iadd, 1) := by decide +kernel
theorem d_La_law_395 : decode code 395 = .ok (.iaload, 1) := by decide +kernel
theorem d_La_law_396 : decode code 396 = .ok (.invokevirtual 112, 3) := by decide +kernel
theorem d_La_law_399 : decode code 399 = .ok (.istore 6, 2) := by decide +kernel
theorem d_La_law_401 : decode code 401 = .ok (.goto 1052, 3) := by decide +kernel
theorem d_La_law_404 : decode code 404 = .ok (.aload_n 1, 1) := by decide +kernel
theorem d_La_law_405 : decode code 405 = .ok (.aload_n 0, 1) := by decide +kernel
theorem d_La_law_406 : decode code 406 = .ok (.iload 4, 2) := by decide +kernel
theorem d_La_law_408 : decode code 408 = .ok (.iconst 1, 1) := by decide +kernel
theorem d_La_law_409 : decode code 409 = .ok (.iadd, 1) := by decide +kernel
theorem d_La_law_410 : decode code 410 = .ok (.iaload, 1) := by decide +kernel
theorem d_La_law_411 : decode code 411 = .ok (.aload_n 0, 1) := by decide +kernel
theorem d_La_law_412 : decode code 412 = .ok (.iload 4, 2) := by decide +kernel
theorem d_La_law_414 : decode code 414 = .ok (.iconst 2, 1) := by decide +kernel
theorem d_La_law_415 : decode code 415 = .ok (.iadd, 1) := by decide +kernel
theorem d_La_law_416 : decode code 416 = .ok (.iaload, 1) := by decide +kernel
theorem d_La_law_417 : decode code 417 = .ok (.aload_n 0, 1) := by decide +kernel
theorem d_La_law_418 : decode code 418 = .ok (.iload 4, 2) := by decide +kernel
theorem d_La_law_420 : decode code 420 = .ok (.iconst 3, 1) := by decide +kernel
theorem d_La_law_421 : decode code 421 = .ok (.iadd, 1) := by decide +kernel
theorem d_La_law_422 : decode code 422 = .ok (.iaload, 1) := by decide +kernel
theorem d_La_law_423 : decode code 423 = .ok (.aload_n 0, 1) := by decide +kernel
theorem d_La_law_424 : decode code 424 = .ok (.iload 4, 2) := by decide +kernel
theorem d_La_law_426 : decode code 426 = .ok (.iconst 4, 1) := by decide +kernel
theorem d_La_law_427 : decode code 427 = .ok (.iadd, 1) := by decide +kernel
theorem d_La_law_428 : decode code 428 = .ok (.iaload, 1) := by decide +kernel
theorem d_La_law_429 : decode code 429 = .ok (.aload_n 3, 1) := by decide +kernel
theorem d_La_law_430 : decode code 430 = .ok (.invokestatic 113, 3) := by decide +kernel
theorem d_La_law_433 : decode code 433 = .ok (.istore 5, 2) := by decide +kernel
theorem d_La_law_435 : decode code 435 = .ok (.aload_n 2, 1) := by decide +kernel
theorem d_La_law_436 : decode code 436 = .ok (.aload_n 0, 1) := by decide +kernel
theorem d_La_law_437 : decode code 437 = .ok (.iload 4, 2) := by decide +kernel
theorem d_La_law_439 : decode code 439 = .ok (.iconst 1, 1) := by decide +kernel
theorem d_La_law_440 : decode code 440 = .ok (.iadd, 1) := by decide +kernel
theorem d_La_law_441 : decode code 441 = .ok (.iaload, 1) := by decide +kernel
theorem d_La_law_442 : decode code 442 = .ok (.aload_n 0, 1) := by decide +kernel
theorem d_La_law_443 : decode code 443 = .ok (.iload 4, 2) := by decide +kernel
theorem d_La_law_445 : decode code 445 = .ok (.iconst 2, 1) := by decide +kernel
theorem d_La_law_446 : decode code 446 = .ok (.iadd, 1) := by decide +kernel
theorem d_La_law_447 : decode code 447 = .ok (.iaload, 1) := by decide +kernel
theorem d_La_law_448 : decode code 448 = .ok (.aload_n 0, 1) := by decide +kernel
theorem d_La_law_449 : decode code 449 = .ok (.iload 4, 2) := by decide +kernel
theorem d_La_law_451 : decode code 451 = .ok (.iconst 3, 1) := by decide +kernel
theorem d_La_law_452 : decode code 452 = .ok (.iadd, 1) := by decide +kernel
theorem d_La_law_453 : decode code 453 = .ok (.iaload, 1) := by decide +kernel
theorem d_La_law_454 : decode code 454 = .ok (.aload_n 0, 1) := by decide +kernel
theorem d_La_law_455 : decode code 455 = .ok (.iload 4, 2) := by decide +kernel
theorem d_La_law_457 : decode code 457 = .ok (.iconst 4, 1) := by decide +kernel
theorem d_La_law_458 : decode code 458 = .ok (.iadd, 1) := by decide +kernel
theorem d_La_law_459 : decode code 459 = .ok (.iaload, 1) := by decide +kernel
theorem d_La_law_460 : decode code 460 = .ok (.invokevirtual 115, 3) := by decide +kernel
theorem d_La_law_463 : decode code 463 = .ok (.istore 6, 2) := by decide +kernel
theorem d_La_law_465 : decode code 465 = .ok (.goto 988, 3) := by decide +kernel
theorem d_La_law_468 : decode code 468 = .ok (.aload_n 1, 1) := by decide +kernel
theorem d_La_law_469 : decode code 469 = .ok (.aload_n 0, 1) := by decide +kernel
theorem d_La_law_470 : decode code 470 = .ok (.iload 4, 2) := by decide +kernel
theorem d_La_law_472 : decode code 472 = .ok (.iconst 1, 1) := by decide +kernel
theorem d_La_law_473 : decode code 473 = .ok (.iadd, 1) := by decide +kernel
theorem d_La_law_474 : decode code 474 = .ok (.iaload, 1) := by decide +kernel
theorem d_La_law_475 : decode code 475 = .ok (.aload_n 0, 1) := by decide +kernel
theorem d_La_law_476 : decode code 476 = .ok (.iload 4, 2) := by decide +kernel
theorem d_La_law_478 : decode code 478 = .ok (.iconst 2, 1) := by decide +kernel
theorem d_La_law_479 : decode code 479 = .ok (.iadd, 1) := by decide +kernel
theorem d_La_law_480 : decode code 480 = .ok (.iaload, 1) := by decide +kernel
theorem d_La_law_481 : decode code 481 = .ok (.aload_n 0, 1) := by decide +kernel
theorem d_La_law_482 : decode code 482 = .ok (.iload 4, 2) := by decide +kernel
theorem d_La_law_484 : decode code 484 = .ok (.iconst 3, 1) := by decide +kernel
theorem d_La_law_485 : decode code 485 = .ok (.iadd, 1) := by decide +kernel
theorem d_La_law_486 : decode code 486 = .ok (.iaload, 1) := by decide +kernel
theorem d_La_law_487 : decode code 487 = .ok (.aload_n 0, 1) := by decide +kernel
theorem d_La_law_488 : decode code 488 = .ok (.iload 4, 2) := by decide +kernel
theorem d_La_law_490 : decode code 490 = .ok (.iconst 4, 1) := by decide +kernel
theorem d_La_law_491 : decode code 491 = .ok (.iadd, 1) := by decide +kernel
theorem d_La_law_492 : decode code 492 = .ok (.iaload, 1) := by decide +kernel
theorem d_La_law_493 : decode code 493 = .ok (.aload_n 0, 1) := by decide +kernel
theorem d_La_law_494 : decode code 494 = .ok (.iload 4, 2) := by decide +kernel
theorem d_La_law_496 : decode code 496 = .ok (.iconst 5, 1) := by decide +kernel
theorem d_La_law_497 : decode code 497 = .ok (.iadd, 1) := by decide +kernel
theorem d_La_law_498 : decode code 498 = .ok (.iaload, 1) := by decide +kernel
theorem d_La_law_499 : decode code 499 = .ok (.aload_n 3, 1) := by decide +kernel
theorem d_La_law_500 : decode code 500 = .ok (.invokestatic 116, 3) := by decide +kernel
theorem d_La_law_503 : decode code 503 = .ok (.istore 5, 2) := by decide +kernel
theorem d_La_law_505 : decode code 505 = .ok (.aload_n 2, 1) := by decide +kernel
theorem d_La_law_506 : decode code 506 = .ok (.aload_n 0, 1) := by decide +kernel
theorem d_La_law_507 : decode code 507 = .ok (.iload 4, 2) := by decide +kernel
theorem d_La_law_509 : decode code 509 = .ok (.iconst 1, 1) := by decide +kernel
theorem d_La_law_510 : decode code 510 = .ok (.iadd, 1) := by decide +kernel
theorem d_La_law_511 : decode code 511 = .ok (.iaload, 1) := by decide +kernel
theorem d_La_law_512 : decode code 512 = .ok (.aload_n 0, 1) := by decide +kernel
theorem d_La_law_513 : decode code 513 = .ok (.iload 4, 2) := by decide +kernel
theorem d_La_law_515 : decode code 515 = .ok (.iconst 2, 1) := by decide +kernel
theorem d_La_law_516 : decode code 516 = .ok (.iadd, 1) := by decide +kernel
theorem d_La_law_517 : decode code 517 = .ok (.iaload, 1) := by decide +kernel
theorem d_La_law_518 : decode code 518 = .ok (.aload_n 0, 1) := by decide +kernel
theorem d_La_law_519 : decode code 519 = .ok (.iload 4, 2) := by decide +kernel
theorem d_La_law_521 : decode code 521 = .ok (.iconst 3, 1) := by decide +kernel
theorem d_La_law_522 : decode code 522 = .ok (.iadd, 1) := by decide +kernel
theorem d_La_law_523 : decode code 523 = .ok (.iaload, 1) := by decide +kernel
theorem d_La_law_524 : decode code 524 = .ok (.aload_n 0, 1) := by decide +kernel
theorem d_La_law_525 : decode code 525 = .ok (.iload 4, 2) := by decide +kernel
theorem d_La_law_527 : decode code 527 = .ok (.iconst 4, 1) := by decide +kernel
theorem d_La_law_528 : decode code 528 = .ok (.iadd, 1) := by decide +kernel
theorem d_La_law_529 : decode code 529 = .ok (.iaload, 1) := by decide +kernel
theorem d_La_law_530 : decode code 530 = .ok (.aload_n 0, 1) := by decide +kernel
theorem d_La_law_531 : decode code 531 = .ok (.iload 4, 2) := by decide +kernel
theorem d_La_law_533 : decode code 533 = .ok (.iconst 5, 1) := by decide +kernel
theorem d_La_law_534 : decode code 534 = .ok (.iadd, 1) := by decide +kernel
theorem d_La_law_535 : decode code 535 = .ok (.iaload, 1) := by decide +kernel
theorem d_La_law_536 : decode code 536 = .ok (.invokevirtual 119, 3) := by decide +kernel
theorem d_La_law_539 : decode code 539 = .ok (.istore 6, 2) := by decide +kernel
theorem d_La_law_541 : decode code 541 = .ok (.goto 912, 3) := by decide +kernel
theorem d_La_law_544 : decode code 544 = .ok (.aload_n 1, 1) := by decide +kernel
theorem d_La_law_545 : decode code 545 = .ok (.aload_n 0, 1) := by decide +kernel
theorem d_La_law_546 : decode code 546 = .ok (.iload 4, 2) := by decide +kernel
theorem d_La_law_548 : decode code 548 = .ok (.iconst 1, 1) := by decide +kernel
theorem d_La_law_549 : decode code 549 = .ok (.iadd, 1) := by decide +kernel
theorem d_La_law_550 : decode code 550 = .ok (.iaload, 1) := by decide +kernel
theorem d_La_law_551 : decode code 551 = .ok (.aload_n 0, 1) := by decide +kernel
theorem d_La_law_552 : decode code 552 = .ok (.iload 4, 2) := by decide +kernel
theorem d_La_law_554 : decode code 554 = .ok (.iconst 2, 1) := by decide +kernel
theorem d_La_law_555 : decode code 555 = .ok (.iadd, 1) := by decide +kernel
theorem d_La_law_556 : decode code 556 = .ok (.iaload, 1) := by decide +kernel
theorem d_La_law_557 : decode code 557 = .ok (.aload_n 0, 1) := by decide +kernel
theorem d_La_law_558 : decode code 558 = .ok (.iload 4, 2) := by decide +kernel
theorem d_La_law_560 : decode code 560 = .ok (.iconst 3, 1) := by decide +kernel
theorem d_La_law_561 : decode code 561 = .ok (.iadd, 1) := by decide +kernel
theorem d_La_law_562 : decode code 562 = .ok (.iaload, 1) := by decide +kernel
theorem d_La_law_563 : decode code 563 = .ok (.aload_n 0, 1) := by decide +kernel
theorem d_La_law_564 : decode code 564 = .ok (.iload 4, 2) := by decide +kernel
theorem d_La_law_566 : decode code 566 = .ok (.iconst 4, 1) := by decide +kernel
theorem d_La_law_567 : decode code 567 = .ok (.iadd, 1) := by decide +kernel
theorem d_La_law_568 : decode code 568 = .ok (.iaload, 1) := by decide +kernel
theorem d_La_law_569 : decode code 569 = .ok (.aload_n 3, 1) := by decide +kernel
theorem d_La_law_570 : decode code 570 = .ok (.invokestatic 120, 3) := by decide +kernel
theorem d_La_law_573 : decode code 573 = .ok (.istore 5, 2) := by decide +kernel
theorem d_La_law_575 : decode code 575 = .ok (.aload_n 2, 1) := by decide +kernel
theorem d_La_law_576 : decode code 576 = .ok (.aload_n 0, 1) := by decide +kernel
theorem d_La_law_577 : decode code 577 = .ok (.iload 4, 2) := by decide +kernel
theorem d_La_law_579 : decode code 579 = .ok (.iconst 1, 1) := by decide +kernel
theorem d_La_law_580 : decode code 580 = .ok (.iadd, 1) := by decide +kernel
theorem d_La_law_581 : decode code 581 = .ok (.iaload, 1) := by decide +kernel
theorem d_La_law_582 : decode code 582 = .ok (.aload_n 0, 1) := by decide +kernel
theorem d_La_law_583 : decode code 583 = .ok (.iload 4, 2) := by decide +kernel
theorem d_La_law_585 : decode code 585 = .ok (.iconst 2, 1) := by decide +kernel
theorem d_La_law_586 : decode code 586 = .ok (.iadd, 1) := by decide +kernel
theorem d_La_law_587 : decode code 587 = .ok (.iaload, 1) := by decide +kernel
theorem d_La_law_588 : decode code 588 = .ok (.aload_n 0, 1) := by decide +kernel
theorem d_La_law_589 : decode code 589 = .ok (.iload 4, 2) := by decide +kernel
theorem d_La_law_591 : decode code 591 = .ok (.iconst 3, 1) := by decide +kernel
theorem d_La_law_592 : decode code 592 = .ok (.iadd, 1) := by decide +kernel
theorem d_La_law_593 : decode code 593 = .ok (.iaload, 1) := by decide +kernel
theorem d_La_law_594 : decode code 594 = .ok (.aload_n 0, 1) := by decide +kernel
theorem d_La_law_595 : decode code 595 = .ok (.iload 4, 2) := by decide +kernel
theorem d_La_law_597 : decode code 597 = .ok (.iconst 4, 1) := by decide +kernel
theorem d_La_law_598 : decode code 598 = .ok (.iadd, 1) := by decide +kernel
theorem d_La_law_599 : decode code 599 = .ok (.iaload, 1) := by decide +kernel
theorem d_La_law_600 : decode code 600 = .ok (.invokevirtual 122, 3) := by decide +kernel
theorem d_La_law_603 : decode code 603 = .ok (.istore 6, 2) := by decide +kernel
theorem d_La_law_605 : decode code 605 = .ok (.goto 848, 3) := by decide +kernel
theorem d_La_law_608 : decode code 608 = .ok (.aload_n 1, 1) := by decide +kernel
theorem d_La_law_609 : decode code 609 = .ok (.aload_n 0, 1) := by decide +kernel
theorem d_La_law_610 : decode code 610 = .ok (.iload 4, 2) := by decide +kernel
theorem d_La_law_612 : decode code 612 = .ok (.iconst 1, 1) := by decide +kernel
theorem d_La_law_613 : decode code 613 = .ok (.iadd, 1) := by decide +kernel
theorem d_La_law_614 : decode code 614 = .ok (.iaload, 1) := by decide +kernel
theorem d_La_law_615 : decode code 615 = .ok (.aload_n 0, 1) := by decide +kernel
theorem d_La_law_616 : decode code 616 = .ok (.iload 4, 2) := by decide +kernel
theorem d_La_law_618 : decode code 618 = .ok (.iconst 2, 1) := by decide +kernel
theorem d_La_law_619 : decode code 619 = .ok (.iadd, 1) := by decide +kernel
theorem d_La_law_620 : decode code 620 = .ok (.iaload, 1) := by decide +kernel
theorem d_La_law_621 : decode code 621 = .ok (.aload_n 0, 1) := by decide +kernel
theorem d_La_law_622 : decode code 622 = .ok (.iload 4, 2) := by decide +kernel
theorem d_La_law_624 : decode code 624 = .ok (.iconst 3, 1) := by decide +kernel
theorem d_La_law_625 : decode code 625 = .ok (.iadd, 1) := by decide +kernel
theorem d_La_law_626 : decode code 626 = .ok (.iaload, 1) := by decide +kernel
theorem d_La_law_627 : decode code 627 = .ok (.aload_n 0, 1) := by decide +kernel
theorem d_La_law_628 : decode code 628 = .ok (.iload 4, 2) := by decide +kernel
theorem d_La_law_630 : decode code 630 = .ok (.iconst 4, 1) := by decide +kernel
theorem d_La_law_631 : decode code 631 = .ok (.iadd, 1) := by decide +kernel
theorem d_La_law_632 : decode code 632 = .ok (.iaload, 1) := by decide +kernel
theorem d_La_law_633 : decode code 633 = .ok (.aload_n 3, 1) := by decide +kernel
theorem d_La_law_634 : decode code 634 = .ok (.invokestatic 123, 3) := by decide +kernel
theorem d_La_law_637 : decode code 637 = .ok (.istore 5, 2) := by decide +kernel
theorem d_La_law_639 : decode code 639 = .ok (.aload_n 2, 1) := by decide +kernel
theorem d_La_law_640 : decode code 640 = .ok (.aload_n 0, 1) := by decide +kernel
theorem d_La_law_641 : decode code 641 = .ok (.iload 4, 2) := by decide +kernel
theorem d_La_law_643 : decode code 643 = .ok (.iconst 1, 1) := by decide +kernel
theorem d_La_law_644 : decode code 644 = .ok (.iadd, 1) := by decide +kernel
theorem d_La_law_645 : decode code 645 = .ok (.iaload, 1) := by decide +kernel
theorem d_La_law_646 : decode code 646 = .ok (.aload_n 0, 1) := by decide +kernel
theorem d_La_law_647 : decode code 647 = .ok (.iload 4, 2) := by decide +kernel
theorem d_La_law_649 : decode code 649 = .ok (.iconst 2, 1) := by decide +kernel
theorem d_La_law_650 : decode code 650 = .ok (.iadd, 1) := by decide +kernel
theorem d_La_law_651 : decode code 651 = .ok (.iaload, 1) := by decide +kernel
theorem d_La_law_652 : decode code 652 = .ok (.aload_n 0, 1) := by decide +kernel
theorem d_La_law_653 : decode code 653 = .ok (.iload 4, 2) := by decide +kernel
theorem d_La_law_655 : decode code 655 = .ok (.iconst 3, 1) := by decide +kernel
theorem d_La_law_656 : decode code 656 = .ok (.iadd, 1) := by decide +kernel
theorem d_La_law_657 : decode code 657 = .ok (.iaload, 1) := by decide +kernel
theorem d_La_law_658 : decode code 658 = .ok (.aload_n 0, 1) := by decide +kernel
theorem d_La_law_659 : decode code 659 = .ok (.iload 4, 2) := by decide +kernel
theorem d_La_law_661 : decode code 661 = .ok (.iconst 4, 1) := by decide +kernel
theorem d_La_law_662 : decode code 662 = .ok (.iadd, 1) := by decide +kernel
theorem d_La_law_663 : decode code 663 = .ok (.iaload, 1) := by decide +kernel
theorem d_La_law_664 : decode code 664 = .ok (.invokevirtual 125, 3) := by decide +kernel
theorem d_La_law_667 : decode code 667 = .ok (.istore 6, 2) := by decide +kernel
theorem d_La_law_669 : decode code 669 = .ok (.goto 784, 3) := by decide +kernel
theorem d_La_law_672 : decode code 672 = .ok (.aload_n 1, 1) := by decide +kernel
theorem d_La_law_673 : decode code 673 = .ok (.aload_n 0, 1) := by decide +kernel
theorem d_La_law_674 : decode code 674 = .ok (.iload 4, 2) := by decide +kernel
theorem d_La_law_676 : decode code 676 = .ok (.iconst 1, 1) := by decide +kernel
theorem d_La_law_677 : decode code 677 = .ok (.iadd, 1) := by decide +kernel
theorem d_La_law_678 : decode code 678 = .ok (.iaload, 1) := by decide +kernel
theorem d_La_law_679 : decode code 679 = .ok (.aload_n 0, 1) := by decide +kernel
theorem d_La_law_680 : decode code 680 = .ok (.iload 4, 2) := by decide +kernel
theorem d_La_law_682 : decode code 682 = .ok (.iconst 2, 1) := by decide +kernel
theorem d_La_law_683 : decode code 683 = .ok (.iadd, 1) := by decide +kernel
theorem d_La_law_684 : decode code 684 = .ok (.iaload, 1) := by decide +kernel
theorem d_La_law_685 : decode code 685 = .ok (.aload_n 0, 1) := by decide +kernel
theorem d_La_law_686 : decode code 686 = .ok (.iload 4, 2) := by decide +kernel
theorem d_La_law_688 : decode code 688 = .ok (.iconst 3, 1) := by decide +kernel
theorem d_La_law_689 : decode code 689 = .ok (.iadd, 1) := by decide +kernel
theorem d_La_law_690 : decode code 690 = .ok (.iaload, 1) := by decide +kernel
theorem d_La_law_691 : decode code 691 = .ok (.aload_n 0, 1) := by decide +kernel
theorem d_La_law_692 : decode code 692 = .ok (.iload 4, 2) := by decide +kernel
theorem d_La_law_694 : decode code 694 = .ok (.iconst 4, 1) := by decide +kernel
theorem d_La_law_695 : decode code 695 = .ok (.iadd, 1) := by decide +kernel
theorem d_La_law_696 : decode code 696 = .ok (.iaload, 1) := by decide +kernel
theorem d_La_law_697 : decode code 697 = .ok (.aload_n 0, 1) := by decide +kernel
theorem d_La_law_698 : decode code 698 = .ok (.iload 4, 2) := by decide +kernel
theorem d_La_law_700 : decode code 700 = .ok (.iconst 5, 1) := by decide +kernel
theorem d_La_law_701 : decode code 701 = .ok (.iadd, 1) := by decide +kernel
theorem d_La_law_702 : decode code 702 = .ok (.iaload, 1) := by decide +kernel
theorem d_La_law_703 : decode code 703 = .ok (.aload_n 3, 1) := by decide +kernel
theorem d_La_law_704 : decode code 704 = .ok (.invokestatic 126, 3) := by decide +kernel
theorem d_La_law_707 : decode code 707 = .ok (.istore 5, 2) := by decide +kernel
theorem d_La_law_709 : decode code 709 = .ok (.aload_n 2, 1) := by decide +kernel
theorem d_La_law_710 : decode code 710 = .ok (.aload_n 0, 1) := by decide +kernel
theorem d_La_law_711 : decode code 711 = .ok (.iload 4, 2) := by decide +kernel
theorem d_La_law_713 : decode code 713 = .ok (.iconst 1, 1) := by decide +kernel
theorem d_La_law_714 : decode code 714 = .ok (.iadd, 1) := by decide +kernel
theorem d_La_law_715 : decode code 715 = .ok (.iaload, 1) := by decide +kernel
theorem d_La_law_716 : decode code 716 = .ok (.aload_n 0, 1) := by decide +kernel
theorem d_La_law_717 : decode code 717 = .ok (.iload 4, 2) := by decide +kernel
theorem d_La_law_719 : decode code 719 = .ok (.iconst 2, 1) := by decide +kernel
theorem d_La_law_720 : decode code 720 = .ok (.iadd, 1) := by decide +kernel
theorem d_La_law_721 : decode code 721 = .ok (.iaload, 1) := by decide +kernel
theorem d_La_law_722 : decode code 722 = .ok (.aload_n 0, 1) := by decide +kernel
theorem d_La_law_723 : decode code 723 = .ok (.iload 4, 2) := by decide +kernel
theorem d_La_law_725 : decode code 725 = .ok (.iconst 3, 1) := by decide +kernel
theorem d_La_law_726 : decode code 726 = .ok (.iadd, 1) := by decide +kernel
theorem d_La_law_727 : decode code 727 = .ok (.iaload, 1) := by decide +kernel
theorem d_La_law_728 : decode code 728 = .ok (.aload_n 0, 1) := by decide +kernel
theorem d_La_law_729 : decode code 729 = .ok (.iload 4, 2) := by decide +kernel
theorem d_La_law_731 : decode code 731 = .ok (.iconst 4, 1) := by decide +kernel
theorem d_La_law_732 : decode code 732 = .ok (.iadd, 1) := by decide +kernel
theorem d_La_law_733 : decode code 733 = .ok (.iaload, 1) := by decide +kernel
theorem d_La_law_734 : decode code 734 = .ok (.aload_n 0, 1) := by decide +kernel
theorem d_La_law_735 : decode code 735 = .ok (.iload 4, 2) := by decide +kernel
theorem d_La_law_737 : decode code 737 = .ok (.iconst 5, 1) := by decide +kernel
theorem d_La_law_738 : decode code 738 = .ok (.iadd, 1) := by decide +kernel
theorem d_La_law_739 : decode code 739 = .ok (.iaload, 1) := by decide +kernel
theorem d_La_law_740 : decode code 740 = .ok (.invokevirtual 128, 3) := by decide +kernel
theorem d_La_law_743 : decode code 743 = .ok (.istore 6, 2) := by decide +kernel
theorem d_La_law_745 : decode code 745 = .ok (.goto 708, 3) := by decide +kernel
theorem d_La_law_748 : decode code 748 = .ok (.aload_n 1, 1) := by decide +kernel
theorem d_La_law_749 : decode code 749 = .ok (.aload_n 0, 1) := by decide +kernel
theorem d_La_law_750 : decode code 750 = .ok (.iload 4, 2) := by decide +kernel
theorem d_La_law_752 : decode code 752 = .ok (.iconst 1, 1) := by decide +kernel
theorem d_La_law_753 : decode code 753 = .ok (.iadd, 1) := by decide +kernel
theorem d_La_law_754 : decode code 754 = .ok (.iaload, 1) := by decide +kernel
theorem d_La_law_755 : decode code 755 = .ok (.aload_n 0, 1) := by decide +kernel
theorem d_La_law_756 : decode code 756 = .ok (.iload 4, 2) := by decide +kernel
theorem d_La_law_758 : decode code 758 = .ok (.iconst 2, 1) := by decide +kernel
theorem d_La_law_759 : decode code 759 = .ok (.iadd, 1) := by decide +kernel
theorem d_La_law_760 : decode code 760 = .ok (.iaload, 1) := by decide +kernel
theorem d_La_law_761 : decode code 761 = .ok (.aload_n 0, 1) := by decide +kernel
theorem d_La_law_762 : decode code 762 = .ok (.iload 4, 2) := by decide +kernel
theorem d_La_law_764 : decode code 764 = .ok (.iconst 3, 1) := by decide +kernel
theorem d_La_law_765 : decode code 765 = .ok (.iadd, 1) := by decide +kernel
theorem d_La_law_766 : decode code 766 = .ok (.iaload, 1) := by decide +kernel
theorem d_La_law_767 : decode code 767 = .ok (.aload_n 0, 1) := by decide +kernel
theorem d_La_law_768 : decode code 768 = .ok (.iload 4, 2) := by decide +kernel
theorem d_La_law_770 : decode code 770 = .ok (.iconst 4, 1) := by decide +kernel
theorem d_La_law_771 : decode code 771 = .ok (.iadd, 1) := by decide +kernel
theorem d_La_law_772 : decode code 772 = .ok (.iaload, 1) := by decide +kernel
theorem d_La_law_773 : decode code 773 = .ok (.aload_n 3, 1) := by decide +kernel
theorem d_La_law_774 : decode code 774 = .ok (.invokestatic 129, 3) := by decide +kernel
theorem d_La_law_777 : decode code 777 = .ok (.istore 5, 2) := by decide +kernel
theorem d_La_law_779 : decode code 779 = .ok (.aload_n 2, 1) := by decide +kernel
theorem d_La_law_780 : decode code 780 = .ok (.aload_n 0, 1) := by decide +kernel
theorem d_La_law_781 : decode code 781 = .ok (.iload 4, 2) := by decide +kernel
theorem d_La_law_783 : decode code 783 = .ok (.iconst 1, 1) := by decide +kernel
theorem d_La_law_784 : decode code 784 = .ok (.iadd, 1) := by decide +kernel
theorem d_La_law_785 : decode code 785 = .ok (.iaload, 1) := by decide +kernel
theorem d_La_law_786 : decode code 786 = .ok (.aload_n 0, 1) := by decide +kernel
theorem d_La_law_787 : decode code 787 = .ok (.iload 4, 2) := by decide +kernel
theorem d_La_law_789 : decode code 789 = .ok (.iconst 2, 1) := by decide +kernel
theorem d_La_law_790 : decode code 790 = .ok (.iadd, 1) := by decide +kernel
theorem d_La_law_791 : decode code 791 = .ok (.iaload, 1) := by decide +kernel
theorem d_La_law_792 : decode code 792 = .ok (.aload_n 0, 1) := by decide +kernel
theorem d_La_law_793 : decode code 793 = .ok (.iload 4, 2) := by decide +kernel
theorem d_La_law_795 : decode code 795 = .ok (.iconst 3, 1) := by decide +kernel
theorem d_La_law_796 : decode code 796 = .ok (.iadd, 1) := by decide +kernel
theorem d_La_law_797 : decode code 797 = .ok (.iaload, 1) := by decide +kernel
theorem d_La_law_798 : decode code 798 = .ok (.aload_n 0, 1) := by decide +kernel
theorem d_La_law_799 : decode code 799 = .ok (.iload 4, 2) := by decide +kernel
theorem d_La_law_801 : decode code 801 = .ok (.iconst 4, 1) := by decide +kernel
theorem d_La_law_802 : decode code 802 = .ok (.iadd, 1) := by decide +kernel
theorem d_La_law_803 : decode code 803 = .ok (.iaload, 1) := by decide +kernel
theorem d_La_law_804 : decode code 804 = .ok (.invokevirtual 131, 3) := by decide +kernel
theorem d_La_law_807 : decode code 807 = .ok (.istore 6, 2) := by decide +kernel
theorem d_La_law_809 : decode code 809 = .ok (.goto 644, 3) := by decide +kernel
theorem d_La_law_812 : decode code 812 = .ok (.aload_n 1, 1) := by decide +kernel
theorem d_La_law_813 : decode code 813 = .ok (.aload_n 0, 1) := by decide +kernel
theorem d_La_law_814 : decode code 814 = .ok (.iload 4, 2) := by decide +kernel
theorem d_La_law_816 : decode code 816 = .ok (.iconst 1, 1) := by decide +kernel
theorem d_La_law_817 : decode code 817 = .ok (.iadd, 1) := by decide +kernel
theorem d_La_law_818 : decode code 818 = .ok (.iaload, 1) := by decide +kernel
theorem d_La_law_819 : decode code 819 = .ok (.aload_n 0, 1) := by decide +kernel
theorem d_La_law_820 : decode code 820 = .ok (.iload 4, 2) := by decide +kernel
theorem d_La_law_822 : decode code 822 = .ok (.iconst 2, 1) := by decide +kernel
theorem d_La_law_823 : decode code 823 = .ok (.iadd, 1) := by decide +kernel
theorem d_La_law_824 : decode code 824 = .ok (.iaload, 1) := by decide +kernel
theorem d_La_law_825 : decode code 825 = .ok (.aload_n 0, 1) := by decide +kernel
theorem d_La_law_826 : decode code 826 = .ok (.iload 4, 2) := by decide +kernel
theorem d_La_law_828 : decode code 828 = .ok (.iconst 3, 1) := by decide +kernel
theorem d_La_law_829 : decode code 829 = .ok (.iadd, 1) := by decide +kernel
theorem d_La_law_830 : decode code 830 = .ok (.iaload, 1) := by decide +kernel
theorem d_La_law_831 : decode code 831 = .ok (.aload_n 3, 1) := by decide +kernel
theorem d_La_law_832 : decode code 832 = .ok (.invokestatic 132, 3) := by decide +kernel
theorem d_La_law_835 : decode code 835 = .ok (.istore 5, 2) := by decide +kernel
theorem d_La_law_837 : decode code 837 = .ok (.aload_n 2, 1) := by decide +kernel
theorem d_La_law_838 : decode code 838 = .ok (.aload_n 0, 1) := by decide +kernel
theorem d_La_law_839 : decode code 839 = .ok (.iload 4, 2) := by decide +kernel
theorem d_La_law_841 : decode code 841 = .ok (.iconst 1, 1) := by decide +kernel
theorem d_La_law_842 : decode code 842 = .ok (.iadd, 1) := by decide +kernel
theorem d_La_law_843 : decode code 843 = .ok (.iaload, 1) := by decide +kernel
theorem d_La_law_844 : decode code 844 = .ok (.aload_n 0, 1) := by decide +kernel
theorem d_La_law_845 : decode code 845 = .ok (.iload 4, 2) := by decide +kernel
theorem d_La_law_847 : decode code 847 = .ok (.iconst 2, 1) := by decide +kernel
theorem d_La_law_848 : decode code 848 = .ok (.iadd, 1) := by decide +kernel
theorem d_La_law_849 : decode code 849 = .ok (.iaload, 1) := by decide +kernel
theorem d_La_law_850 : decode code 850 = .ok (.aload_n 0, 1) := by decide +kernel
theorem d_La_law_851 : decode code 851 = .ok (.iload 4, 2) := by decide +kernel
theorem d_La_law_853 : decode code 853 = .ok (.iconst 3, 1) := by decide +kernel
theorem d_La_law_854 : decode code 854 = .ok (.iadd, 1) := by decide +kernel
theorem d_La_law_855 : decode code 855 = .ok (.iaload, 1) := by decide +kernel
theorem d_La_law_856 : decode code 856 = .ok (.invokevirtual 134, 3) := by decide +kernel
theorem d_La_law_859 : decode code 859 = .ok (.istore 6, 2) := by decide +kernel
theorem d_La_law_861 : decode code 861 = .ok (.goto 592, 3) := by decide +kernel
theorem d_La_law_864 : decode code 864 = .ok (.aload_n 1, 1) := by decide +kernel
theorem d_La_law_865 : decode code 865 = .ok (.aload_n 0, 1) := by decide +kernel
theorem d_La_law_866 : decode code 866 = .ok (.iload 4, 2) := by decide +kernel
theorem d_La_law_868 : decode code 868 = .ok (.iconst 1, 1) := by decide +kernel
theorem d_La_law_869 : decode code 869 = .ok (.iadd, 1) := by decide +kernel
theorem d_La_law_870 : decode code 870 = .ok (.iaload, 1) := by decide +kernel
theorem d_La_law_871 : decode code 871 = .ok (.aload_n 0, 1) := by decide +kernel
theorem d_La_law_872 : decode code 872 = .ok (.iload 4, 2) := by decide +kernel
theorem d_La_law_874 : decode code 874 = .ok (.iconst 2, 1) := by decide +kernel
theorem d_La_law_875 : decode code 875 = .ok (.iadd, 1) := by decide +kernel
theorem d_La_law_876 : decode code 876 = .ok (.iaload, 1) := by decide +kernel
theorem d_La_law_877 : decode code 877 = .ok (.aload_n 3, 1) := by decide +kernel
theorem d_La_law_878 : decode code 878 = .ok (.invokestatic 135, 3) := by decide +kernel
theorem d_La_law_881 : decode code 881 = .ok (.istore 5, 2) := by decide +kernel
theorem d_La_law_883 : decode code 883 = .ok (.aload_n 2, 1) := by decide +kernel
theorem d_La_law_884 : decode code 884 = .ok (.aload_n 0, 1) := by decide +kernel
theorem d_La_law_885 : decode code 885 = .ok (.iload 4, 2) := by decide +kernel
theorem d_La_law_887 : decode code 887 = .ok (.iconst 1, 1) := by decide +kernel
theorem d_La_law_888 : decode code 888 = .ok (.iadd, 1) := by decide +kernel
theorem d_La_law_889 : decode code 889 = .ok (.iaload, 1) := by decide +kernel
theorem d_La_law_890 : decode code 890 = .ok (.aload_n 0, 1) := by decide +kernel
theorem d_La_law_891 : decode code 891 = .ok (.iload 4, 2) := by decide +kernel
theorem d_La_law_893 : decode code 893 = .ok (.iconst 2, 1) := by decide +kernel
theorem d_La_law_894 : decode code 894 = .ok (.iadd, 1) := by decide +kernel
theorem d_La_law_895 : decode code 895 = .ok (.iaload, 1) := by decide +kernel
theorem d_La_law_896 : decode code 896 = .ok (.invokevirtual 137, 3) := by decide +kernel
theorem d_La_law_899 : decode code 899 = .ok (.istore 6, 2) := by decide +kernel
theorem d_La_law_901 : decode code 901 = .ok (.goto 552, 3) := by decide +kernel
theorem d_La_law_904 : decode code 904 = .ok (.aload_n 1, 1) := by decide +kernel
theorem d_La_law_905 : decode code 905 = .ok (.aload_n 0, 1) := by decide +kernel
theorem d_La_law_906 : decode code 906 = .ok (.iload 4, 2) := by decide +kernel
theorem d_La_law_908 : decode code 908 = .ok (.iconst 1, 1) := by decide +kernel
theorem d_La_law_909 : decode code 909 = .ok (.iadd, 1) := by decide +kernel
theorem d_La_law_910 : decode code 910 = .ok (.iaload, 1) := by decide +kernel
theorem d_La_law_911 : decode code 911 = .ok (.aload_n 0, 1) := by decide +kernel
theorem d_La_law_912 : decode code 912 = .ok (.iload 4, 2) := by decide +kernel
theorem d_La_law_914 : decode code 914 = .ok (.iconst 2, 1) := by decide +kernel
theorem d_La_law_915 : decode code 915 = .ok (.iadd, 1) := by decide +kernel
theorem d_La_law_916 : decode code 916 = .ok (.iaload, 1) := by decide +kernel
theorem d_La_law_917 : decode code 917 = .ok (.aload_n 3, 1) := by decide +kernel
theorem d_La_law_918 : decode code 918 = .ok (.invokestatic 138, 3) := by decide +kernel
theorem d_La_law_921 : decode code 921 = .ok (.istore 5, 2) := by decide +kernel
theorem d_La_law_923 : decode code 923 = .ok (.aload_n 2, 1) := by decide +kernel
theorem d_La_law_924 : decode code 924 = .ok (.aload_n 0, 1) := by decide +kernel
theorem d_La_law_925 : decode code 925 = .ok (.iload 4, 2) := by decide +kernel
theorem d_La_law_927 : decode code 927 = .ok (.iconst 1, 1) := by decide +kernel
theorem d_La_law_928 : decode code 928 = .ok (.iadd, 1) := by decide +kernel
theorem d_La_law_929 : decode code 929 = .ok (.iaload, 1) := by decide +kernel
theorem d_La_law_930 : decode code 930 = .ok (.aload_n 0, 1) := by decide +kernel
theorem d_La_law_931 : decode code 931 = .ok (.iload 4, 2) := by decide +kernel
theorem d_La_law_933 : decode code 933 = .ok (.iconst 2, 1) := by decide +kernel
theorem d_La_law_934 : decode code 934 = .ok (.iadd, 1) := by decide +kernel
theorem d_La_law_935 : decode code 935 = .ok (.iaload, 1) := by decide +kernel
theorem d_La_law_936 : decode code 936 = .ok (.invokevirtual 140, 3) := by decide +kernel
theorem d_La_law_939 : decode code 939 = .ok (.istore 6, 2) := by decide +kernel
theorem d_La_law_941 : decode code 941 = .ok (.goto 512, 3) := by decide +kernel
theorem d_La_law_944 : decode code 944 = .ok (.aload_n 1, 1) := by decide +kernel
theorem d_La_law_945 : decode code 945 = .ok (.aload_n 0, 1) := by decide +kernel
theorem d_La_law_946 : decode code 946 = .ok (.iload 4, 2) := by decide +kernel
theorem d_La_law_948 : decode code 948 = .ok (.iconst 1, 1) := by decide +kernel
theorem d_La_law_949 : decode code 949 = .ok (.iadd, 1) := by decide +kernel
theorem d_La_law_950 : decode code 950 = .ok (.iaload, 1) := by decide +kernel
theorem d_La_law_951 : decode code 951 = .ok (.aload_n 0, 1) := by decide +kernel
theorem d_La_law_952 : decode code 952 = .ok (.iload 4, 2) := by decide +kernel
theorem d_La_law_954 : decode code 954 = .ok (.iconst 2, 1) := by decide +kernel
theorem d_La_law_955 : decode code 955 = .ok (.iadd, 1) := by decide +kernel
theorem d_La_law_956 : decode code 956 = .ok (.iaload, 1) := by decide +kernel
theorem d_La_law_957 : decode code 957 = .ok (.aload_n 0, 1) := by decide +kernel
theorem d_La_law_958 : decode code 958 = .ok (.iload 4, 2) := by decide +kernel
theorem d_La_law_960 : decode code 960 = .ok (.iconst 3, 1) := by decide +kernel
theorem d_La_law_961 : decode code 961 = .ok (.iadd, 1) := by decide +kernel
theorem d_La_law_962 : decode code 962 = .ok (.iaload, 1) := by decide +kernel
theorem d_La_law_963 : decode code 963 = .ok (.aload_n 0, 1) := by decide +kernel
theorem d_La_law_964 : decode code 964 = .ok (.iload 4, 2) := by decide +kernel
theorem d_La_law_966 : decode code 966 = .ok (.iconst 4, 1) := by decide +kernel
theorem d_La_law_967 : decode code 967 = .ok (.iadd, 1) := by decide +kernel
theorem d_La_law_968 : decode code 968 = .ok (.iaload, 1) := by decide +kernel
theorem d_La_law_969 : decode code 969 = .ok (.aload_n 0, 1) := by decide +kernel
theorem d_La_law_970 : decode code 970 = .ok (.iload 4, 2) := by decide +kernel
theorem d_La_law_972 : decode code 972 = .ok (.iconst 5, 1) := by decide +kernel
theorem d_La_law_973 : decode code 973 = .ok (.iadd, 1) := by decide +kernel
theorem d_La_law_974 : decode code 974 = .ok (.iaload, 1) := by decide +kernel
theorem d_La_law_975 : decode code 975 = .ok (.aload_n 3, 1) := by decide +kernel
theorem d_La_law_976 : decode code 976 = .ok (.invokestatic 141, 3) := by decide +kernel
theorem d_La_law_979 : decode code 979 = .ok (.istore 5, 2) := by decide +kernel
theorem d_La_law_981 : decode code 981 = .ok (.aload_n 2, 1) := by decide +kernel
theorem d_La_law_982 : decode code 982 = .ok (.aload_n 0, 1) := by decide +kernel
theorem d_La_law_983 : decode code 983 = .ok (.iload 4, 2) := by decide +kernel
theorem d_La_law_985 : decode code 985 = .ok (.iconst 1, 1) := by decide +kernel
theorem d_La_law_986 : decode code 986 = .ok (.iadd, 1) := by decide +kernel
theorem d_La_law_987 : decode code 987 = .ok (.iaload, 1) := by decide +kernel
theorem d_La_law_988 : decode code 988 = .ok (.aload_n 0, 1) := by decide +kernel
theorem d_La_law_989 : decode code 989 = .ok (.iload 4, 2) := by decide +kernel
theorem d_La_law_991 : decode code 991 = .ok (.iconst 2, 1) := by decide +kernel
theorem d_La_law_992 : decode code 992 = .ok (.iadd, 1) := by decide +kernel
theorem d_La_law_993 : decode code 993 = .ok (.iaload, 1) := by decide +kernel
theorem d_La_law_994 : decode code 994 = .ok (.aload_n 0, 1) := by decide +kernel
theorem d_La_law_995 : decode code 995 = .ok (.iload 4, 2) := by decide +kernel
theorem d_La_law_997 : decode code 997 = .ok (.iconst 3, 1) := by decide +kernel
theorem d_La_law_998 : decode code 998 = .ok (.iadd, 1) := by decide +kernel
theorem d_La_law_999 : decode code 999 = .ok (.iaload, 1) := by decide +kernel
theorem d_La_law_1000 : decode code 1000 = .ok (.aload_n 0, 1) := by decide +kernel
theorem d_La_law_1001 : decode code 1001 = .ok (.iload 4, 2) := by decide +kernel
theorem d_La_law_1003 : decode code 1003 = .ok (.iconst 4, 1) := by decide +kernel
theorem d_La_law_1004 : decode code 1004 = .ok (.iadd, 1) := by decide +kernel
theorem d_La_law_1005 : decode code 1005 = .ok (.iaload, 1) := by decide +kernel
theorem d_La_law_1006 : decode code 1006 = .ok (.aload_n 0, 1) := by decide +kernel
theorem d_La_law_1007 : decode code 1007 = .ok (.iload 4, 2) := by decide +kernel
theorem d_La_law_1009 : decode code 1009 = .ok (.iconst 5, 1) := by decide +kernel
theorem d_La_law_1010 : decode code 1010 = .ok (.iadd, 1) := by decide +kernel
theorem d_La_law_1011 : decode code 1011 = .ok (.iaload, 1) := by decide +kernel
theorem d_La_law_1012 : decode code 1012 = .ok (.invokevirtual 143, 3) := by decide +kernel
theorem d_La_law_1015 : decode code 1015 = .ok (.istore 6, 2) := by decide +kernel
theorem d_La_law_1017 : decode code 1017 = .ok (.goto 436, 3) := by decide +kernel
theorem d_La_law_1020 : decode code 1020 = .ok (.aload_n 1, 1) := by decide +kernel
theorem d_La_law_1021 : decode code 1021 = .ok (.aload_n 0, 1) := by decide +kernel
theorem d_La_law_1022 : decode code 1022 = .ok (.iload 4, 2) := by decide +kernel
theorem d_La_law_1024 : decode code 1024 = .ok (.iconst 1, 1) := by decide +kernel
theorem d_La_law_1025 : decode code 1025 = .ok (.iadd, 1) := by decide +kernel
theorem d_La_law_1026 : decode code 1026 = .ok (.iaload, 1) := by decide +kernel
theorem d_La_law_1027 : decode code 1027 = .ok (.aload_n 0, 1) := by decide +kernel
theorem d_La_law_1028 : decode code 1028 = .ok (.iload 4, 2) := by decide +kernel
theorem d_La_law_1030 : decode code 1030 = .ok (.iconst 2, 1) := by decide +kernel
theorem d_La_law_1031 : decode code 1031 = .ok (.iadd, 1) := by decide +kernel
theorem d_La_law_1032 : decode code 1032 = .ok (.iaload, 1) := by decide +kernel
theorem d_La_law_1033 : decode code 1033 = .ok (.aload_n 0, 1) := by decide +kernel
theorem d_La_law_1034 : decode code 1034 = .ok (.iload 4, 2) := by decide +kernel
theorem d_La_law_1036 : decode code 1036 = .ok (.iconst 3, 1) := by decide +kernel
theorem d_La_law_1037 : decode code 1037 = .ok (.iadd, 1) := by decide +kernel
theorem d_La_law_1038 : decode code 1038 = .ok (.iaload, 1) := by decide +kernel
theorem d_La_law_1039 : decode code 1039 = .ok (.aload_n 3, 1) := by decide +kernel
theorem d_La_law_1040 : decode code 1040 = .ok (.invokestatic 144, 3) := by decide +kernel
theorem d_La_law_1043 : decode code 1043 = .ok (.istore 5, 2) := by decide +kernel
theorem d_La_law_1045 : decode code 1045 = .ok (.aload_n 2, 1) := by decide +kernel
theorem d_La_law_1046 : decode code 1046 = .ok (.aload_n 0, 1) := by decide +kernel
theorem d_La_law_1047 : decode code 1047 = .ok (.iload 4, 2) := by decide +kernel
theorem d_La_law_1049 : decode code 1049 = .ok (.iconst 1, 1) := by decide +kernel
theorem d_La_law_1050 : decode code 1050 = .ok (.iadd, 1) := by decide +kernel
theorem d_La_law_1051 : decode code 1051 = .ok (.iaload, 1) := by decide +kernel
theorem d_La_law_1052 : decode code 1052 = .ok (.aload_n 0, 1) := by decide +kernel
theorem d_La_law_1053 : decode code 1053 = .ok (.iload 4, 2) := by decide +kernel
theorem d_La_law_1055 : decode code 1055 = .ok (.iconst 2, 1) := by decide +kernel
theorem d_La_law_1056 : decode code 1056 = .ok (.iadd, 1) := by decide +kernel
theorem d_La_law_1057 : decode code 1057 = .ok (.iaload, 1) := by decide +kernel
theorem d_La_law_1058 : decode code 1058 = .ok (.aload_n 0, 1) := by decide +kernel
theorem d_La_law_1059 : decode code 1059 = .ok (.iload 4, 2) := by decide +kernel
theorem d_La_law_1061 : decode code 1061 = .ok (.iconst 3, 1) := by decide +kernel
theorem d_La_law_1062 : decode code 1062 = .ok (.iadd, 1) := by decide +kernel
theorem d_La_law_1063 : decode code 1063 = .ok (.iaload, 1) := by decide +kernel
theorem d_La_law_1064 : decode code 1064 = .ok (.invokevirtual 146, 3) := by decide +kernel
theorem d_La_law_1067 : decode code 1067 = .ok (.istore 6, 2) := by decide +kernel
theorem d_La_law_1069 : decode code 1069 = .ok (.goto 384, 3) := by decide +kernel
theorem d_La_law_1072 : decode code 1072 = .ok (.aload_n 1, 1) := by decide +kernel
theorem d_La_law_1073 : decode code 1073 = .ok (.aload_n 0, 1) := by decide +kernel
theorem d_La_law_1074 : decode code 1074 = .ok (.iload 4, 2) := by decide +kernel
theorem d_La_law_1076 : decode code 1076 = .ok (.iconst 1, 1) := by decide +kernel
theorem d_La_law_1077 : decode code 1077 = .ok (.iadd, 1) := by decide +kernel
theorem d_La_law_1078 : decode code 1078 = .ok (.iaload, 1) := by decide +kernel
theorem d_La_law_1079 : decode code 1079 = .ok (.aload_n 0, 1) := by decide +kernel
theorem d_La_law_1080 : decode code 1080 = .ok (.iload 4, 2) := by decide +kernel
theorem d_La_law_1082 : decode code 1082 = .ok (.iconst 2, 1) := by decide +kernel
theorem d_La_law_1083 : decode code 1083 = .ok (.iadd, 1) := by decide +kernel
theorem d_La_law_1084 : decode code 1084 = .ok (.iaload, 1) := by decide +kernel
theorem d_La_law_1085 : decode code 1085 = .ok (.aload_n 0, 1) := by decide +kernel
theorem d_La_law_1086 : decode code 1086 = .ok (.iload 4, 2) := by decide +kernel
theorem d_La_law_1088 : decode code 1088 = .ok (.iconst 3, 1) := by decide +kernel
theorem d_La_law_1089 : decode code 1089 = .ok (.iadd, 1) := by decide +kernel
theorem d_La_law_1090 : decode code 1090 = .ok (.iaload, 1) := by decide +kernel
theorem d_La_law_1091 : decode code 1091 = .ok (.aload_n 3, 1) := by decide +kernel
theorem d_La_law_1092 : decode code 1092 = .ok (.invokestatic 147, 3) := by decide +kernel
theorem d_La_law_1095 : decode code 1095 = .ok (.istore 5, 2) := by decide +kernel
theorem d_La_law_1097 : decode code 1097 = .ok (.aload_n 2, 1) := by decide +kernel
theorem d_La_law_1098 : decode code 1098 = .ok (.aload_n 0, 1) := by decide +kernel
theorem d_La_law_1099 : decode code 1099 = .ok (.iload 4, 2) := by decide +kernel
theorem d_La_law_1101 : decode code 1101 = .ok (.iconst 1, 1) := by decide +kernel
theorem d_La_law_1102 : decode code 1102 = .ok (.iadd, 1) := by decide +kernel
theorem d_La_law_1103 : decode code 1103 = .ok (.iaload, 1) := by decide +kernel
theorem d_La_law_1104 : decode code 1104 = .ok (.aload_n 0, 1) := by decide +kernel
theorem d_La_law_1105 : decode code 1105 = .ok (.iload 4, 2) := by decide +kernel
theorem d_La_law_1107 : decode code 1107 = .ok (.iconst 2, 1) := by decide +kernel
theorem d_La_law_1108 : decode code 1108 = .ok (.iadd, 1) := by decide +kernel
theorem d_La_law_1109 : decode code 1109 = .ok (.iaload, 1) := by decide +kernel
theorem d_La_law_1110 : decode code 1110 = .ok (.aload_n 0, 1) := by decide +kernel
theorem d_La_law_1111 : decode code 1111 = .ok (.iload 4, 2) := by decide +kernel
theorem d_La_law_1113 : decode code 1113 = .ok (.iconst 3, 1) := by decide +kernel
theorem d_La_law_1114 : decode code 1114 = .ok (.iadd, 1) := by decide +kernel
theorem d_La_law_1115 : decode code 1115 = .ok (.iaload, 1) := by decide +kernel
theorem d_La_law_1116 : decode code 1116 = .ok (.invokevirtual 149, 3) := by decide +kernel
theorem d_La_law_1119 : decode code 1119 = .ok (.istore 6, 2) := by decide +kernel
theorem d_La_law_1121 : decode code 1121 = .ok (.goto 332, 3) := by decide +kernel
theorem d_La_law_1124 : decode code 1124 = .ok (.aload_n 1, 1) := by decide +kernel
theorem d_La_law_1125 : decode code 1125 = .ok (.aload_n 0, 1) := by decide +kernel
theorem d_La_law_1126 : decode code 1126 = .ok (.iload 4, 2) := by decide +kernel
theorem d_La_law_1128 : decode code 1128 = .ok (.iconst 1, 1) := by decide +kernel
theorem d_La_law_1129 : decode code 1129 = .ok (.iadd, 1) := by decide +kernel
theorem d_La_law_1130 : decode code 1130 = .ok (.iaload, 1) := by decide +kernel
theorem d_La_law_1131 : decode code 1131 = .ok (.aload_n 0, 1) := by decide +kernel
theorem d_La_law_1132 : decode code 1132 = .ok (.iload 4, 2) := by decide +kernel
theorem d_La_law_1134 : decode code 1134 = .ok (.iconst 2, 1) := by decide +kernel
theorem d_La_law_1135 : decode code 1135 = .ok (.iadd, 1) := by decide +kernel
theorem d_La_law_1136 : decode code 1136 = .ok (.iaload, 1) := by decide +kernel
theorem d_La_law_1137 : decode code 1137 = .ok (.aload_n 0, 1) := by decide +kernel
theorem d_La_law_1138 : decode code 1138 = .ok (.iload 4, 2) := by decide +kernel
theorem d_La_law_1140 : decode code 1140 = .ok (.iconst 3, 1) := by decide +kernel
theorem d_La_law_1141 : decode code 1141 = .ok (.iadd, 1) := by decide +kernel
theorem d_La_law_1142 : decode code 1142 = .ok (.iaload, 1) := by decide +kernel
theorem d_La_law_1143 : decode code 1143 = .ok (.aload_n 0, 1) := by decide +kernel
theorem d_La_law_1144 : decode code 1144 = .ok (.iload 4, 2) := by decide +kernel
theorem d_La_law_1146 : decode code 1146 = .ok (.iconst 4, 1) := by decide +kernel
theorem d_La_law_1147 : decode code 1147 = .ok (.iadd, 1) := by decide +kernel
theorem d_La_law_1148 : decode code 1148 = .ok (.iaload, 1) := by decide +kernel
theorem d_La_law_1149 : decode code 1149 = .ok (.aload_n 3, 1) := by decide +kernel
theorem d_La_law_1150 : decode code 1150 = .ok (.invokestatic 150, 3) := by decide +kernel
theorem d_La_law_1153 : decode code 1153 = .ok (.istore 5, 2) := by decide +kernel
theorem d_La_law_1155 : decode code 1155 = .ok (.aload_n 2, 1) := by decide +kernel
theorem d_La_law_1156 : decode code 1156 = .ok (.aload_n 0, 1) := by decide +kernel
theorem d_La_law_1157 : decode code 1157 = .ok (.iload 4, 2) := by decide +kernel
theorem d_La_law_1159 : decode code 1159 = .ok (.iconst 1, 1) := by decide +kernel
theorem d_La_law_1160 : decode code 1160 = .ok (.iadd, 1) := by decide +kernel
theorem d_La_law_1161 : decode code 1161 = .ok (.iaload, 1) := by decide +kernel
theorem d_La_law_1162 : decode code 1162 = .ok (.aload_n 0, 1) := by decide +kernel
theorem d_La_law_1163 : decode code 1163 = .ok (.iload 4, 2) := by decide +kernel
theorem d_La_law_1165 : decode code 1165 = .ok (.iconst 2, 1) := by decide +kernel
theorem d_La_law_1166 : decode code 1166 = .ok (.iadd, 1) := by decide +kernel
theorem d_La_law_1167 : decode code 1167 = .ok (.iaload, 1) := by decide +kernel
theorem d_La_law_1168 : decode code 1168 = .ok (.aload_n 0, 1) := by decide +kernel
theorem d_La_law_1169 : decode code 1169 = .ok (.iload 4, 2) := by decide +kernel
theorem d_La_law_1171 : decode code 1171 = .ok (.iconst 3, 1) := by decide +kernel
theorem d_La_law_1172 : decode code 1172 = .ok (.iadd, 1) := by decide +kernel
theorem d_La_law_1173 : decode code 1173 = .ok (.iaload, 1) := by decide +kernel
theorem d_La_law_1174 : decode code 1174 = .ok (.aload_n 0, 1) := by decide +kernel
theorem d_La_law_1175 : decode code 1175 = .ok (.iload 4, 2) := by decide +kernel
theorem d_La_law_1177 : decode code 1177 = .ok (.iconst 4, 1) := by decide +kernel
theorem d_La_law_1178 : decode code 1178 = .ok (.iadd, 1) := by decide +kernel
theorem d_La_law_1179 : decode code 1179 = .ok (.iaload, 1) := by decide +kernel
theorem d_La_law_1180 : decode code 1180 = .ok (.invokevirtual 152, 3) := by decide +kernel
theorem d_La_law_1183 : decode code 1183 = .ok (.istore 6, 2) := by decide +kernel
theorem d_La_law_1185 : decode code 1185 = .ok (.goto 268, 3) := by decide +kernel
theorem d_La_law_1188 : decode code 1188 = .ok (.aload_n 1, 1) := by decide +kernel
theorem d_La_law_1189 : decode code 1189 = .ok (.aload_n 0, 1) := by decide +kernel
theorem d_La_law_1190 : decode code 1190 = .ok (.iload 4, 2) := by decide +kernel
theorem d_La_law_1192 : decode code 1192 = .ok (.iconst 1, 1) := by decide +kernel
theorem d_La_law_1193 : decode code 1193 = .ok (.iadd, 1) := by decide +kernel
theorem d_La_law_1194 : decode code 1194 = .ok (.iaload, 1) := by decide +kernel
theorem d_La_law_1195 : decode code 1195 = .ok (.aload_n 0, 1) := by decide +kernel
theorem d_La_law_1196 : decode code 1196 = .ok (.iload 4, 2) := by decide +kernel
theorem d_La_law_1198 : decode code 1198 = .ok (.iconst 2, 1) := by decide +kernel
theorem d_La_law_1199 : decode code 1199 = .ok (.iadd, 1) := by decide +kernel
theorem d_La_law_1200 : decode code 1200 = .ok (.iaload, 1) := by decide +kernel
theorem d_La_law_1201 : decode code 1201 = .ok (.aload_n 0, 1) := by decide +kernel
theorem d_La_law_1202 : decode code 1202 = .ok (.iload 4, 2) := by decide +kernel
theorem d_La_law_1204 : decode code 1204 = .ok (.iconst 3, 1) := by decide +kernel
theorem d_La_law_1205 : decode code 1205 = .ok (.iadd, 1) := by decide +kernel
theorem d_La_law_1206 : decode code 1206 = .ok (.iaload, 1) := by decide +kernel
theorem d_La_law_1207 : decode code 1207 = .ok (.aload_n 0, 1) := by decide +kernel
theorem d_La_law_1208 : decode code 1208 = .ok (.iload 4, 2) := by decide +kernel
theorem d_La_law_1210 : decode code 1210 = .ok (.iconst 4, 1) := by decide +kernel
theorem d_La_law_1211 : decode code 1211 = .ok (.iadd, 1) := by decide +kernel
theorem d_La_law_1212 : decode code 1212 = .ok (.iaload, 1) := by decide +kernel
theorem d_La_law_1213 : decode code 1213 = .ok (.aload_n 0, 1) := by decide +kernel
theorem d_La_law_1214 : decode code 1214 = .ok (.iload 4, 2) := by decide +kernel
theorem d_La_law_1216 : decode code 1216 = .ok (.iconst 5, 1) := by decide +kernel
theorem d_La_law_1217 : decode code 1217 = .ok (.iadd, 1) := by decide +kernel
theorem d_La_law_1218 : decode code 1218 = .ok (.iaload, 1) := by decide +kernel
theorem d_La_law_1219 : decode code 1219 = .ok (.ifCond .eq 7, 3) := by decide +kernel
theorem d_La_law_1222 : decode code 1222 = .ok (.iconst 1, 1) := by decide +kernel
theorem d_La_law_1223 : decode code 1223 = .ok (.goto 4, 3) := by decide +kernel
theorem d_La_law_1226 : decode code 1226 = .ok (.iconst 0, 1) := by decide +kernel
theorem d_La_law_1227 : decode code 1227 = .ok (.aload_n 0, 1) := by decide +kernel
theorem d_La_law_1228 : decode code 1228 = .ok (.iload 4, 2) := by decide +kernel
theorem d_La_law_1230 : decode code 1230 = .ok (.bipush 6, 2) := by decide +kernel
theorem d_La_law_1232 : decode code 1232 = .ok (.iadd, 1) := by decide +kernel
theorem d_La_law_1233 : decode code 1233 = .ok (.iaload, 1) := by decide +kernel
theorem d_La_law_1234 : decode code 1234 = .ok (.aload_n 3, 1) := by decide +kernel
theorem d_La_law_1235 : decode code 1235 = .ok (.invokestatic 153, 3) := by decide +kernel
theorem d_La_law_1238 : decode code 1238 = .ok (.istore 5, 2) := by decide +kernel
theorem d_La_law_1240 : decode code 1240 = .ok (.aload_n 2, 1) := by decide +kernel
theorem d_La_law_1241 : decode code 1241 = .ok (.aload_n 0, 1) := by decide +kernel
theorem d_La_law_1242 : decode code 1242 = .ok (.iload 4, 2) := by decide +kernel
theorem d_La_law_1244 : decode code 1244 = .ok (.iconst 1, 1) := by decide +kernel
theorem d_La_law_1245 : decode code 1245 = .ok (.iadd, 1) := by decide +kernel
theorem d_La_law_1246 : decode code 1246 = .ok (.iaload, 1) := by decide +kernel
theorem d_La_law_1247 : decode code 1247 = .ok (.aload_n 0, 1) := by decide +kernel
theorem d_La_law_1248 : decode code 1248 = .ok (.iload 4, 2) := by decide +kernel
theorem d_La_law_1250 : decode code 1250 = .ok (.iconst 2, 1) := by decide +kernel
theorem d_La_law_1251 : decode code 1251 = .ok (.iadd, 1) := by decide +kernel
theorem d_La_law_1252 : decode code 1252 = .ok (.iaload, 1) := by decide +kernel
theorem d_La_law_1253 : decode code 1253 = .ok (.aload_n 0, 1) := by decide +kernel
theorem d_La_law_1254 : decode code 1254 = .ok (.iload 4, 2) := by decide +kernel
theorem d_La_law_1256 : decode code 1256 = .ok (.iconst 3, 1) := by decide +kernel
theorem d_La_law_1257 : decode code 1257 = .ok (.iadd, 1) := by decide +kernel
theorem d_La_law_1258 : decode code 1258 = .ok (.iaload, 1) := by decide +kernel
theorem d_La_law_1259 : decode code 1259 = .ok (.aload_n 0, 1) := by decide +kernel
theorem d_La_law_1260 : decode code 1260 = .ok (.iload 4, 2) := by decide +kernel
theorem d_La_law_1262 : decode code 1262 = .ok (.iconst 4, 1) := by decide +kernel
theorem d_La_law_1263 : decode code 1263 = .ok (.iadd, 1) := by decide +kernel
theorem d_La_law_1264 : decode code 1264 = .ok (.iaload, 1) := by decide +kernel
theorem d_La_law_1265 : decode code 1265 = .ok (.aload_n 0, 1) := by decide +kernel
theorem d_La_law_1266 : decode code 1266 = .ok (.iload 4, 2) := by decide +kernel
theorem d_La_law_1268 : decode code 1268 = .ok (.iconst 5, 1) := by decide +kernel
theorem d_La_law_1269 : decode code 1269 = .ok (.iadd, 1) := by decide +kernel
theorem d_La_law_1270 : decode code 1270 = .ok (.iaload, 1) := by decide +kernel
theorem d_La_law_1271 : decode code 1271 = .ok (.ifCond .eq 7, 3) := by decide +kernel
theorem d_La_law_1274 : decode code 1274 = .ok (.iconst 1, 1) := by decide +kernel
theorem d_La_law_1275 : decode code 1275 = .ok (.goto 4, 3) := by decide +kernel
theorem d_La_law_1278 : decode code 1278 = .ok (.iconst 0, 1) := by decide +kernel
theorem d_La_law_1279 : decode code 1279 = .ok (.aload_n 0, 1) := by decide +kernel
theorem d_La_law_1280 : decode code 1280 = .ok (.iload 4, 2) := by decide +kernel
theorem d_La_law_1282 : decode code 1282 = .ok (.bipush 6, 2) := by decide +kernel
theorem d_La_law_1284 : decode code 1284 = .ok (.iadd, 1) := by decide +kernel
theorem d_La_law_1285 : decode code 1285 = .ok (.iaload, 1) := by decide +kernel
theorem d_La_law_1286 : decode code 1286 = .ok (.invokevirtual 156, 3) := by decide +kernel
theorem d_La_law_1289 : decode code 1289 = .ok (.istore 6, 2) := by decide +kernel
theorem d_La_law_1291 : decode code 1291 = .ok (.goto 162, 3) := by decide +kernel
theorem d_La_law_1294 : decode code 1294 = .ok (.aload_n 1, 1) := by decide +kernel
theorem d_La_law_1295 : decode code 1295 = .ok (.invokevirtual 157, 3) := by decide +kernel
theorem d_La_law_1298 : decode code 1298 = .ok (.pop, 1) := by decide +kernel
theorem d_La_law_1299 : decode code 1299 = .ok (.aload_n 2, 1) := by decide +kernel
theorem d_La_law_1300 : decode code 1300 = .ok (.invokevirtual 161, 3) := by decide +kernel
theorem d_La_law_1303 : decode code 1303 = .ok (.pop, 1) := by decide +kernel
theorem d_La_law_1304 : decode code 1304 = .ok (.goto 149, 3) := by decide +kernel
theorem d_La_law_1307 : decode code 1307 = .ok (.aload_n 1, 1) := by decide +kernel
theorem d_La_law_1308 : decode code 1308 = .ok (.invokevirtual 162, 3) := by decide +kernel
theorem d_La_law_1311 : decode code 1311 = .ok (.pop, 1) := by decide +kernel
theorem d_La_law_1312 : decode code 1312 = .ok (.aload_n 2, 1) := by decide +kernel
theorem d_La_law_1313 : decode code 1313 = .ok (.invokevirtual 165, 3) := by decide +kernel
theorem d_La_law_1316 : decode code 1316 = .ok (.pop, 1) := by decide +kernel
theorem d_La_law_1317 : decode code 1317 = .ok (.goto 136, 3) := by decide +kernel
theorem d_La_law_1320 : decode code 1320 = .ok (.aload_n 1, 1) := by decide +kernel
theorem d_La_law_1321 : decode code 1321 = .ok (.aload_n 0, 1) := by decide +kernel
theorem d_La_law_1322 : decode code 1322 = .ok (.iload 4, 2) := by decide +kernel
theorem d_La_law_1324 : decode code 1324 = .ok (.iconst 1, 1) := by decide +kernel
theorem d_La_law_1325 : decode code 1325 = .ok (.iadd, 1) := by decide +kernel
theorem d_La_law_1326 : decode code 1326 = .ok (.iaload, 1) := by decide +kernel
theorem d_La_law_1327 : decode code 1327 = .ok (.aload_n 0, 1) := by decide +kernel
theorem d_La_law_1328 : decode code 1328 = .ok (.iload 4, 2) := by decide +kernel
theorem d_La_law_1330 : decode code 1330 = .ok (.iconst 2, 1) := by decide +kernel
theorem d_La_law_1331 : decode code 1331 = .ok (.iadd, 1) := by decide +kernel
theorem d_La_law_1332 : decode code 1332 = .ok (.iaload, 1) := by decide +kernel
theorem d_La_law_1333 : decode code 1333 = .ok (.aload_n 3, 1) := by decide +kernel
theorem d_La_law_1334 : decode code 1334 = .ok (.invokestatic 166, 3) := by decide +kernel
theorem d_La_law_1337 : decode code 1337 = .ok (.istore 5, 2) := by decide +kernel
theorem d_La_law_1339 : decode code 1339 = .ok (.aload_n 2, 1) := by decide +kernel
theorem d_La_law_1340 : decode code 1340 = .ok (.aload_n 0, 1) := by decide +kernel
theorem d_La_law_1341 : decode code 1341 = .ok (.iload 4, 2) := by decide +kernel
theorem d_La_law_1343 : decode code 1343 = .ok (.iconst 1, 1) := by decide +kernel
theorem d_La_law_1344 : decode code 1344 = .ok (.iadd, 1) := by decide +kernel
theorem d_La_law_1345 : decode code 1345 = .ok (.iaload, 1) := by decide +kernel
theorem d_La_law_1346 : decode code 1346 = .ok (.aload_n 0, 1) := by decide +kernel
theorem d_La_law_1347 : decode code 1347 = .ok (.iload 4, 2) := by decide +kernel
theorem d_La_law_1349 : decode code 1349 = .ok (.iconst 2, 1) := by decide +kernel
theorem d_La_law_1350 : decode code 1350 = .ok (.iadd, 1) := by decide +kernel
theorem d_La_law_1351 : decode code 1351 = .ok (.iaload, 1) := by decide +kernel
theorem d_La_law_1352 : decode code 1352 = .ok (.invokevirtual 168, 3) := by decide +kernel
theorem d_La_law_1355 : decode code 1355 = .ok (.istore 6, 2) := by decide +kernel
theorem d_La_law_1357 : decode code 1357 = .ok (.goto 96, 3) := by decide +kernel
theorem d_La_law_1360 : decode code 1360 = .ok (.aload_n 1, 1) := by decide +kernel
theorem d_La_law_1361 : decode code 1361 = .ok (.aload_n 0, 1) := by decide +kernel
theorem d_La_law_1362 : decode code 1362 = .ok (.iload 4, 2) := by decide +kernel
theorem d_La_law_1364 : decode code 1364 = .ok (.iconst 1, 1) := by decide +kernel
theorem d_La_law_1365 : decode code 1365 = .ok (.iadd, 1) := by decide +kernel
theorem d_La_law_1366 : decode code 1366 = .ok (.iaload, 1) := by decide +kernel
theorem d_La_law_1367 : decode code 1367 = .ok (.aload_n 0, 1) := by decide +kernel
theorem d_La_law_1368 : decode code 1368 = .ok (.iload 4, 2) := by decide +kernel
theorem d_La_law_1370 : decode code 1370 = .ok (.iconst 2, 1) := by decide +kernel
theorem d_La_law_1371 : decode code 1371 = .ok (.iadd, 1) := by decide +kernel
theorem d_La_law_1372 : decode code 1372 = .ok (.iaload, 1) := by decide +kernel
theorem d_La_law_1373 : decode code 1373 = .ok (.aload_n 3, 1) := by decide +kernel
theorem d_La_law_1374 : decode code 1374 = .ok (.invokestatic 169, 3) := by decide +kernel
theorem d_La_law_1377 : decode code 1377 = .ok (.istore 5, 2) := by decide +kernel
theorem d_La_law_1379 : decode code 1379 = .ok (.aload_n 2, 1) := by decide +kernel
theorem d_La_law_1380 : decode code 1380 = .ok (.aload_n 0, 1) := by decide +kernel
theorem d_La_law_1381 : decode code 1381 = .ok (.iload 4, 2) := by decide +kernel
theorem d_La_law_1383 : decode code 1383 = .ok (.iconst 1, 1) := by decide +kernel
theorem d_La_law_1384 : decode code 1384 = .ok (.iadd, 1) := by decide +kernel
theorem d_La_law_1385 : decode code 1385 = .ok (.iaload, 1) := by decide +kernel
theorem d_La_law_1386 : decode code 1386 = .ok (.aload_n 0, 1) := by decide +kernel
theorem d_La_law_1387 : decode code 1387 = .ok (.iload 4, 2) := by decide +kernel
theorem d_La_law_1389 : decode code 1389 = .ok (.iconst 2, 1) := by decide +kernel
theorem d_La_law_1390 : decode code 1390 = .ok (.iadd, 1) := by decide +kernel
theorem d_La_law_1391 : decode code 1391 = .ok (.iaload, 1) := by decide +kernel
theorem d_La_law_1392 : decode code 1392 = .ok (.invokevirtual 171, 3) := by decide +kernel
theorem d_La_law_1395 : decode code 1395 = .ok (.istore 6, 2) := by decide +kernel
theorem d_La_law_1397 : decode code 1397 = .ok (.aload_n 2, 1) := by decide +kernel
theorem d_La_law_1398 : decode code 1398 = .ok (.invokevirtual 172, 3) := by decide +kernel
theorem d_La_law_1401 : decode code 1401 = .ok (.iload 5, 2) := by decide +kernel
theorem d_La_law_1403 : decode code 1403 = .ok (.if_icmp .eq 5, 3) := by decide +kernel
theorem d_La_law_1406 : decode code 1406 = .ok (.iconst 0, 1) := by decide +kernel
theorem d_La_law_1407 : decode code 1407 = .ok (.ireturn, 1) := by decide +kernel
theorem d_La_law_1408 : decode code 1408 = .ok (.iload 5, 2) := by decide +kernel
theorem d_La_law_1410 : decode code 1410 = .ok (.ifCond .ne 15, 3) := by decide +kernel
theorem d_La_law_1413 : decode code 1413 = .ok (.aload_n 3, 1) := by decide +kernel
theorem d_La_law_1414 : decode code 1414 = .ok (.iconst 0, 1) := by decide +kernel
theorem d_La_law_1415 : decode code 1415 = .ok (.laload, 1) := by decide +kernel
theorem d_La_law_1416 : decode code 1416 = .ok (.iload 6, 2) := by decide +kernel
theorem d_La_law_1418 : decode code 1418 = .ok (.i2l, 1) := by decide +kernel
theorem d_La_law_1419 : decode code 1419 = .ok (.lcmp, 1) := by decide +kernel
theorem d_La_law_1420 : decode code 1420 = .ok (.ifCond .eq 5, 3) := by decide +kernel
theorem d_La_law_1423 : decode code 1423 = .ok (.iconst 0, 1) := by decide +kernel
theorem d_La_law_1424 : decode code 1424 = .ok (.ireturn, 1) := by decide +kernel
theorem d_La_law_1425 : decode code 1425 = .ok (.goto 28, 3) := by decide +kernel
theorem d_La_law_1428 : decode code 1428 = .ok (.aload_n 1, 1) := by decide +kernel
theorem d_La_law_1429 : decode code 1429 = .ok (.aload_n 0, 1) := by decide +kernel
theorem d_La_law_1430 : decode code 1430 = .ok (.iload 4, 2) := by decide +kernel
theorem d_La_law_1432 : decode code 1432 = .ok (.iconst 1, 1) := by decide +kernel
theorem d_La_law_1433 : decode code 1433 = .ok (.iadd, 1) := by decide +kernel
theorem d_La_law_1434 : decode code 1434 = .ok (.iaload, 1) := by decide +kernel
theorem d_La_law_1435 : decode code 1435 = .ok (.invokevirtual 175, 3) := by decide +kernel
theorem d_La_law_1438 : decode code 1438 = .ok (.pop, 1) := by decide +kernel
theorem d_La_law_1439 : decode code 1439 = .ok (.aload_n 2, 1) := by decide +kernel
theorem d_La_law_1440 : decode code 1440 = .ok (.aload_n 0, 1) := by decide +kernel
theorem d_La_law_1441 : decode code 1441 = .ok (.iload 4, 2) := by decide +kernel
theorem d_La_law_1443 : decode code 1443 = .ok (.iconst 1, 1) := by decide +kernel
theorem d_La_law_1444 : decode code 1444 = .ok (.iadd, 1) := by decide +kernel
theorem d_La_law_1445 : decode code 1445 = .ok (.iaload, 1) := by decide +kernel
theorem d_La_law_1446 : decode code 1446 = .ok (.invokevirtual 178, 3) := by decide +kernel
theorem d_La_law_1449 : decode code 1449 = .ok (.pop, 1) := by decide +kernel
theorem d_La_law_1450 : decode code 1450 = .ok (.goto 3, 3) := by decide +kernel
theorem d_La_law_1453 : decode code 1453 = .ok (.iinc 4 7, 3) := by decide +kernel
theorem d_La_law_1456 : decode code 1456 = .ok (.goto (-1433), 3) := by decide +kernel
theorem d_La_law_1459 : decode code 1459 = .ok (.iconst 1, 1) := by decide +kernel
theorem d_La_law_1460 : decode code 1460 = .ok (.ireturn, 1) := by decide +kernel
