/-! decode rows of the law (by program) -/
theorem d_Law_main_23 : decode M_Law_main.2.1 23 = .ok (.iload 4, 2) := by decide +kernel
theorem d_Law_main_25 : decode M_Law_main.2.1 25 = .ok (.aload_n 0, 1) := by decide +kernel
theorem d_Law_main_26 : decode M_Law_main.2.1 26 = .ok (.arraylength, 1) := by decide +kernel
theorem d_Law_main_27 : decode M_Law_main.2.1 27 = .ok (.bipush 6, 2) := by decide +kernel
theorem d_Law_main_29 : decode M_Law_main.2.1 29 = .ok (.isub, 1) := by decide +kernel
theorem d_Law_main_30 : decode M_Law_main.2.1 30 = .ok (.if_icmp .gt 1449, 3) := by decide +kernel
theorem d_Law_main_33 : decode M_Law_main.2.1 33 = .ok (.aload_n 0, 1) := by decide +kernel
theorem d_Law_main_34 : decode M_Law_main.2.1 34 = .ok (.iload 4, 2) := by decide +kernel
theorem d_Law_main_36 : decode M_Law_main.2.1 36 = .ok (.iaload, 1) := by decide +kernel
theorem d_Law_main_37 : decode M_Law_main.2.1 37 = .ok (.bipush 63, 2) := by decide +kernel
theorem d_Law_main_39 : decode M_Law_main.2.1 39 = .ok (.iand, 1) := by decide +kernel
theorem d_Law_main_40 : decode M_Law_main.2.1 40 = .ok (.tableswitch 1433 0 39 #[176, 249, 277, 290, 318, 358, 398, 426, 466, 491, 555, 595, 623, 651, 691, 743, 771, 784, 812, 825, 853, 866, 879, 907, 935, 987, 1027, 1067, 1095, 1123, 1151, 1164, 1192, 1220, 1276, 1316, 1329, 1357, 1409, 1420], 176) := by decide +kernel
theorem d_Law_main_216 : decode M_Law_main.2.1 216 = .ok (.aload_n 1, 1) := by decide +kernel
theorem d_Law_main_217 : decode M_Law_main.2.1 217 = .ok (.aload_n 0, 1) := by decide +kernel
theorem d_Law_main_218 : decode M_Law_main.2.1 218 = .ok (.iload 4, 2) := by decide +kernel
theorem d_Law_main_220 : decode M_Law_main.2.1 220 = .ok (.iconst 1, 1) := by decide +kernel
theorem d_Law_main_221 : decode M_Law_main.2.1 221 = .ok (.iadd, 1) := by decide +kernel
theorem d_Law_main_222 : decode M_Law_main.2.1 222 = .ok (.iaload, 1) := by decide +kernel
theorem d_Law_main_223 : decode M_Law_main.2.1 223 = .ok (.aload_n 0, 1) := by decide +kernel
theorem d_Law_main_224 : decode M_Law_main.2.1 224 = .ok (.iload 4, 2) := by decide +kernel
theorem d_Law_main_226 : decode M_Law_main.2.1 226 = .ok (.iconst 2, 1) := by decide +kernel
theorem d_Law_main_227 : decode M_Law_main.2.1 227 = .ok (.iadd, 1) := by decide +kernel
theorem d_Law_main_228 : decode M_Law_main.2.1 228 = .ok (.iaload, 1) := by decide +kernel
theorem d_Law_main_229 : decode M_Law_main.2.1 229 = .ok (.aload_n 0, 1) := by decide +kernel
theorem d_Law_main_230 : decode M_Law_main.2.1 230 = .ok (.iload 4, 2) := by decide +kernel
theorem d_Law_main_232 : decode M_Law_main.2.1 232 = .ok (.iconst 3, 1) := by decide +kernel
theorem d_Law_main_233 : decode M_Law_main.2.1 233 = .ok (.iadd, 1) := by decide +kernel
theorem d_Law_main_234 : decode M_Law_main.2.1 234 = .ok (.iaload, 1) := by decide +kernel
theorem d_Law_main_235 : decode M_Law_main.2.1 235 = .ok (.aload_n 0, 1) := by decide +kernel
theorem d_Law_main_236 : decode M_Law_main.2.1 236 = .ok (.iload 4, 2) := by decide +kernel
theorem d_Law_main_238 : decode M_Law_main.2.1 238 = .ok (.iconst 4, 1) := by decide +kernel
theorem d_Law_main_239 : decode M_Law_main.2.1 239 = .ok (.iadd, 1) := by decide +kernel
theorem d_Law_main_240 : decode M_Law_main.2.1 240 = .ok (.iaload, 1) := by decide +kernel
theorem d_Law_main_241 : decode M_Law_main.2.1 241 = .ok (.aload_n 0, 1) := by decide +kernel
theorem d_Law_main_242 : decode M_Law_main.2.1 242 = .ok (.iload 4, 2) := by decide +kernel
theorem d_Law_main_244 : decode M_Law_main.2.1 244 = .ok (.iconst 5, 1) := by decide +kernel
theorem d_Law_main_245 : decode M_Law_main.2.1 245 = .ok (.iadd, 1) := by decide +kernel
theorem d_Law_main_246 : decode M_Law_main.2.1 246 = .ok (.iaload, 1) := by decide +kernel
theorem d_Law_main_247 : decode M_Law_main.2.1 247 = .ok (.invokevirtual 111, 3) := by decide +kernel
theorem d_Law_main_250 : decode M_Law_main.2.1 250 = .ok (.aload_n 2, 1) := by decide +kernel
theorem d_Law_main_251 : decode M_Law_main.2.1 251 = .ok (.aload_n 0, 1) := by decide +kernel
theorem d_Law_main_252 : decode M_Law_main.2.1 252 = .ok (.iload 4, 2) := by decide +kernel
theorem d_Law_main_254 : decode M_Law_main.2.1 254 = .ok (.iconst 1, 1) := by decide +kernel
theorem d_Law_main_255 : decode M_Law_main.2.1 255 = .ok (.iadd, 1) := by decide +kernel
theorem d_Law_main_256 : decode M_Law_main.2.1 256 = .ok (.iaload, 1) := by decide +kernel
theorem d_Law_main_257 : decode M_Law_main.2.1 257 = .ok (.aload_n 0, 1) := by decide +kernel
theorem d_Law_main_258 : decode M_Law_main.2.1 258 = .ok (.iload 4, 2) := by decide +kernel
theorem d_Law_main_260 : decode M_Law_main.2.1 260 = .ok (.iconst 2, 1) := by decide +kernel
theorem d_Law_main_261 : decode M_Law_main.2.1 261 = .ok (.iadd, 1) := by decide +kernel
theorem d_Law_main_262 : decode M_Law_main.2.1 262 = .ok (.iaload, 1) := by decide +kernel
theorem d_Law_main_263 : decode M_Law_main.2.1 263 = .ok (.aload_n 0, 1) := by decide +kernel
theorem d_Law_main_264 : decode M_Law_main.2.1 264 = .ok (.iload 4, 2) := by decide +kernel
theorem d_Law_main_266 : decode M_Law_main.2.1 266 = .ok (.iconst 3, 1) := by decide +kernel
theorem d_Law_main_267 : decode M_Law_main.2.1 267 = .ok (.iadd, 1) := by decide +kernel
theorem d_Law_main_268 : decode M_Law_main.2.1 268 = .ok (.iaload, 1) := by decide +kernel
theorem d_Law_main_269 : decode M_Law_main.2.1 269 = .ok (.aload_n 0, 1) := by decide +kernel
theorem d_Law_main_270 : decode M_Law_main.2.1 270 = .ok (.iload 4, 2) := by decide +kernel
theorem d_Law_main_272 : decode M_Law_main.2.1 272 = .ok (.iconst 4, 1) := by decide +kernel
theorem d_Law_main_273 : decode M_Law_main.2.1 273 = .ok (.iadd, 1) := by decide +kernel
theorem d_Law_main_274 : decode M_Law_main.2.1 274 = .ok (.iaload, 1) := by decide +kernel
theorem d_Law_main_275 : decode M_Law_main.2.1 275 = .ok (.aload_n 0, 1) := by decide +kernel
theorem d_Law_main_276 : decode M_Law_main.2.1 276 = .ok (.iload 4, 2) := by decide +kernel
theorem d_Law_main_278 : decode M_Law_main.2.1 278 = .ok (.iconst 5, 1) := by decide +kernel
theorem d_Law_main_279 : decode M_Law_main.2.1 279 = .ok (.iadd, 1) := by decide +kernel
theorem d_Law_main_280 : decode M_Law_main.2.1 280 = .ok (.iaload, 1) := by decide +kernel
theorem d_Law_main_281 : decode M_Law_main.2.1 281 = .ok (.invokevirtual 115, 3) := by decide +kernel
theorem d_Law_main_284 : decode M_Law_main.2.1 284 = .ok (.if_icmp .eq 1189, 3) := by decide +kernel
theorem d_Law_main_287 : decode M_Law_main.2.1 287 = .ok (.iconst 0, 1) := by decide +kernel
theorem d_Law_main_288 : decode M_Law_main.2.1 288 = .ok (.ireturn, 1) := by decide +kernel
theorem d_Law_main_289 : decode M_Law_main.2.1 289 = .ok (.aload_n 1, 1) := by decide +kernel
theorem d_Law_main_290 : decode M_Law_main.2.1 290 = .ok (.aload_n 0, 1) := by decide +kernel
theorem d_Law_main_291 : decode M_Law_main.2.1 291 = .ok (.iload 4, 2) := by decide +kernel
theorem d_Law_main_293 : decode M_Law_main.2.1 293 = .ok (.iconst 1, 1) := by decide +kernel
theorem d_Law_main_294 : decode M_Law_main.2.1 294 = .ok (.iadd, 1) := by decide +kernel
theorem d_Law_main_295 : decode M_Law_main.2.1 295 = .ok (.iaload, 1) := by decide +kernel
theorem d_Law_main_296 : decode M_Law_main.2.1 296 = .ok (.aload_n 3, 1) := by decide +kernel
theorem d_Law_main_297 : decode M_Law_main.2.1 297 = .ok (.invokestatic 116, 3) := by decide +kernel
theorem d_Law_main_300 : decode M_Law_main.2.1 300 = .ok (.istore 5, 2) := by decide +kernel
theorem d_Law_main_302 : decode M_Law_main.2.1 302 = .ok (.aload_n 2, 1) := by decide +kernel
theorem d_Law_main_303 : decode M_Law_main.2.1 303 = .ok (.aload_n 0, 1) := by decide +kernel
theorem d_Law_main_304 : decode M_Law_main.2.1 304 = .ok (.iload 4, 2) := by decide +kernel
theorem d_Law_main_306 : decode M_Law_main.2.1 306 = .ok (.iconst 1, 1) := by decide +kernel
theorem d_Law_main_307 : decode M_Law_main.2.1 307 = .ok (.iadd, 1) := by decide +kernel
theorem d_Law_main_308 : decode M_Law_main.2.1 308 = .ok (.iaload, 1) := by decide +kernel
theorem d_Law_main_309 : decode M_Law_main.2.1 309 = .ok (.invokevirtual 121, 3) := by decide +kernel
theorem d_Law_main_312 : decode M_Law_main.2.1 312 = .ok (.istore 6, 2) := by decide +kernel
theorem d_Law_main_314 : decode M_Law_main.2.1 314 = .ok (.goto 1159, 3) := by decide +kernel
theorem d_Law_main_317 : decode M_Law_main.2.1 317 = .ok (.aload_n 1, 1) := by decide +kernel
theorem d_Law_main_318 : decode M_Law_main.2.1 318 = .ok (.invokevirtual 122, 3) := by decide +kernel
theorem d_Law_main_321 : decode M_Law_main.2.1 321 = .ok (.pop, 1) := by decide +kernel
theorem d_Law_main_322 : decode M_Law_main.2.1 322 = .ok (.aload_n 2, 1) := by decide +kernel
theorem d_Law_main_323 : decode M_Law_main.2.1 323 = .ok (.invokevirtual 126, 3) := by decide +kernel
theorem d_Law_main_326 : decode M_Law_main.2.1 326 = .ok (.pop, 1) := by decide +kernel
theorem d_Law_main_327 : decode M_Law_main.2.1 327 = .ok (.goto 1146, 3) := by decide +kernel
theorem d_Law_main_330 : decode M_Law_main.2.1 330 = .ok (.aload_n 1, 1) := by decide +kernel
theorem d_Law_main_331 : decode M_Law_main.2.1 331 = .ok (.aload_n 0, 1) := by decide +kernel
theorem d_Law_main_332 : decode M_Law_main.2.1 332 = .ok (.iload 4, 2) := by decide +kernel
theorem d_Law_main_334 : decode M_Law_main.2.1 334 = .ok (.iconst 1, 1) := by decide +kernel
theorem d_Law_main_335 : decode M_Law_main.2.1 335 = .ok (.iadd, 1) := by decide +kernel
theorem d_Law_main_336 : decode M_Law_main.2.1 336 = .ok (.iaload, 1) := by decide +kernel
theorem d_Law_main_337 : decode M_Law_main.2.1 337 = .ok (.aload_n 3, 1) := by decide +kernel
theorem d_Law_main_338 : decode M_Law_main.2.1 338 = .ok (.invokestatic 127, 3) := by decide +kernel
theorem d_Law_main_341 : decode M_Law_main.2.1 341 = .ok (.istore 5, 2) := by decide +kernel
theorem d_Law_main_343 : decode M_Law_main.2.1 343 = .ok (.aload_n 2, 1) := by decide +kernel
theorem d_Law_main_344 : decode M_Law_main.2.1 344 = .ok (.aload_n 0, 1) := by decide +kernel
theorem d_Law_main_345 : decode M_Law_main.2.1 345 = .ok (.iload 4, 2) := by decide +kernel
theorem d_Law_main_347 : decode M_Law_main.2.1 347 = .ok (.iconst 1, 1) := by decide +kernel
theorem d_Law_main_348 : decode M_Law_main.2.1 348 = .ok (.iadd, 1) := by decide +kernel
theorem d_Law_main_349 : decode M_Law_main.2.1 349 = .ok (.iaload, 1) := by decide +kernel
theorem d_Law_main_350 : decode M_Law_main.2.1 350 = .ok (.invokevirtual 129, 3) := by decide +kernel
theorem d_Law_main_353 : decode M_Law_main.2.1 353 = .ok (.istore 6, 2) := by decide +kernel
theorem d_Law_main_355 : decode M_Law_main.2.1 355 = .ok (.goto 1118, 3) := by decide +kernel
theorem d_Law_main_358 : decode M_Law_main.2.1 358 = .ok (.aload_n 1, 1) := by decide +kernel
theorem d_Law_main_359 : decode M_Law_main.2.1 359 = .ok (.aload_n 0, 1) := by decide +kernel
theorem d_Law_main_360 : decode M_Law_main.2.1 360 = .ok (.iload 4, 2) := by decide +kernel
theorem d_Law_main_362 : decode M_Law_main.2.1 362 = .ok (.iconst 1, 1) := by decide +kernel
theorem d_Law_main_363 : decode M_Law_main.2.1 363 = .ok (.iadd, 1) := by decide +kernel
theorem d_Law_main_364 : decode M_Law_main.2.1 364 = .ok (.iaload, 1) := by decide +kernel
theorem d_Law_main_365 : decode M_Law_main.2.1 365 = .ok (.aload_n 0, 1) := by decide +kernel
theorem d_Law_main_366 : decode M_Law_main.2.1 366 = .ok (.iload 4, 2) := by decide +kernel
theorem d_Law_main_368 : decode M_Law_main.2.1 368 = .ok (.iconst 2, 1) := by decide +kernel
theorem d_Law_main_369 : decode M_Law_main.2.1 369 = .ok (.iadd, 1) := by decide +kernel
theorem d_Law_main_370 : decode M_Law_main.2.1 370 = .ok (.iaload, 1) := by decide +kernel
theorem d_Law_main_371 : decode M_Law_main.2.1 371 = .ok (.aload_n 3, 1) := by decide +kernel
theorem d_Law_main_372 : decode M_Law_main.2.1 372 = .ok (.invokestatic 130, 3) := by decide +kernel
theorem d_Law_main_375 : decode M_Law_main.2.1 375 = .ok (.istore 5, 2) := by decide +kernel
theorem d_Law_main_377 : decode M_Law_main.2.1 377 = .ok (.aload_n 2, 1) := by decide +kernel
theorem d_Law_main_378 : decode M_Law_main.2.1 378 = .ok (.aload_n 0, 1) := by decide +kernel
theorem d_Law_main_379 : decode M_Law_main.2.1 379 = .ok (.iload 4, 2) := by decide +kernel
theorem d_Law_main_381 : decode M_Law_main.2.1 381 = .ok (.iconst 1, 1) := by decide +kernel
theorem d_Law_main_382 : decode M_Law_main.2.1 382 = .ok (.iadd, 1) := by decide +kernel
theorem d_Law_main_383 : decode M_Law_main.2.1 383 = .ok (.iaload, 1) := by decide +kernel
theorem d_Law_main_384 : decode M_Law_main.2.1 384 = .ok (.aload_n 0, 1) := by decide +kernel
theorem d_Law_main_385 : decode M_Law_main.2.1 385 = .ok (.iload 4, 2) := by decide +kernel
theorem d_Law_main_387 : decode M_Law_main.2.1 387 = .ok (.iconst 2, 1) := by decide +kernel
theorem d_Law_main_388 : decode M_Law_main.2.1 388 = .ok (.iadd, 1) := by decide +kernel
theorem d_Law_main_389 : decode M_Law_main.2.1 389 = .ok (.iaload, 1) := by decide +kernel
theorem d_Law_main_390 : decode M_Law_main.2.1 390 = .ok (.invokevirtual 133, 3) := by decide +kernel
theorem d_Law_main_393 : decode M_Law_main.2.1 393 = .ok (.istore 6, 2) := by decide +kernel
theorem d_Law_main_395 : decode M_Law_main.2.1 395 = .ok (.goto 1078, 3) := by decide +kernel
theorem d_Law_main_398 : decode M_Law_main.2.1 398 = .ok (.aload_n 1, 1) := by decide +kernel
theorem d_Law_main_399 : decode M_Law_main.2.1 399 = .ok (.aload_n 0, 1) := by decide +kernel
theorem d_Law_main_400 : decode M_Law_main.2.1 400 = .ok (.iload 4, 2) := by decide +kernel
theorem d_Law_main_402 : decode M_Law_main.2.1 402 = .ok (.iconst 1, 1) := by decide +kernel
theorem d_Law_main_403 : decode M_Law_main.2.1 403 = .ok (.iadd, 1) := by decide +kernel
theorem d_Law_main_404 : decode M_Law_main.2.1 404 = .ok (.iaload, 1) := by decide +kernel
theorem d_Law_main_405 : decode M_Law_main.2.1 405 = .ok (.aload_n 0, 1) := by decide +kernel
theorem d_Law_main_406 : decode M_Law_main.2.1 406 = .ok (.iload 4, 2) := by decide +kernel
theorem d_Law_main_408 : decode M_Law_main.2.1 408 = .ok (.iconst 2, 1) := by decide +kernel
theorem d_Law_main_409 : decode M_Law_main.2.1 409 = .ok (.iadd, 1) := by decide +kernel
theorem d_Law_main_410 : decode M_Law_main.2.1 410 = .ok (.iaload, 1) := by decide +kernel
theorem d_Law_main_411 : decode M_Law_main.2.1 411 = .ok (.aload_n 3, 1) := by decide +kernel
theorem d_Law_main_412 : decode M_Law_main.2.1 412 = .ok (.invokestatic 134, 3) := by decide +kernel
theorem d_Law_main_415 : decode M_Law_main.2.1 415 = .ok (.istore 5, 2) := by decide +kernel
theorem d_Law_main_417 : decode M_Law_main.2.1 417 = .ok (.aload_n 2, 1) := by decide +kernel
theorem d_Law_main_418 : decode M_Law_main.2.1 418 = .ok (.aload_n 0, 1) := by decide +kernel
theorem d_Law_main_419 : decode M_Law_main.2.1 419 = .ok (.iload 4, 2) := by decide +kernel
theorem d_Law_main_421 : decode M_Law_main.2.1 421 = .ok (.iconst 1, 1) := by decide +kernel
theorem d_Law_main_422 : decode M_Law_main.2.1 422 = .ok (.iadd, 1) := by decide +kernel
theorem d_Law_main_423 : decode M_Law_main.2.1 423 = .ok (.iaload, 1) := by decide +kernel
theorem d_Law_main_424 : decode M_Law_main.2.1 424 = .ok (.aload_n 0, 1) := by decide +kernel
theorem d_Law_main_425 : decode M_Law_main.2.1 425 = .ok (.iload 4, 2) := by decide +kernel
theorem d_Law_main_427 : decode M_Law_main.2.1 427 = .ok (.iconst 2, 1) := by decide +kernel
theorem d_Law_main_428 : decode M_Law_main.2.1 428 = .ok (.iadd, 1) := by decide +kernel
theorem d_Law_main_429 : decode M_Law_main.2.1 429 = .ok (.iaload, 1) := by decide +kernel
theorem d_Law_main_430 : decode M_Law_main.2.1 430 = .ok (.invokevirtual 136, 3) := by decide +kernel
theorem d_Law_main_433 : decode M_Law_main.2.1 433 = .ok (.istore 6, 2) := by decide +kernel
theorem d_Law_main_435 : decode M_Law_main.2.1 435 = .ok (.goto 1038, 3) := by decide +kernel
theorem d_Law_main_438 : decode M_Law_main.2.1 438 = .ok (.aload_n 1, 1) := by decide +kernel
theorem d_Law_main_439 : decode M_Law_main.2.1 439 = .ok (.aload_n 0, 1) := by decide +kernel
theorem d_Law_main_440 : decode M_Law_main.2.1 440 = .ok (.iload 4, 2) := by decide +kernel
theorem d_Law_main_442 : decode M_Law_main.2.1 442 = .ok (.iconst 1, 1) := by decide +kernel
theorem d_Law_main_443 : decode M_Law_main.2.1 443 = .ok (.iadd, 1) := by decide +kernel
theorem d_Law_main_444 : decode M_Law_main.2.1 444 = .ok (.iaload, 1) := by decide +kernel
theorem d_Law_main_445 : decode M_Law_main.2.1 445 = .ok (.aload_n 3, 1) := by decide +kernel
theorem d_Law_main_446 : decode M_Law_main.2.1 446 = .ok (.invokestatic 137, 3) := by decide +kernel
theorem d_Law_main_449 : decode M_Law_main.2.1 449 = .ok (.istore 5, 2) := by decide +kernel
theorem d_Law_main_451 : decode M_Law_main.2.1 451 = .ok (.aload_n 2, 1) := by decide +kernel
theorem d_Law_main_452 : decode M_Law_main.2.1 452 = .ok (.aload_n 0, 1) := by decide +kernel
theorem d_Law_main_453 : decode M_Law_main.2.1 453 = .ok (.iload 4, 2) := by decide +kernel
theorem d_Law_main_455 : decode M_Law_main.2.1 455 = .ok (.iconst 1, 1) := by decide +kernel
theorem d_Law_main_456 : decode M_Law_main.2.1 456 = .ok (.iadd, 1) := by decide +kernel
theorem d_Law_main_457 : decode M_Law_main.2.1 457 = .ok (.iaload, 1) := by decide +kernel
theorem d_Law_main_458 : decode M_Law_main.2.1 458 = .ok (.invokevirtual 139, 3) := by decide +kernel
theorem d_Law_main_461 : decode M_Law_main.2.1 461 = .ok (.istore 6, 2) := by decide +kernel
theorem d_Law_main_463 : decode M_Law_main.2.1 463 = .ok (.goto 1010, 3) := by decide +kernel
theorem d_Law_main_466 : decode M_Law_main.2.1 466 = .ok (.aload_n 1, 1) := by decide +kernel
theorem d_Law_main_467 : decode M_Law_main.2.1 467 = .ok (.aload_n 0, 1) := by decide +kernel
theorem d_Law_main_468 : decode M_Law_main.2.1 468 = .ok (.iload 4, 2) := by decide +kernel
theorem d_Law_main_470 : decode M_Law_main.2.1 470 = .ok (.iconst 1, 1) := by decide +kernel
theorem d_Law_main_471 : decode M_Law_main.2.1 471 = .ok (.iadd, 1) := by decide +kernel
theorem d_Law_main_472 : decode M_Law_main.2.1 472 = .ok (.iaload, 1) := by decide +kernel
theorem d_Law_main_473 : decode M_Law_main.2.1 473 = .ok (.aload_n 0, 1) := by decide +kernel
theorem d_Law_main_474 : decode M_Law_main.2.1 474 = .ok (.iload 4, 2) := by decide +kernel
theorem d_Law_main_476 : decode M_Law_main.2.1 476 = .ok (.iconst 2, 1) := by decide +kernel
theorem d_Law_main_477 : decode M_Law_main.2.1 477 = .ok (.iadd, 1) := by decide +kernel
theorem d_Law_main_478 : decode M_Law_main.2.1 478 = .ok (.iaload, 1) := by decide +kernel
theorem d_Law_main_479 : decode M_Law_main.2.1 479 = .ok (.aload_n 3, 1) := by decide +kernel
theorem d_Law_main_480 : decode M_Law_main.2.1 480 = .ok (.invokestatic 140, 3) := by decide +kernel
theorem d_Law_main_483 : decode M_Law_main.2.1 483 = .ok (.istore 5, 2) := by decide +kernel
theorem d_Law_main_485 : decode M_Law_main.2.1 485 = .ok (.aload_n 2, 1) := by decide +kernel
theorem d_Law_main_486 : decode M_Law_main.2.1 486 = .ok (.aload_n 0, 1) := by decide +kernel
theorem d_Law_main_487 : decode M_Law_main.2.1 487 = .ok (.iload 4, 2) := by decide +kernel
theorem d_Law_main_489 : decode M_Law_main.2.1 489 = .ok (.iconst 1, 1) := by decide +kernel
theorem d_Law_main_490 : decode M_Law_main.2.1 490 = .ok (.iadd, 1) := by decide +kernel
theorem d_Law_main_491 : decode M_Law_main.2.1 491 = .ok (.iaload, 1) := by decide +kernel
theorem d_Law_main_492 : decode M_Law_main.2.1 492 = .ok (.aload_n 0, 1) := by decide +kernel
theorem d_Law_main_493 : decode M_Law_main.2.1 493 = .ok (.iload 4, 2) := by decide +kernel
theorem d_Law_main_495 : decode M_Law_main.2.1 495 = .ok (.iconst 2, 1) := by decide +kernel
theorem d_Law_main_496 : decode M_Law_main.2.1 496 = .ok (.iadd, 1) := by decide +kernel
theorem d_Law_main_497 : decode M_Law_main.2.1 497 = .ok (.iaload, 1) := by decide +kernel
theorem d_Law_main_498 : decode M_Law_main.2.1 498 = .ok (.invokevirtual 142, 3) := by decide +kernel
theorem d_Law_main_501 : decode M_Law_main.2.1 501 = .ok (.istore 6, 2) := by decide +kernel
theorem d_Law_main_503 : decode M_Law_main.2.1 503 = .ok (.goto 970, 3) := by decide +kernel
theorem d_Law_main_506 : decode M_Law_main.2.1 506 = .ok (.aload_n 1, 1) := by decide +kernel
theorem d_Law_main_507 : decode M_Law_main.2.1 507 = .ok (.aload_n 0, 1) := by decide +kernel
theorem d_Law_main_508 : decode M_Law_main.2.1 508 = .ok (.iload 4, 2) := by decide +kernel
theorem d_Law_main_510 : decode M_Law_main.2.1 510 = .ok (.iconst 1, 1) := by decide +kernel
theorem d_Law_main_511 : decode M_Law_main.2.1 511 = .ok (.iadd, 1) := by decide +kernel
theorem d_Law_main_512 : decode M_Law_main.2.1 512 = .ok (.iaload, 1) := by decide +kernel
theorem d_Law_main_513 : decode M_Law_main.2.1 513 = .ok (.invokevirtual 143, 3) := by decide +kernel
theorem d_Law_main_516 : decode M_Law_main.2.1 516 = .ok (.pop, 1) := by decide +kernel
theorem d_Law_main_517 : decode M_Law_main.2.1 517 = .ok (.aload_n 2, 1) := by decide +kernel
theorem d_Law_main_518 : decode M_Law_main.2.1 518 = .ok (.aload_n 0, 1) := by decide +kernel
theorem d_Law_main_519 : decode M_Law_main.2.1 519 = .ok (.iload 4, 2) := by decide +kernel
theorem d_Law_main_521 : decode M_Law_main.2.1 521 = .ok (.iconst 1, 1) := by decide +kernel
theorem d_Law_main_522 : decode M_Law_main.2.1 522 = .ok (.iadd, 1) := by decide +kernel
theorem d_Law_main_523 : decode M_Law_main.2.1 523 = .ok (.iaload, 1) := by decide +kernel
theorem d_Law_main_524 : decode M_Law_main.2.1 524 = .ok (.invokevirtual 146, 3) := by decide +kernel
theorem d_Law_main_527 : decode M_Law_main.2.1 527 = .ok (.pop, 1) := by decide +kernel
theorem d_Law_main_528 : decode M_Law_main.2.1 528 = .ok (.goto 945, 3) := by decide +kernel
theorem d_Law_main_531 : decode M_Law_main.2.1 531 = .ok (.aload_n 1, 1) := by decide +kernel
theorem d_Law_main_532 : decode M_Law_main.2.1 532 = .ok (.aload_n 0, 1) := by decide +kernel
theorem d_Law_main_533 : decode M_Law_main.2.1 533 = .ok (.iload 4, 2) := by decide +kernel
theorem d_Law_main_535 : decode M_Law_main.2.1 535 = .ok (.iconst 1, 1) := by decide +kernel
theorem d_Law_main_536 : decode M_Law_main.2.1 536 = .ok (.iadd, 1) := by decide +kernel
theorem d_Law_main_537 : decode M_Law_main.2.1 537 = .ok (.iaload, 1) := by decide +kernel
theorem d_Law_main_538 : decode M_Law_main.2.1 538 = .ok (.aload_n 0, 1) := by decide +kernel
theorem d_Law_main_539 : decode M_Law_main.2.1 539 = .ok (.iload 4, 2) := by decide +kernel
theorem d_Law_main_541 : decode M_Law_main.2.1 541 = .ok (.iconst 2, 1) := by decide +kernel
theorem d_Law_main_542 : decode M_Law_main.2.1 542 = .ok (.iadd, 1) := by decide +kernel
theorem d_Law_main_543 : decode M_Law_main.2.1 543 = .ok (.iaload, 1) := by decide +kernel
theorem d_Law_main_544 : decode M_Law_main.2.1 544 = .ok (.aload_n 0, 1) := by decide +kernel
theorem d_Law_main_545 : decode M_Law_main.2.1 545 = .ok (.iload 4, 2) := by decide +kernel
theorem d_Law_main_547 : decode M_Law_main.2.1 547 = .ok (.iconst 3, 1) := by decide +kernel
theorem d_Law_main_548 : decode M_Law_main.2.1 548 = .ok (.iadd, 1) := by decide +kernel
theorem d_Law_main_549 : decode M_Law_main.2.1 549 = .ok (.iaload, 1) := by decide +kernel
theorem d_Law_main_550 : decode M_Law_main.2.1 550 = .ok (.aload_n 0, 1) := by decide +kernel
theorem d_Law_main_551 : decode M_Law_main.2.1 551 = .ok (.iload 4, 2) := by decide +kernel
theorem d_Law_main_553 : decode M_Law_main.2.1 553 = .ok (.iconst 4, 1) := by decide +kernel
theorem d_Law_main_554 : decode M_Law_main.2.1 554 = .ok (.iadd, 1) := by decide +kernel
theorem d_Law_main_555 : decode M_Law_main.2.1 555 = .ok (.iaload, 1) := by decide +kernel
theorem d_Law_main_556 : decode M_Law_main.2.1 556 = .ok (.aload_n 3, 1) := by decide +kernel
theorem d_Law_main_557 : decode M_Law_main.2.1 557 = .ok (.invokestatic 147, 3) := by decide +kernel
theorem d_Law_main_560 : decode M_Law_main.2.1 560 = .ok (.istore 5, 2) := by decide +kernel
theorem d_Law_main_562 : decode M_Law_main.2.1 562 = .ok (.aload_n 2, 1) := by decide +kernel
theorem d_Law_main_563 : decode M_Law_main.2.1 563 = .ok (.aload_n 0, 1) := by decide +kernel
theorem d_Law_main_564 : decode M_Law_main.2.1 564 = .ok (.iload 4, 2) := by decide +kernel
theorem d_Law_main_566 : decode M_Law_main.2.1 566 = .ok (.iconst 1, 1) := by decide +kernel
theorem d_Law_main_567 : decode M_Law_main.2.1 567 = .ok (.iadd, 1) := by decide +kernel
theorem d_Law_main_568 : decode M_Law_main.2.1 568 = .ok (.iaload, 1) := by decide +kernel
theorem d_Law_main_569 : decode M_Law_main.2.1 569 = .ok (.aload_n 0, 1) := by decide +kernel
theorem d_Law_main_570 : decode M_Law_main.2.1 570 = .ok (.iload 4, 2) := by decide +kernel
theorem d_Law_main_572 : decode M_Law_main.2.1 572 = .ok (.iconst 2, 1) := by decide +kernel
theorem d_Law_main_573 : decode M_Law_main.2.1 573 = .ok (.iadd, 1) := by decide +kernel
theorem d_Law_main_574 : decode M_Law_main.2.1 574 = .ok (.iaload, 1) := by decide +kernel
theorem d_Law_main_575 : decode M_Law_main.2.1 575 = .ok (.aload_n 0, 1) := by decide +kernel
theorem d_Law_main_576 : decode M_Law_main.2.1 576 = .ok (.iload 4, 2) := by decide +kernel
theorem d_Law_main_578 : decode M_Law_main.2.1 578 = .ok (.iconst 3, 1) := by decide +kernel
theorem d_Law_main_579 : decode M_Law_main.2.1 579 = .ok (.iadd, 1) := by decide +kernel
theorem d_Law_main_580 : decode M_Law_main.2.1 580 = .ok (.iaload, 1) := by decide +kernel
theorem d_Law_main_581 : decode M_Law_main.2.1 581 = .ok (.aload_n 0, 1) := by decide +kernel
theorem d_Law_main_582 : decode M_Law_main.2.1 582 = .ok (.iload 4, 2) := by decide +kernel
theorem d_Law_main_584 : decode M_Law_main.2.1 584 = .ok (.iconst 4, 1) := by decide +kernel
theorem d_Law_main_585 : decode M_Law_main.2.1 585 = .ok (.iadd, 1) := by decide +kernel
theorem d_Law_main_586 : decode M_Law_main.2.1 586 = .ok (.iaload, 1) := by decide +kernel
theorem d_Law_main_587 : decode M_Law_main.2.1 587 = .ok (.invokevirtual 150, 3) := by decide +kernel
theorem d_Law_main_590 : decode M_Law_main.2.1 590 = .ok (.istore 6, 2) := by decide +kernel
theorem d_Law_main_592 : decode M_Law_main.2.1 592 = .ok (.goto 881, 3) := by decide +kernel
theorem d_Law_main_595 : decode M_Law_main.2.1 595 = .ok (.aload_n 1, 1) := by decide +kernel
theorem d_Law_main_596 : decode M_Law_main.2.1 596 = .ok (.aload_n 0, 1) := by decide +kernel
theorem d_Law_main_597 : decode M_Law_main.2.1 597 = .ok (.iload 4, 2) := by decide +kernel
theorem d_Law_main_599 : decode M_Law_main.2.1 599 = .ok (.iconst 1, 1) := by decide +kernel
theorem d_Law_main_600 : decode M_Law_main.2.1 600 = .ok (.iadd, 1) := by decide +kernel
theorem d_Law_main_601 : decode M_Law_main.2.1 601 = .ok (.iaload, 1) := by decide +kernel
theorem d_Law_main_602 : decode M_Law_main.2.1 602 = .ok (.aload_n 0, 1) := by decide +kernel
theorem d_Law_main_603 : decode M_Law_main.2.1 603 = .ok (.iload 4, 2) := by decide +kernel
theorem d_Law_main_605 : decode M_Law_main.2.1 605 = .ok (.iconst 2, 1) := by decide +kernel
theorem d_Law_main_606 : decode M_Law_main.2.1 606 = .ok (.iadd, 1) := by decide +kernel
theorem d_Law_main_607 : decode M_Law_main.2.1 607 = .ok (.iaload, 1) := by decide +kernel
theorem d_Law_main_608 : decode M_Law_main.2.1 608 = .ok (.aload_n 3, 1) := by decide +kernel
theorem d_Law_main_609 : decode M_Law_main.2.1 609 = .ok (.invokestatic 151, 3) := by decide +kernel
theorem d_Law_main_612 : decode M_Law_main.2.1 612 = .ok (.istore 5, 2) := by decide +kernel
theorem d_Law_main_614 : decode M_Law_main.2.1 614 = .ok (.aload_n 2, 1) := by decide +kernel
theorem d_Law_main_615 : decode M_Law_main.2.1 615 = .ok (.aload_n 0, 1) := by decide +kernel
theorem d_Law_main_616 : decode M_Law_main.2.1 616 = .ok (.iload 4, 2) := by decide +kernel
theorem d_Law_main_618 : decode M_Law_main.2.1 618 = .ok (.iconst 1, 1) := by decide +kernel
theorem d_Law_main_619 : decode M_Law_main.2.1 619 = .ok (.iadd, 1) := by decide +kernel
theorem d_Law_main_620 : decode M_Law_main.2.1 620 = .ok (.iaload, 1) := by decide +kernel
theorem d_Law_main_621 : decode M_Law_main.2.1 621 = .ok (.aload_n 0, 1) := by decide +kernel
theorem d_Law_main_622 : decode M_Law_main.2.1 622 = .ok (.iload 4, 2) := by decide +kernel
theorem d_Law_main_624 : decode M_Law_main.2.1 624 = .ok (.iconst 2, 1) := by decide +kernel
theorem d_Law_main_625 : decode M_Law_main.2.1 625 = .ok (.iadd, 1) := by decide +kernel
theorem d_Law_main_626 : decode M_Law_main.2.1 626 = .ok (.iaload, 1) := by decide +kernel
theorem d_Law_main_627 : decode M_Law_main.2.1 627 = .ok (.invokevirtual 153, 3) := by decide +kernel
theorem d_Law_main_630 : decode M_Law_main.2.1 630 = .ok (.istore 6, 2) := by decide +kernel
theorem d_Law_main_632 : decode M_Law_main.2.1 632 = .ok (.goto 841, 3) := by decide +kernel
theorem d_Law_main_635 : decode M_Law_main.2.1 635 = .ok (.aload_n 1, 1) := by decide +kernel
theorem d_Law_main_636 : decode M_Law_main.2.1 636 = .ok (.aload_n 0, 1) := by decide +kernel
theorem d_Law_main_637 : decode M_Law_main.2.1 637 = .ok (.iload 4, 2) := by decide +kernel
theorem d_Law_main_639 : decode M_Law_main.2.1 639 = .ok (.iconst 1, 1) := by decide +kernel
theorem d_Law_main_640 : decode M_Law_main.2.1 640 = .ok (.iadd, 1) := by decide +kernel
theorem d_Law_main_641 : decode M_Law_main.2.1 641 = .ok (.iaload, 1) := by decide +kernel
theorem d_Law_main_642 : decode M_Law_main.2.1 642 = .ok (.aload_n 3, 1) := by decide +kernel
theorem d_Law_main_643 : decode M_Law_main.2.1 643 = .ok (.invokestatic 154, 3) := by decide +kernel
theorem d_Law_main_646 : decode M_Law_main.2.1 646 = .ok (.istore 5, 2) := by decide +kernel
theorem d_Law_main_648 : decode M_Law_main.2.1 648 = .ok (.aload_n 2, 1) := by decide +kernel
theorem d_Law_main_649 : decode M_Law_main.2.1 649 = .ok (.aload_n 0, 1) := by decide +kernel
theorem d_Law_main_650 : decode M_Law_main.2.1 650 = .ok (.iload 4, 2) := by decide +kernel
theorem d_Law_main_652 : decode M_Law_main.2.1 652 = .ok (.iconst 1, 1) := by decide +kernel
theorem d_Law_main_653 : decode M_Law_main.2.1 653 = .ok (.iadd, 1) := by decide +kernel
theorem d_Law_main_654 : decode M_Law_main.2.1 654 = .ok (.iaload, 1) := by decide +kernel
theorem d_Law_main_655 : decode M_Law_main.2.1 655 = .ok (.invokevirtual 156, 3) := by decide +kernel
theorem d_Law_main_658 : decode M_Law_main.2.1 658 = .ok (.istore 6, 2) := by decide +kernel
theorem d_Law_main_660 : decode M_Law_main.2.1 660 = .ok (.goto 813, 3) := by decide +kernel
theorem d_Law_main_663 : decode M_Law_main.2.1 663 = .ok (.aload_n 1, 1) := by decide +kernel
theorem d_Law_main_664 : decode M_Law_main.2.1 664 = .ok (.aload_n 0, 1) := by decide +kernel
theorem d_Law_main_665 : decode M_Law_main.2.1 665 = .ok (.iload 4, 2) := by decide +kernel
theorem d_Law_main_667 : decode M_Law_main.2.1 667 = .ok (.iconst 1, 1) := by decide +kernel
theorem d_Law_main_668 : decode M_Law_main.2.1 668 = .ok (.iadd, 1) := by decide +kernel
theorem d_Law_main_669 : decode M_Law_main.2.1 669 = .ok (.iaload, 1) := by decide +kernel
theorem d_Law_main_670 : decode M_Law_main.2.1 670 = .ok (.aload_n 3, 1) := by decide +kernel
theorem d_Law_main_671 : decode M_Law_main.2.1 671 = .ok (.invokestatic 157, 3) := by decide +kernel
theorem d_Law_main_674 : decode M_Law_main.2.1 674 = .ok (.istore 5, 2) := by decide +kernel
theorem d_Law_main_676 : decode M_Law_main.2.1 676 = .ok (.aload_n 2, 1) := by decide +kernel
theorem d_Law_main_677 : decode M_Law_main.2.1 677 = .ok (.aload_n 0, 1) := by decide +kernel
theorem d_Law_main_678 : decode M_Law_main.2.1 678 = .ok (.iload 4, 2) := by decide +kernel
theorem d_Law_main_680 : decode M_Law_main.2.1 680 = .ok (.iconst 1, 1) := by decide +kernel
theorem d_Law_main_681 : decode M_Law_main.2.1 681 = .ok (.iadd, 1) := by decide +kernel
theorem d_Law_main_682 : decode M_Law_main.2.1 682 = .ok (.iaload, 1) := by decide +kernel
theorem d_Law_main_683 : decode M_Law_main.2.1 683 = .ok (.invokevirtual 159, 3) := by decide +kernel
theorem d_Law_main_686 : decode M_Law_main.2.1 686 = .ok (.istore 6, 2) := by decide +kernel
theorem d_Law_main_688 : decode M_Law_main.2.1 688 = .ok (.goto 785, 3) := by decide +kernel
theorem d_Law_main_691 : decode M_Law_main.2.1 691 = .ok (.aload_n 1, 1) := by decide +kernel
theorem d_Law_main_692 : decode M_Law_main.2.1 692 = .ok (.aload_n 0, 1) := by decide +kernel
theorem d_Law_main_693 : decode M_Law_main.2.1 693 = .ok (.iload 4, 2) := by decide +kernel
theorem d_Law_main_695 : decode M_Law_main.2.1 695 = .ok (.iconst 1, 1) := by decide +kernel
theorem d_Law_main_696 : decode M_Law_main.2.1 696 = .ok (.iadd, 1) := by decide +kernel
theorem d_Law_main_697 : decode M_Law_main.2.1 697 = .ok (.iaload, 1) := by decide +kernel
theorem d_Law_main_698 : decode M_Law_main.2.1 698 = .ok (.aload_n 0, 1) := by decide +kernel
theorem d_Law_main_699 : decode M_Law_main.2.1 699 = .ok (.iload 4, 2) := by decide +kernel
theorem d_Law_main_701 : decode M_Law_main.2.1 701 = .ok (.iconst 2, 1) := by decide +kernel
theorem d_Law_main_702 : decode M_Law_main.2.1 702 = .ok (.iadd, 1) := by decide +kernel
theorem d_Law_main_703 : decode M_Law_main.2.1 703 = .ok (.iaload, 1) := by decide +kernel
theorem d_Law_main_704 : decode M_Law_main.2.1 704 = .ok (.aload_n 3, 1) := by decide +kernel
theorem d_Law_main_705 : decode M_Law_main.2.1 705 = .ok (.invokestatic 160, 3) := by decide +kernel
theorem d_Law_main_708 : decode M_Law_main.2.1 708 = .ok (.istore 5, 2) := by decide +kernel
theorem d_Law_main_710 : decode M_Law_main.2.1 710 = .ok (.aload_n 2, 1) := by decide +kernel
theorem d_Law_main_711 : decode M_Law_main.2.1 711 = .ok (.aload_n 0, 1) := by decide +kernel
theorem d_Law_main_712 : decode M_Law_main.2.1 712 = .ok (.iload 4, 2) := by decide +kernel
theorem d_Law_main_714 : decode M_Law_main.2.1 714 = .ok (.iconst 1, 1) := by decide +kernel
theorem d_Law_main_715 : decode M_Law_main.2.1 715 = .ok (.iadd, 1) := by decide +kernel
theorem d_Law_main_716 : decode M_Law_main.2.1 716 = .ok (.iaload, 1) := by decide +kernel
theorem d_Law_main_717 : decode M_Law_main.2.1 717 = .ok (.aload_n 0, 1) := by decide +kernel
theorem d_Law_main_718 : decode M_Law_main.2.1 718 = .ok (.iload 4, 2) := by decide +kernel
theorem d_Law_main_720 : decode M_Law_main.2.1 720 = .ok (.iconst 2, 1) := by decide +kernel
theorem d_Law_main_721 : decode M_Law_main.2.1 721 = .ok (.iadd, 1) := by decide +kernel
theorem d_Law_main_722 : decode M_Law_main.2.1 722 = .ok (.iaload, 1) := by decide +kernel
theorem d_Law_main_723 : decode M_Law_main.2.1 723 = .ok (.invokevirtual 162, 3) := by decide +kernel
theorem d_Law_main_726 : decode M_Law_main.2.1 726 = .ok (.istore 6, 2) := by decide +kernel
theorem d_Law_main_728 : decode M_Law_main.2.1 728 = .ok (.goto 745, 3) := by decide +kernel
theorem d_Law_main_731 : decode M_Law_main.2.1 731 = .ok (.aload_n 1, 1) := by decide +kernel
theorem d_Law_main_732 : decode M_Law_main.2.1 732 = .ok (.aload_n 0, 1) := by decide +kernel
theorem d_Law_main_733 : decode M_Law_main.2.1 733 = .ok (.iload 4, 2) := by decide +kernel
theorem d_Law_main_735 : decode M_Law_main.2.1 735 = .ok (.iconst 1, 1) := by decide +kernel
theorem d_Law_main_736 : decode M_Law_main.2.1 736 = .ok (.iadd, 1) := by decide +kernel
theorem d_Law_main_737 : decode M_Law_main.2.1 737 = .ok (.iaload, 1) := by decide +kernel
theorem d_Law_main_738 : decode M_Law_main.2.1 738 = .ok (.aload_n 0, 1) := by decide +kernel
theorem d_Law_main_739 : decode M_Law_main.2.1 739 = .ok (.iload 4, 2) := by decide +kernel
theorem d_Law_main_741 : decode M_Law_main.2.1 741 = .ok (.iconst 2, 1) := by decide +kernel
theorem d_Law_main_742 : decode M_Law_main.2.1 742 = .ok (.iadd, 1) := by decide +kernel
theorem d_Law_main_743 : decode M_Law_main.2.1 743 = .ok (.iaload, 1) := by decide +kernel
theorem d_Law_main_744 : decode M_Law_main.2.1 744 = .ok (.aload_n 0, 1) := by decide +kernel
theorem d_Law_main_745 : decode M_Law_main.2.1 745 = .ok (.iload 4, 2) := by decide +kernel
theorem d_Law_main_747 : decode M_Law_main.2.1 747 = .ok (.iconst 3, 1) := by decide +kernel
theorem d_Law_main_748 : decode M_Law_main.2.1 748 = .ok (.iadd, 1) := by decide +kernel
theorem d_Law_main_749 : decode M_Law_main.2.1 749 = .ok (.iaload, 1) := by decide +kernel
theorem d_Law_main_750 : decode M_Law_main.2.1 750 = .ok (.aload_n 3, 1) := by decide +kernel
theorem d_Law_main_751 : decode M_Law_main.2.1 751 = .ok (.invokestatic 163, 3) := by decide +kernel
theorem d_Law_main_754 : decode M_Law_main.2.1 754 = .ok (.istore 5, 2) := by decide +kernel
theorem d_Law_main_756 : decode M_Law_main.2.1 756 = .ok (.aload_n 2, 1) := by decide +kernel
theorem d_Law_main_757 : decode M_Law_main.2.1 757 = .ok (.aload_n 0, 1) := by decide +kernel
theorem d_Law_main_758 : decode M_Law_main.2.1 758 = .ok (.iload 4, 2) := by decide +kernel
theorem d_Law_main_760 : decode M_Law_main.2.1 760 = .ok (.iconst 1, 1) := by decide +kernel
theorem d_Law_main_761 : decode M_Law_main.2.1 761 = .ok (.iadd, 1) := by decide +kernel
theorem d_Law_main_762 : decode M_Law_main.2.1 762 = .ok (.iaload, 1) := by decide +kernel
theorem d_Law_main_763 : decode M_Law_main.2.1 763 = .ok (.aload_n 0, 1) := by decide +kernel
theorem d_Law_main_764 : decode M_Law_main.2.1 764 = .ok (.iload 4, 2) := by decide +kernel
theorem d_Law_main_766 : decode M_Law_main.2.1 766 = .ok (.iconst 2, 1) := by decide +kernel
theorem d_Law_main_767 : decode M_Law_main.2.1 767 = .ok (.iadd, 1) := by decide +kernel
theorem d_Law_main_768 : decode M_Law_main.2.1 768 = .ok (.iaload, 1) := by decide +kernel
theorem d_Law_main_769 : decode M_Law_main.2.1 769 = .ok (.aload_n 0, 1) := by decide +kernel
theorem d_Law_main_770 : decode M_Law_main.2.1 770 = .ok (.iload 4, 2) := by decide +kernel
theorem d_Law_main_772 : decode M_Law_main.2.1 772 = .ok (.iconst 3, 1) := by decide +kernel
theorem d_Law_main_773 : decode M_Law_main.2.1 773 = .ok (.iadd, 1) := by decide +kernel
theorem d_Law_main_774 : decode M_Law_main.2.1 774 = .ok (.iaload, 1) := by decide +kernel
theorem d_Law_main_775 : decode M_Law_main.2.1 775 = .ok (.invokevirtual 166, 3) := by decide +kernel
theorem d_Law_main_778 : decode M_Law_main.2.1 778 = .ok (.istore 6, 2) := by decide +kernel
theorem d_Law_main_780 : decode M_Law_main.2.1 780 = .ok (.goto 693, 3) := by decide +kernel
theorem d_Law_main_783 : decode M_Law_main.2.1 783 = .ok (.aload_n 1, 1) := by decide +kernel
theorem d_Law_main_784 : decode M_Law_main.2.1 784 = .ok (.aload_n 0, 1) := by decide +kernel
theorem d_Law_main_785 : decode M_Law_main.2.1 785 = .ok (.iload 4, 2) := by decide +kernel
theorem d_Law_main_787 : decode M_Law_main.2.1 787 = .ok (.iconst 1, 1) := by decide +kernel
theorem d_Law_main_788 : decode M_Law_main.2.1 788 = .ok (.iadd, 1) := by decide +kernel
theorem d_Law_main_789 : decode M_Law_main.2.1 789 = .ok (.iaload, 1) := by decide +kernel
theorem d_Law_main_790 : decode M_Law_main.2.1 790 = .ok (.aload_n 3, 1) := by decide +kernel
theorem d_Law_main_791 : decode M_Law_main.2.1 791 = .ok (.invokestatic 167, 3) := by decide +kernel
theorem d_Law_main_794 : decode M_Law_main.2.1 794 = .ok (.istore 5, 2) := by decide +kernel
theorem d_Law_main_796 : decode M_Law_main.2.1 796 = .ok (.aload_n 2, 1) := by decide +kernel
theorem d_Law_main_797 : decode M_Law_main.2.1 797 = .ok (.aload_n 0, 1) := by decide +kernel
theorem d_Law_main_798 : decode M_Law_main.2.1 798 = .ok (.iload 4, 2) := by decide +kernel
theorem d_Law_main_800 : decode M_Law_main.2.1 800 = .ok (.iconst 1, 1) := by decide +kernel
theorem d_Law_main_801 : decode M_Law_main.2.1 801 = .ok (.iadd, 1) := by decide +kernel
theorem d_Law_main_802 : decode M_Law_main.2.1 802 = .ok (.iaload, 1) := by decide +kernel
theorem d_Law_main_803 : decode M_Law_main.2.1 803 = .ok (.invokevirtual 169, 3) := by decide +kernel
theorem d_Law_main_806 : decode M_Law_main.2.1 806 = .ok (.istore 6, 2) := by decide +kernel
theorem d_Law_main_808 : decode M_Law_main.2.1 808 = .ok (.goto 665, 3) := by decide +kernel
theorem d_Law_main_811 : decode M_Law_main.2.1 811 = .ok (.aload_n 1, 1) := by decide +kernel
theorem d_Law_main_812 : decode M_Law_main.2.1 812 = .ok (.invokevirtual 170, 3) := by decide +kernel
theorem d_Law_main_815 : decode M_Law_main.2.1 815 = .ok (.pop, 1) := by decide +kernel
theorem d_Law_main_816 : decode M_Law_main.2.1 816 = .ok (.aload_n 2, 1) := by decide +kernel
theorem d_Law_main_817 : decode M_Law_main.2.1 817 = .ok (.invokevirtual 173, 3) := by decide +kernel
theorem d_Law_main_820 : decode M_Law_main.2.1 820 = .ok (.pop, 1) := by decide +kernel
theorem d_Law_main_821 : decode M_Law_main.2.1 821 = .ok (.goto 652, 3) := by decide +kernel
theorem d_Law_main_824 : decode M_Law_main.2.1 824 = .ok (.aload_n 1, 1) := by decide +kernel
theorem d_Law_main_825 : decode M_Law_main.2.1 825 = .ok (.aload_n 0, 1) := by decide +kernel
theorem d_Law_main_826 : decode M_Law_main.2.1 826 = .ok (.iload 4, 2) := by decide +kernel
theorem d_Law_main_828 : decode M_Law_main.2.1 828 = .ok (.iconst 1, 1) := by decide +kernel
theorem d_Law_main_829 : decode M_Law_main.2.1 829 = .ok (.iadd, 1) := by decide +kernel
theorem d_Law_main_830 : decode M_Law_main.2.1 830 = .ok (.iaload, 1) := by decide +kernel
theorem d_Law_main_831 : decode M_Law_main.2.1 831 = .ok (.aload_n 3, 1) := by decide +kernel
theorem d_Law_main_832 : decode M_Law_main.2.1 832 = .ok (.invokestatic 174, 3) := by decide +kernel
theorem d_Law_main_835 : decode M_Law_main.2.1 835 = .ok (.istore 5, 2) := by decide +kernel
theorem d_Law_main_837 : decode M_Law_main.2.1 837 = .ok (.aload_n 2, 1) := by decide +kernel
theorem d_Law_main_838 : decode M_Law_main.2.1 838 = .ok (.aload_n 0, 1) := by decide +kernel
theorem d_Law_main_839 : decode M_Law_main.2.1 839 = .ok (.iload 4, 2) := by decide +kernel
theorem d_Law_main_841 : decode M_Law_main.2.1 841 = .ok (.iconst 1, 1) := by decide +kernel
theorem d_Law_main_842 : decode M_Law_main.2.1 842 = .ok (.iadd, 1) := by decide +kernel
theorem d_Law_main_843 : decode M_Law_main.2.1 843 = .ok (.iaload, 1) := by decide +kernel
theorem d_Law_main_844 : decode M_Law_main.2.1 844 = .ok (.invokevirtual 176, 3) := by decide +kernel
theorem d_Law_main_847 : decode M_Law_main.2.1 847 = .ok (.istore 6, 2) := by decide +kernel
theorem d_Law_main_849 : decode M_Law_main.2.1 849 = .ok (.goto 624, 3) := by decide +kernel
theorem d_Law_main_852 : decode M_Law_main.2.1 852 = .ok (.aload_n 1, 1) := by decide +kernel
theorem d_Law_main_853 : decode M_Law_main.2.1 853 = .ok (.invokevirtual 177, 3) := by decide +kernel
theorem d_Law_main_856 : decode M_Law_main.2.1 856 = .ok (.pop, 1) := by decide +kernel
theorem d_Law_main_857 : decode M_Law_main.2.1 857 = .ok (.aload_n 2, 1) := by decide +kernel
theorem d_Law_main_858 : decode M_Law_main.2.1 858 = .ok (.invokevirtual 180, 3) := by decide +kernel
theorem d_Law_main_861 : decode M_Law_main.2.1 861 = .ok (.pop, 1) := by decide +kernel
theorem d_Law_main_862 : decode M_Law_main.2.1 862 = .ok (.goto 611, 3) := by decide +kernel
theorem d_Law_main_865 : decode M_Law_main.2.1 865 = .ok (.aload_n 1, 1) := by decide +kernel
theorem d_Law_main_866 : decode M_Law_main.2.1 866 = .ok (.aload_n 0, 1) := by decide +kernel
theorem d_Law_main_867 : decode M_Law_main.2.1 867 = .ok (.iload 4, 2) := by decide +kernel
theorem d_Law_main_869 : decode M_Law_main.2.1 869 = .ok (.iconst 1, 1) := by decide +kernel
theorem d_Law_main_870 : decode M_Law_main.2.1 870 = .ok (.iadd, 1) := by decide +kernel
theorem d_Law_main_871 : decode M_Law_main.2.1 871 = .ok (.iaload, 1) := by decide +kernel
theorem d_Law_main_872 : decode M_Law_main.2.1 872 = .ok (.aload_n 3, 1) := by decide +kernel
theorem d_Law_main_873 : decode M_Law_main.2.1 873 = .ok (.invokestatic 181, 3) := by decide +kernel
theorem d_Law_main_876 : decode M_Law_main.2.1 876 = .ok (.istore 5, 2) := by decide +kernel
theorem d_Law_main_878 : decode M_Law_main.2.1 878 = .ok (.aload_n 2, 1) := by decide +kernel
theorem d_Law_main_879 : decode M_Law_main.2.1 879 = .ok (.aload_n 0, 1) := by decide +kernel
theorem d_Law_main_880 : decode M_Law_main.2.1 880 = .ok (.iload 4, 2) := by decide +kernel
theorem d_Law_main_882 : decode M_Law_main.2.1 882 = .ok (.iconst 1, 1) := by decide +kernel
theorem d_Law_main_883 : decode M_Law_main.2.1 883 = .ok (.iadd, 1) := by decide +kernel
theorem d_Law_main_884 : decode M_Law_main.2.1 884 = .ok (.iaload, 1) := by decide +kernel
theorem d_Law_main_885 : decode M_Law_main.2.1 885 = .ok (.invokevirtual 183, 3) := by decide +kernel
theorem d_Law_main_888 : decode M_Law_main.2.1 888 = .ok (.istore 6, 2) := by decide +kernel
theorem d_Law_main_890 : decode M_Law_main.2.1 890 = .ok (.goto 583, 3) := by decide +kernel
theorem d_Law_main_893 : decode M_Law_main.2.1 893 = .ok (.aload_n 1, 1) := by decide +kernel
theorem d_Law_main_894 : decode M_Law_main.2.1 894 = .ok (.invokevirtual 184, 3) := by decide +kernel
theorem d_Law_main_897 : decode M_Law_main.2.1 897 = .ok (.pop, 1) := by decide +kernel
theorem d_Law_main_898 : decode M_Law_main.2.1 898 = .ok (.aload_n 2, 1) := by decide +kernel
theorem d_Law_main_899 : decode M_Law_main.2.1 899 = .ok (.invokevirtual 187, 3) := by decide +kernel
theorem d_Law_main_902 : decode M_Law_main.2.1 902 = .ok (.pop, 1) := by decide +kernel
theorem d_Law_main_903 : decode M_Law_main.2.1 903 = .ok (.goto 570, 3) := by decide +kernel
theorem d_Law_main_906 : decode M_Law_main.2.1 906 = .ok (.aload_n 1, 1) := by decide +kernel
theorem d_Law_main_907 : decode M_Law_main.2.1 907 = .ok (.invokevirtual 188, 3) := by decide +kernel
theorem d_Law_main_910 : decode M_Law_main.2.1 910 = .ok (.pop, 1) := by decide +kernel
theorem d_Law_main_911 : decode M_Law_main.2.1 911 = .ok (.aload_n 2, 1) := by decide +kernel
theorem d_Law_main_912 : decode M_Law_main.2.1 912 = .ok (.invokevirtual 191, 3) := by decide +kernel
theorem d_Law_main_915 : decode M_Law_main.2.1 915 = .ok (.pop, 1) := by decide +kernel
theorem d_Law_main_916 : decode M_Law_main.2.1 916 = .ok (.goto 557, 3) := by decide +kernel
theorem d_Law_main_919 : decode M_Law_main.2.1 919 = .ok (.aload_n 1, 1) := by decide +kernel
theorem d_Law_main_920 : decode M_Law_main.2.1 920 = .ok (.aload_n 0, 1) := by decide +kernel
theorem d_Law_main_921 : decode M_Law_main.2.1 921 = .ok (.iload 4, 2) := by decide +kernel
theorem d_Law_main_923 : decode M_Law_main.2.1 923 = .ok (.iconst 1, 1) := by decide +kernel
theorem d_Law_main_924 : decode M_Law_main.2.1 924 = .ok (.iadd, 1) := by decide +kernel
theorem d_Law_main_925 : decode M_Law_main.2.1 925 = .ok (.iaload, 1) := by decide +kernel
theorem d_Law_main_926 : decode M_Law_main.2.1 926 = .ok (.aload_n 3, 1) := by decide +kernel
theorem d_Law_main_927 : decode M_Law_main.2.1 927 = .ok (.invokestatic 192, 3) := by decide +kernel
