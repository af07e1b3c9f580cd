theorem d_L_law_0 : decode cL_law 0 = .ok (.new 7, 3) := by decide +kernel
theorem d_L_law_3 : decode cL_law 3 = .ok (.dup, 1) := by decide +kernel
theorem d_L_law_4 : decode cL_law 4 = .ok (.invokespecial 9, 3) := by decide +kernel
theorem d_L_law_7 : decode cL_law 7 = .ok (.astore_n 1, 1) := by decide +kernel
theorem d_L_law_8 : decode cL_law 8 = .ok (.new 10, 3) := by decide +kernel
theorem d_L_law_11 : decode cL_law 11 = .ok (.dup, 1) := by decide +kernel
theorem d_L_law_12 : decode cL_law 12 = .ok (.invokespecial 12, 3) := by decide +kernel
theorem d_L_law_15 : decode cL_law 15 = .ok (.astore_n 2, 1) := by decide +kernel
theorem d_L_law_16 : decode cL_law 16 = .ok (.iconst 0, 1) := by decide +kernel
theorem d_L_law_17 : decode cL_law 17 = .ok (.istore_n 3, 1) := by decide +kernel
theorem d_L_law_18 : decode cL_law 18 = .ok (.iload_n 3, 1) := by decide +kernel
theorem d_L_law_19 : decode cL_law 19 = .ok (.aload_n 0, 1) := by decide +kernel
theorem d_L_law_20 : decode cL_law 20 = .ok (.arraylength, 1) := by decide +kernel
theorem d_L_law_21 : decode cL_law 21 = .ok (.bipush 6, 2) := by decide +kernel
theorem d_L_law_23 : decode cL_law 23 = .ok (.isub, 1) := by decide +kernel
theorem d_L_law_24 : decode cL_law 24 = .ok (.if_icmp .gt 1713, 3) := by decide +kernel
theorem d_L_law_27 : decode cL_law 27 = .ok (.aload_n 0, 1) := by decide +kernel
theorem d_L_law_28 : decode cL_law 28 = .ok (.iload_n 3, 1) := by decide +kernel
theorem d_L_law_29 : decode cL_law 29 = .ok (.iaload, 1) := by decide +kernel
theorem d_L_law_30 : decode cL_law 30 = .ok (.bipush 63, 2) := by decide +kernel
theorem d_L_law_32 : decode cL_law 32 = .ok (.iand, 1) := by decide +kernel
theorem d_L_law_33 : decode cL_law 33 = .ok (.tableswitch 1698 0 40 #[179, 222, 255, 298, 347, 396, 449, 502, 535, 558, 581, 630, 653, 676, 709, 742, 785, 828, 841, 854, 877, 910, 943, 976, 1009, 1058, 1101, 1144, 1177, 1220, 1273, 1286, 1381, 1404, 1447, 1470, 1513, 1556, 1589, 1642, 1685], 179) := by decide +kernel
theorem d_L_law_212 : decode cL_law 212 = .ok (.aload_n 1, 1) := by decide +kernel
theorem d_L_law_213 : decode cL_law 213 = .ok (.aload_n 0, 1) := by decide +kernel
theorem d_L_law_214 : decode cL_law 214 = .ok (.iload_n 3, 1) := by decide +kernel
theorem d_L_law_215 : decode cL_law 215 = .ok (.iconst 1, 1) := by decide +kernel
theorem d_L_law_216 : decode cL_law 216 = .ok (.iadd, 1) := by decide +kernel
theorem d_L_law_217 : decode cL_law 217 = .ok (.iaload, 1) := by decide +kernel
theorem d_L_law_218 : decode cL_law 218 = .ok (.aload_n 0, 1) := by decide +kernel
theorem d_L_law_219 : decode cL_law 219 = .ok (.iload_n 3, 1) := by decide +kernel
theorem d_L_law_220 : decode cL_law 220 = .ok (.iconst 2, 1) := by decide +kernel
theorem d_L_law_221 : decode cL_law 221 = .ok (.iadd, 1) := by decide +kernel
theorem d_L_law_222 : decode cL_law 222 = .ok (.iaload, 1) := by decide +kernel
theorem d_L_law_223 : decode cL_law 223 = .ok (.aload_n 0, 1) := by decide +kernel
theorem d_L_law_224 : decode cL_law 224 = .ok (.iload_n 3, 1) := by decide +kernel
theorem d_L_law_225 : decode cL_law 225 = .ok (.iconst 3, 1) := by decide +kernel
theorem d_L_law_226 : decode cL_law 226 = .ok (.iadd, 1) := by decide +kernel
theorem d_L_law_227 : decode cL_law 227 = .ok (.iaload, 1) := by decide +kernel
theorem d_L_law_228 : decode cL_law 228 = .ok (.invokevirtual 13, 3) := by decide +kernel
theorem d_L_law_231 : decode cL_law 231 = .ok (.aload_n 2, 1) := by decide +kernel
theorem d_L_law_232 : decode cL_law 232 = .ok (.aload_n 0, 1) := by decide +kernel
theorem d_L_law_233 : decode cL_law 233 = .ok (.iload_n 3, 1) := by decide +kernel
theorem d_L_law_234 : decode cL_law 234 = .ok (.iconst 1, 1) := by decide +kernel
theorem d_L_law_235 : decode cL_law 235 = .ok (.iadd, 1) := by decide +kernel
theorem d_L_law_236 : decode cL_law 236 = .ok (.iaload, 1) := by decide +kernel
theorem d_L_law_237 : decode cL_law 237 = .ok (.aload_n 0, 1) := by decide +kernel
theorem d_L_law_238 : decode cL_law 238 = .ok (.iload_n 3, 1) := by decide +kernel
theorem d_L_law_239 : decode cL_law 239 = .ok (.iconst 2, 1) := by decide +kernel
theorem d_L_law_240 : decode cL_law 240 = .ok (.iadd, 1) := by decide +kernel
theorem d_L_law_241 : decode cL_law 241 = .ok (.iaload, 1) := by decide +kernel
theorem d_L_law_242 : decode cL_law 242 = .ok (.aload_n 0, 1) := by decide +kernel
theorem d_L_law_243 : decode cL_law 243 = .ok (.iload_n 3, 1) := by decide +kernel
theorem d_L_law_244 : decode cL_law 244 = .ok (.iconst 3, 1) := by decide +kernel
theorem d_L_law_245 : decode cL_law 245 = .ok (.iadd, 1) := by decide +kernel
theorem d_L_law_246 : decode cL_law 246 = .ok (.iaload, 1) := by decide +kernel
theorem d_L_law_247 : decode cL_law 247 = .ok (.invokevirtual 17, 3) := by decide +kernel
theorem d_L_law_250 : decode cL_law 250 = .ok (.if_icmp .eq 1481, 3) := by decide +kernel
theorem d_L_law_253 : decode cL_law 253 = .ok (.iconst 0, 1) := by decide +kernel
theorem d_L_law_254 : decode cL_law 254 = .ok (.ireturn, 1) := by decide +kernel
theorem d_L_law_255 : decode cL_law 255 = .ok (.aload_n 1, 1) := by decide +kernel
theorem d_L_law_256 : decode cL_law 256 = .ok (.aload_n 0, 1) := by decide +kernel
theorem d_L_law_257 : decode cL_law 257 = .ok (.iload_n 3, 1) := by decide +kernel
theorem d_L_law_258 : decode cL_law 258 = .ok (.iconst 1, 1) := by decide +kernel
theorem d_L_law_259 : decode cL_law 259 = .ok (.iadd, 1) := by decide +kernel
theorem d_L_law_260 : decode cL_law 260 = .ok (.iaload, 1) := by decide +kernel
theorem d_L_law_261 : decode cL_law 261 = .ok (.aload_n 0, 1) := by decide +kernel
theorem d_L_law_262 : decode cL_law 262 = .ok (.iload_n 3, 1) := by decide +kernel
theorem d_L_law_263 : decode cL_law 263 = .ok (.iconst 2, 1) := by decide +kernel
theorem d_L_law_264 : decode cL_law 264 = .ok (.iadd, 1) := by decide +kernel
theorem d_L_law_265 : decode cL_law 265 = .ok (.iaload, 1) := by decide +kernel
theorem d_L_law_266 : decode cL_law 266 = .ok (.invokevirtual 18, 3) := by decide +kernel
theorem d_L_law_269 : decode cL_law 269 = .ok (.aload_n 2, 1) := by decide +kernel
theorem d_L_law_270 : decode cL_law 270 = .ok (.aload_n 0, 1) := by decide +kernel
theorem d_L_law_271 : decode cL_law 271 = .ok (.iload_n 3, 1) := by decide +kernel
theorem d_L_law_272 : decode cL_law 272 = .ok (.iconst 1, 1) := by decide +kernel
theorem d_L_law_273 : decode cL_law 273 = .ok (.iadd, 1) := by decide +kernel
theorem d_L_law_274 : decode cL_law 274 = .ok (.iaload, 1) := by decide +kernel
theorem d_L_law_275 : decode cL_law 275 = .ok (.aload_n 0, 1) := by decide +kernel
theorem d_L_law_276 : decode cL_law 276 = .ok (.iload_n 3, 1) := by decide +kernel
theorem d_L_law_277 : decode cL_law 277 = .ok (.iconst 2, 1) := by decide +kernel
theorem d_L_law_278 : decode cL_law 278 = .ok (.iadd, 1) := by decide +kernel
theorem d_L_law_279 : decode cL_law 279 = .ok (.iaload, 1) := by decide +kernel
theorem d_L_law_280 : decode cL_law 280 = .ok (.invokevirtual 22, 3) := by decide +kernel
theorem d_L_law_283 : decode cL_law 283 = .ok (.if_icmp .eq 1448, 3) := by decide +kernel
theorem d_L_law_286 : decode cL_law 286 = .ok (.iconst 0, 1) := by decide +kernel
theorem d_L_law_287 : decode cL_law 287 = .ok (.ireturn, 1) := by decide +kernel
theorem d_L_law_288 : decode cL_law 288 = .ok (.aload_n 1, 1) := by decide +kernel
theorem d_L_law_289 : decode cL_law 289 = .ok (.aload_n 0, 1) := by decide +kernel
theorem d_L_law_290 : decode cL_law 290 = .ok (.iload_n 3, 1) := by decide +kernel
theorem d_L_law_291 : decode cL_law 291 = .ok (.iconst 1, 1) := by decide +kernel
theorem d_L_law_292 : decode cL_law 292 = .ok (.iadd, 1) := by decide +kernel
theorem d_L_law_293 : decode cL_law 293 = .ok (.iaload, 1) := by decide +kernel
theorem d_L_law_294 : decode cL_law 294 = .ok (.aload_n 0, 1) := by decide +kernel
theorem d_L_law_295 : decode cL_law 295 = .ok (.iload_n 3, 1) := by decide +kernel
theorem d_L_law_296 : decode cL_law 296 = .ok (.iconst 2, 1) := by decide +kernel
theorem d_L_law_297 : decode cL_law 297 = .ok (.iadd, 1) := by decide +kernel
theorem d_L_law_298 : decode cL_law 298 = .ok (.iaload, 1) := by decide +kernel
theorem d_L_law_299 : decode cL_law 299 = .ok (.aload_n 0, 1) := by decide +kernel
theorem d_L_law_300 : decode cL_law 300 = .ok (.iload_n 3, 1) := by decide +kernel
theorem d_L_law_301 : decode cL_law 301 = .ok (.iconst 3, 1) := by decide +kernel
theorem d_L_law_302 : decode cL_law 302 = .ok (.iadd, 1) := by decide +kernel
theorem d_L_law_303 : decode cL_law 303 = .ok (.iaload, 1) := by decide +kernel
theorem d_L_law_304 : decode cL_law 304 = .ok (.invokevirtual 23, 3) := by decide +kernel
theorem d_L_law_307 : decode cL_law 307 = .ok (.aload_n 2, 1) := by decide +kernel
theorem d_L_law_308 : decode cL_law 308 = .ok (.aload_n 0, 1) := by decide +kernel
theorem d_L_law_309 : decode cL_law 309 = .ok (.iload_n 3, 1) := by decide +kernel
theorem d_L_law_310 : decode cL_law 310 = .ok (.iconst 1, 1) := by decide +kernel
theorem d_L_law_311 : decode cL_law 311 = .ok (.iadd, 1) := by decide +kernel
theorem d_L_law_312 : decode cL_law 312 = .ok (.iaload, 1) := by decide +kernel
theorem d_L_law_313 : decode cL_law 313 = .ok (.aload_n 0, 1) := by decide +kernel
theorem d_L_law_314 : decode cL_law 314 = .ok (.iload_n 3, 1) := by decide +kernel
theorem d_L_law_315 : decode cL_law 315 = .ok (.iconst 2, 1) := by decide +kernel
theorem d_L_law_316 : decode cL_law 316 = .ok (.iadd, 1) := by decide +kernel
theorem d_L_law_317 : decode cL_law 317 = .ok (.iaload, 1) := by decide +kernel
theorem d_L_law_318 : decode cL_law 318 = .ok (.aload_n 0, 1) := by decide +kernel
theorem d_L_law_319 : decode cL_law 319 = .ok (.iload_n 3, 1) := by decide +kernel
theorem d_L_law_320 : decode cL_law 320 = .ok (.iconst 3, 1) := by decide +kernel
theorem d_L_law_321 : decode cL_law 321 = .ok (.iadd, 1) := by decide +kernel
theorem d_L_law_322 : decode cL_law 322 = .ok (.iaload, 1) := by decide +kernel
theorem d_L_law_323 : decode cL_law 323 = .ok (.invokevirtual 26, 3) := by decide +kernel
theorem d_L_law_326 : decode cL_law 326 = .ok (.if_icmp .eq 1405, 3) := by decide +kernel
theorem d_L_law_329 : decode cL_law 329 = .ok (.iconst 0, 1) := by decide +kernel
theorem d_L_law_330 : decode cL_law 330 = .ok (.ireturn, 1) := by decide +kernel
theorem d_L_law_331 : decode cL_law 331 = .ok (.aload_n 1, 1) := by decide +kernel
theorem d_L_law_332 : decode cL_law 332 = .ok (.aload_n 0, 1) := by decide +kernel
theorem d_L_law_333 : decode cL_law 333 = .ok (.iload_n 3, 1) := by decide +kernel
theorem d_L_law_334 : decode cL_law 334 = .ok (.iconst 1, 1) := by decide +kernel
theorem d_L_law_335 : decode cL_law 335 = .ok (.iadd, 1) := by decide +kernel
theorem d_L_law_336 : decode cL_law 336 = .ok (.iaload, 1) := by decide +kernel
theorem d_L_law_337 : decode cL_law 337 = .ok (.aload_n 0, 1) := by decide +kernel
theorem d_L_law_338 : decode cL_law 338 = .ok (.iload_n 3, 1) := by decide +kernel
theorem d_L_law_339 : decode cL_law 339 = .ok (.iconst 2, 1) := by decide +kernel
theorem d_L_law_340 : decode cL_law 340 = .ok (.iadd, 1) := by decide +kernel
theorem d_L_law_341 : decode cL_law 341 = .ok (.iaload, 1) := by decide +kernel
theorem d_L_law_342 : decode cL_law 342 = .ok (.ifCond .eq 7, 3) := by decide +kernel
theorem d_L_law_345 : decode cL_law 345 = .ok (.iconst 1, 1) := by decide +kernel
theorem d_L_law_346 : decode cL_law 346 = .ok (.goto 4, 3) := by decide +kernel
theorem d_L_law_349 : decode cL_law 349 = .ok (.iconst 0, 1) := by decide +kernel
theorem d_L_law_350 : decode cL_law 350 = .ok (.invokevirtual 27, 3) := by decide +kernel
theorem d_L_law_353 : decode cL_law 353 = .ok (.aload_n 2, 1) := by decide +kernel
theorem d_L_law_354 : decode cL_law 354 = .ok (.aload_n 0, 1) := by decide +kernel
theorem d_L_law_355 : decode cL_law 355 = .ok (.iload_n 3, 1) := by decide +kernel
theorem d_L_law_356 : decode cL_law 356 = .ok (.iconst 1, 1) := by decide +kernel
theorem d_L_law_357 : decode cL_law 357 = .ok (.iadd, 1) := by decide +kernel
theorem d_L_law_358 : decode cL_law 358 = .ok (.iaload, 1) := by decide +kernel
theorem d_L_law_359 : decode cL_law 359 = .ok (.aload_n 0, 1) := by decide +kernel
theorem d_L_law_360 : decode cL_law 360 = .ok (.iload_n 3, 1) := by decide +kernel
theorem d_L_law_361 : decode cL_law 361 = .ok (.iconst 2, 1) := by decide +kernel
theorem d_L_law_362 : decode cL_law 362 = .ok (.iadd, 1) := by decide +kernel
theorem d_L_law_363 : decode cL_law 363 = .ok (.iaload, 1) := by decide +kernel
theorem d_L_law_364 : decode cL_law 364 = .ok (.ifCond .eq 7, 3) := by decide +kernel
theorem d_L_law_367 : decode cL_law 367 = .ok (.iconst 1, 1) := by decide +kernel
theorem d_L_law_368 : decode cL_law 368 = .ok (.goto 4, 3) := by decide +kernel
theorem d_L_law_371 : decode cL_law 371 = .ok (.iconst 0, 1) := by decide +kernel
theorem d_L_law_372 : decode cL_law 372 = .ok (.invokevirtual 31, 3) := by decide +kernel
theorem d_L_law_375 : decode cL_law 375 = .ok (.if_icmp .eq 1356, 3) := by decide +kernel
theorem d_L_law_378 : decode cL_law 378 = .ok (.iconst 0, 1) := by decide +kernel
theorem d_L_law_379 : decode cL_law 379 = .ok (.ireturn, 1) := by decide +kernel
theorem d_L_law_380 : decode cL_law 380 = .ok (.aload_n 1, 1) := by decide +kernel
theorem d_L_law_381 : decode cL_law 381 = .ok (.aload_n 0, 1) := by decide +kernel
theorem d_L_law_382 : decode cL_law 382 = .ok (.iload_n 3, 1) := by decide +kernel
theorem d_L_law_383 : decode cL_law 383 = .ok (.iconst 1, 1) := by decide +kernel
theorem d_L_law_384 : decode cL_law 384 = .ok (.iadd, 1) := by decide +kernel
theorem d_L_law_385 : decode cL_law 385 = .ok (.iaload, 1) := by decide +kernel
theorem d_L_law_386 : decode cL_law 386 = .ok (.aload_n 0, 1) := by decide +kernel
theorem d_L_law_387 : decode cL_law 387 = .ok (.iload_n 3, 1) := by decide +kernel
theorem d_L_law_388 : decode cL_law 388 = .ok (.iconst 2, 1) := by decide +kernel
theorem d_L_law_389 : decode cL_law 389 = .ok (.iadd, 1) := by decide +kernel
theorem d_L_law_390 : decode cL_law 390 = .ok (.iaload, 1) := by decide +kernel
theorem d_L_law_391 : decode cL_law 391 = .ok (.ifCond .eq 7, 3) := by decide +kernel
theorem d_L_law_394 : decode cL_law 394 = .ok (.iconst 1, 1) := by decide +kernel
theorem d_L_law_395 : decode cL_law 395 = .ok (.goto 4, 3) := by decide +kernel
theorem d_L_law_398 : decode cL_law 398 = .ok (.iconst 0, 1) := by decide +kernel
theorem d_L_law_399 : decode cL_law 399 = .ok (.invokevirtual 32, 3) := by decide +kernel
theorem d_L_law_402 : decode cL_law 402 = .ok (.aload_n 2, 1) := by decide +kernel
theorem d_L_law_403 : decode cL_law 403 = .ok (.aload_n 0, 1) := by decide +kernel
theorem d_L_law_404 : decode cL_law 404 = .ok (.iload_n 3, 1) := by decide +kernel
theorem d_L_law_405 : decode cL_law 405 = .ok (.iconst 1, 1) := by decide +kernel
theorem d_L_law_406 : decode cL_law 406 = .ok (.iadd, 1) := by decide +kernel
theorem d_L_law_407 : decode cL_law 407 = .ok (.iaload, 1) := by decide +kernel
theorem d_L_law_408 : decode cL_law 408 = .ok (.aload_n 0, 1) := by decide +kernel
theorem d_L_law_409 : decode cL_law 409 = .ok (.iload_n 3, 1) := by decide +kernel
theorem d_L_law_410 : decode cL_law 410 = .ok (.iconst 2, 1) := by decide +kernel
theorem d_L_law_411 : decode cL_law 411 = .ok (.iadd, 1) := by decide +kernel
theorem d_L_law_412 : decode cL_law 412 = .ok (.iaload, 1) := by decide +kernel
theorem d_L_law_413 : decode cL_law 413 = .ok (.ifCond .eq 7, 3) := by decide +kernel
theorem d_L_law_416 : decode cL_law 416 = .ok (.iconst 1, 1) := by decide +kernel
theorem d_L_law_417 : decode cL_law 417 = .ok (.goto 4, 3) := by decide +kernel
theorem d_L_law_420 : decode cL_law 420 = .ok (.iconst 0, 1) := by decide +kernel
theorem d_L_law_421 : decode cL_law 421 = .ok (.invokevirtual 35, 3) := by decide +kernel
theorem d_L_law_424 : decode cL_law 424 = .ok (.if_icmp .eq 1307, 3) := by decide +kernel
theorem d_L_law_427 : decode cL_law 427 = .ok (.iconst 0, 1) := by decide +kernel
theorem d_L_law_428 : decode cL_law 428 = .ok (.ireturn, 1) := by decide +kernel
theorem d_L_law_429 : decode cL_law 429 = .ok (.aload_n 1, 1) := by decide +kernel
theorem d_L_law_430 : decode cL_law 430 = .ok (.aload_n 0, 1) := by decide +kernel
theorem d_L_law_431 : decode cL_law 431 = .ok (.iload_n 3, 1) := by decide +kernel
theorem d_L_law_432 : decode cL_law 432 = .ok (.iconst 1, 1) := by decide +kernel
theorem d_L_law_433 : decode cL_law 433 = .ok (.iadd, 1) := by decide +kernel
theorem d_L_law_434 : decode cL_law 434 = .ok (.iaload, 1) := by decide +kernel
theorem d_L_law_435 : decode cL_law 435 = .ok (.aload_n 0, 1) := by decide +kernel
theorem d_L_law_436 : decode cL_law 436 = .ok (.iload_n 3, 1) := by decide +kernel
theorem d_L_law_437 : decode cL_law 437 = .ok (.iconst 2, 1) := by decide +kernel
theorem d_L_law_438 : decode cL_law 438 = .ok (.iadd, 1) := by decide +kernel
theorem d_L_law_439 : decode cL_law 439 = .ok (.iaload, 1) := by decide +kernel
theorem d_L_law_440 : decode cL_law 440 = .ok (.aload_n 0, 1) := by decide +kernel
theorem d_L_law_441 : decode cL_law 441 = .ok (.iload_n 3, 1) := by decide +kernel
theorem d_L_law_442 : decode cL_law 442 = .ok (.iconst 3, 1) := by decide +kernel
theorem d_L_law_443 : decode cL_law 443 = .ok (.iadd, 1) := by decide +kernel
theorem d_L_law_444 : decode cL_law 444 = .ok (.iaload, 1) := by decide +kernel
theorem d_L_law_445 : decode cL_law 445 = .ok (.aload_n 0, 1) := by decide +kernel
theorem d_L_law_446 : decode cL_law 446 = .ok (.iload_n 3, 1) := by decide +kernel
theorem d_L_law_447 : decode cL_law 447 = .ok (.iconst 4, 1) := by decide +kernel
theorem d_L_law_448 : decode cL_law 448 = .ok (.iadd, 1) := by decide +kernel
theorem d_L_law_449 : decode cL_law 449 = .ok (.iaload, 1) := by decide +kernel
theorem d_L_law_450 : decode cL_law 450 = .ok (.invokevirtual 36, 3) := by decide +kernel
theorem d_L_law_453 : decode cL_law 453 = .ok (.aload_n 2, 1) := by decide +kernel
theorem d_L_law_454 : decode cL_law 454 = .ok (.aload_n 0, 1) := by decide +kernel
theorem d_L_law_455 : decode cL_law 455 = .ok (.iload_n 3, 1) := by decide +kernel
theorem d_L_law_456 : decode cL_law 456 = .ok (.iconst 1, 1) := by decide +kernel
theorem d_L_law_457 : decode cL_law 457 = .ok (.iadd, 1) := by decide +kernel
theorem d_L_law_458 : decode cL_law 458 = .ok (.iaload, 1) := by decide +kernel
theorem d_L_law_459 : decode cL_law 459 = .ok (.aload_n 0, 1) := by decide +kernel
theorem d_L_law_460 : decode cL_law 460 = .ok (.iload_n 3, 1) := by decide +kernel
theorem d_L_law_461 : decode cL_law 461 = .ok (.iconst 2, 1) := by decide +kernel
theorem d_L_law_462 : decode cL_law 462 = .ok (.iadd, 1) := by decide +kernel
theorem d_L_law_463 : decode cL_law 463 = .ok (.iaload, 1) := by decide +kernel
theorem d_L_law_464 : decode cL_law 464 = .ok (.aload_n 0, 1) := by decide +kernel
theorem d_L_law_465 : decode cL_law 465 = .ok (.iload_n 3, 1) := by decide +kernel
theorem d_L_law_466 : decode cL_law 466 = .ok (.iconst 3, 1) := by decide +kernel
theorem d_L_law_467 : decode cL_law 467 = .ok (.iadd, 1) := by decide +kernel
theorem d_L_law_468 : decode cL_law 468 = .ok (.iaload, 1) := by decide +kernel
theorem d_L_law_469 : decode cL_law 469 = .ok (.aload_n 0, 1) := by decide +kernel
theorem d_L_law_470 : decode cL_law 470 = .ok (.iload_n 3, 1) := by decide +kernel
theorem d_L_law_471 : decode cL_law 471 = .ok (.iconst 4, 1) := by decide +kernel
theorem d_L_law_472 : decode cL_law 472 = .ok (.iadd, 1) := by decide +kernel
theorem d_L_law_473 : decode cL_law 473 = .ok (.iaload, 1) := by decide +kernel
theorem d_L_law_474 : decode cL_law 474 = .ok (.invokevirtual 40, 3) := by decide +kernel
theorem d_L_law_477 : decode cL_law 477 = .ok (.if_icmp .eq 1254, 3) := by decide +kernel
theorem d_L_law_480 : decode cL_law 480 = .ok (.iconst 0, 1) := by decide +kernel
theorem d_L_law_481 : decode cL_law 481 = .ok (.ireturn, 1) := by decide +kernel
theorem d_L_law_482 : decode cL_law 482 = .ok (.aload_n 1, 1) := by decide +kernel
theorem d_L_law_483 : decode cL_law 483 = .ok (.aload_n 0, 1) := by decide +kernel
theorem d_L_law_484 : decode cL_law 484 = .ok (.iload_n 3, 1) := by decide +kernel
theorem d_L_law_485 : decode cL_law 485 = .ok (.iconst 1, 1) := by decide +kernel
theorem d_L_law_486 : decode cL_law 486 = .ok (.iadd, 1) := by decide +kernel
theorem d_L_law_487 : decode cL_law 487 = .ok (.iaload, 1) := by decide +kernel
theorem d_L_law_488 : decode cL_law 488 = .ok (.aload_n 0, 1) := by decide +kernel
theorem d_L_law_489 : decode cL_law 489 = .ok (.iload_n 3, 1) := by decide +kernel
theorem d_L_law_490 : decode cL_law 490 = .ok (.iconst 2, 1) := by decide +kernel
theorem d_L_law_491 : decode cL_law 491 = .ok (.iadd, 1) := by decide +kernel
theorem d_L_law_492 : decode cL_law 492 = .ok (.iaload, 1) := by decide +kernel
theorem d_L_law_493 : decode cL_law 493 = .ok (.aload_n 0, 1) := by decide +kernel
theorem d_L_law_494 : decode cL_law 494 = .ok (.iload_n 3, 1) := by decide +kernel
theorem d_L_law_495 : decode cL_law 495 = .ok (.iconst 3, 1) := by decide +kernel
theorem d_L_law_496 : decode cL_law 496 = .ok (.iadd, 1) := by decide +kernel
theorem d_L_law_497 : decode cL_law 497 = .ok (.iaload, 1) := by decide +kernel
theorem d_L_law_498 : decode cL_law 498 = .ok (.aload_n 0, 1) := by decide +kernel
theorem d_L_law_499 : decode cL_law 499 = .ok (.iload_n 3, 1) := by decide +kernel
theorem d_L_law_500 : decode cL_law 500 = .ok (.iconst 4, 1) := by decide +kernel
theorem d_L_law_501 : decode cL_law 501 = .ok (.iadd, 1) := by decide +kernel
theorem d_L_law_502 : decode cL_law 502 = .ok (.iaload, 1) := by decide +kernel
theorem d_L_law_503 : decode cL_law 503 = .ok (.invokevirtual 41, 3) := by decide +kernel
theorem d_L_law_506 : decode cL_law 506 = .ok (.aload_n 2, 1) := by decide +kernel
theorem d_L_law_507 : decode cL_law 507 = .ok (.aload_n 0, 1) := by decide +kernel
theorem d_L_law_508 : decode cL_law 508 = .ok (.iload_n 3, 1) := by decide +kernel
theorem d_L_law_509 : decode cL_law 509 = .ok (.iconst 1, 1) := by decide +kernel
theorem d_L_law_510 : decode cL_law 510 = .ok (.iadd, 1) := by decide +kernel
theorem d_L_law_511 : decode cL_law 511 = .ok (.iaload, 1) := by decide +kernel
theorem d_L_law_512 : decode cL_law 512 = .ok (.aload_n 0, 1) := by decide +kernel
theorem d_L_law_513 : decode cL_law 513 = .ok (.iload_n 3, 1) := by decide +kernel
theorem d_L_law_514 : decode cL_law 514 = .ok (.iconst 2, 1) := by decide +kernel
theorem d_L_law_515 : decode cL_law 515 = .ok (.iadd, 1) := by decide +kernel
theorem d_L_law_516 : decode cL_law 516 = .ok (.iaload, 1) := by decide +kernel
theorem d_L_law_517 : decode cL_law 517 = .ok (.aload_n 0, 1) := by decide +kernel
theorem d_L_law_518 : decode cL_law 518 = .ok (.iload_n 3, 1) := by decide +kernel
theorem d_L_law_519 : decode cL_law 519 = .ok (.iconst 3, 1) := by decide +kernel
theorem d_L_law_520 : decode cL_law 520 = .ok (.iadd, 1) := by decide +kernel
theorem d_L_law_521 : decode cL_law 521 = .ok (.iaload, 1) := by decide +kernel
theorem d_L_law_522 : decode cL_law 522 = .ok (.aload_n 0, 1) := by decide +kernel
theorem d_L_law_523 : decode cL_law 523 = .ok (.iload_n 3, 1) := by decide +kernel
theorem d_L_law_524 : decode cL_law 524 = .ok (.iconst 4, 1) := by decide +kernel
theorem d_L_law_525 : decode cL_law 525 = .ok (.iadd, 1) := by decide +kernel
theorem d_L_law_526 : decode cL_law 526 = .ok (.iaload, 1) := by decide +kernel
theorem d_L_law_527 : decode cL_law 527 = .ok (.invokevirtual 44, 3) := by decide +kernel
theorem d_L_law_530 : decode cL_law 530 = .ok (.if_icmp .eq 1201, 3) := by decide +kernel
theorem d_L_law_533 : decode cL_law 533 = .ok (.iconst 0, 1) := by decide +kernel
theorem d_L_law_534 : decode cL_law 534 = .ok (.ireturn, 1) := by decide +kernel
theorem d_L_law_535 : decode cL_law 535 = .ok (.aload_n 1, 1) := by decide +kernel
theorem d_L_law_536 : decode cL_law 536 = .ok (.aload_n 0, 1) := by decide +kernel
theorem d_L_law_537 : decode cL_law 537 = .ok (.iload_n 3, 1) := by decide +kernel
theorem d_L_law_538 : decode cL_law 538 = .ok (.iconst 1, 1) := by decide +kernel
theorem d_L_law_539 : decode cL_law 539 = .ok (.iadd, 1) := by decide +kernel
theorem d_L_law_540 : decode cL_law 540 = .ok (.iaload, 1) := by decide +kernel
theorem d_L_law_541 : decode cL_law 541 = .ok (.aload_n 0, 1) := by decide +kernel
theorem d_L_law_542 : decode cL_law 542 = .ok (.iload_n 3, 1) := by decide +kernel
theorem d_L_law_543 : decode cL_law 543 = .ok (.iconst 2, 1) := by decide +kernel
theorem d_L_law_544 : decode cL_law 544 = .ok (.iadd, 1) := by decide +kernel
theorem d_L_law_545 : decode cL_law 545 = .ok (.iaload, 1) := by decide +kernel
theorem d_L_law_546 : decode cL_law 546 = .ok (.invokevirtual 45, 3) := by decide +kernel
theorem d_L_law_549 : decode cL_law 549 = .ok (.aload_n 2, 1) := by decide +kernel
theorem d_L_law_550 : decode cL_law 550 = .ok (.aload_n 0, 1) := by decide +kernel
theorem d_L_law_551 : decode cL_law 551 = .ok (.iload_n 3, 1) := by decide +kernel
theorem d_L_law_552 : decode cL_law 552 = .ok (.iconst 1, 1) := by decide +kernel
theorem d_L_law_553 : decode cL_law 553 = .ok (.iadd, 1) := by decide +kernel
theorem d_L_law_554 : decode cL_law 554 = .ok (.iaload, 1) := by decide +kernel
theorem d_L_law_555 : decode cL_law 555 = .ok (.aload_n 0, 1) := by decide +kernel
theorem d_L_law_556 : decode cL_law 556 = .ok (.iload_n 3, 1) := by decide +kernel
theorem d_L_law_557 : decode cL_law 557 = .ok (.iconst 2, 1) := by decide +kernel
theorem d_L_law_558 : decode cL_law 558 = .ok (.iadd, 1) := by decide +kernel
theorem d_L_law_559 : decode cL_law 559 = .ok (.iaload, 1) := by decide +kernel
theorem d_L_law_560 : decode cL_law 560 = .ok (.invokevirtual 48, 3) := by decide +kernel
theorem d_L_law_563 : decode cL_law 563 = .ok (.if_icmp .eq 1168, 3) := by decide +kernel
theorem d_L_law_566 : decode cL_law 566 = .ok (.iconst 0, 1) := by decide +kernel
theorem d_L_law_567 : decode cL_law 567 = .ok (.ireturn, 1) := by decide +kernel
theorem d_L_law_568 : decode cL_law 568 = .ok (.aload_n 1, 1) := by decide +kernel
theorem d_L_law_569 : decode cL_law 569 = .ok (.aload_n 0, 1) := by decide +kernel
theorem d_L_law_570 : decode cL_law 570 = .ok (.iload_n 3, 1) := by decide +kernel
theorem d_L_law_571 : decode cL_law 571 = .ok (.iconst 1, 1) := by decide +kernel
theorem d_L_law_572 : decode cL_law 572 = .ok (.iadd, 1) := by decide +kernel
theorem d_L_law_573 : decode cL_law 573 = .ok (.iaload, 1) := by decide +kernel
theorem d_L_law_574 : decode cL_law 574 = .ok (.invokevirtual 49, 3) := by decide +kernel
theorem d_L_law_577 : decode cL_law 577 = .ok (.aload_n 2, 1) := by decide +kernel
theorem d_L_law_578 : decode cL_law 578 = .ok (.aload_n 0, 1) := by decide +kernel
theorem d_L_law_579 : decode cL_law 579 = .ok (.iload_n 3, 1) := by decide +kernel
theorem d_L_law_580 : decode cL_law 580 = .ok (.iconst 1, 1) := by decide +kernel
theorem d_L_law_581 : decode cL_law 581 = .ok (.iadd, 1) := by decide +kernel
theorem d_L_law_582 : decode cL_law 582 = .ok (.iaload, 1) := by decide +kernel
theorem d_L_law_583 : decode cL_law 583 = .ok (.invokevirtual 53, 3) := by decide +kernel
theorem d_L_law_586 : decode cL_law 586 = .ok (.if_icmp .eq 1145, 3) := by decide +kernel
theorem d_L_law_589 : decode cL_law 589 = .ok (.iconst 0, 1) := by decide +kernel
theorem d_L_law_590 : decode cL_law 590 = .ok (.ireturn, 1) := by decide +kernel
theorem d_L_law_591 : decode cL_law 591 = .ok (.aload_n 1, 1) := by decide +kernel
theorem d_L_law_592 : decode cL_law 592 = .ok (.aload_n 0, 1) := by decide +kernel
theorem d_L_law_593 : decode cL_law 593 = .ok (.iload_n 3, 1) := by decide +kernel
theorem d_L_law_594 : decode cL_law 594 = .ok (.iconst 1, 1) := by decide +kernel
theorem d_L_law_595 : decode cL_law 595 = .ok (.iadd, 1) := by decide +kernel
theorem d_L_law_596 : decode cL_law 596 = .ok (.iaload, 1) := by decide +kernel
theorem d_L_law_597 : decode cL_law 597 = .ok (.invokevirtual 54, 3) := by decide +kernel
theorem d_L_law_600 : decode cL_law 600 = .ok (.aload_n 2, 1) := by decide +kernel
theorem d_L_law_601 : decode cL_law 601 = .ok (.aload_n 0, 1) := by decide +kernel
theorem d_L_law_602 : decode cL_law 602 = .ok (.iload_n 3, 1) := by decide +kernel
theorem d_L_law_603 : decode cL_law 603 = .ok (.iconst 1, 1) := by decide +kernel
theorem d_L_law_604 : decode cL_law 604 = .ok (.iadd, 1) := by decide +kernel
theorem d_L_law_605 : decode cL_law 605 = .ok (.iaload, 1) := by decide +kernel
theorem d_L_law_606 : decode cL_law 606 = .ok (.invokevirtual 57, 3) := by decide +kernel
theorem d_L_law_609 : decode cL_law 609 = .ok (.if_icmp .eq 1122, 3) := by decide +kernel
theorem d_L_law_612 : decode cL_law 612 = .ok (.iconst 0, 1) := by decide +kernel
theorem d_L_law_613 : decode cL_law 613 = .ok (.ireturn, 1) := by decide +kernel
theorem d_L_law_614 : decode cL_law 614 = .ok (.aload_n 1, 1) := by decide +kernel
theorem d_L_law_615 : decode cL_law 615 = .ok (.aload_n 0, 1) := by decide +kernel
theorem d_L_law_616 : decode cL_law 616 = .ok (.iload_n 3, 1) := by decide +kernel
theorem d_L_law_617 : decode cL_law 617 = .ok (.iconst 1, 1) := by decide +kernel
theorem d_L_law_618 : decode cL_law 618 = .ok (.iadd, 1) := by decide +kernel
theorem d_L_law_619 : decode cL_law 619 = .ok (.iaload, 1) := by decide +kernel
theorem d_L_law_620 : decode cL_law 620 = .ok (.aload_n 0, 1) := by decide +kernel
theorem d_L_law_621 : decode cL_law 621 = .ok (.iload_n 3, 1) := by decide +kernel
theorem d_L_law_622 : decode cL_law 622 = .ok (.iconst 2, 1) := by decide +kernel
theorem d_L_law_623 : decode cL_law 623 = .ok (.iadd, 1) := by decide +kernel
theorem d_L_law_624 : decode cL_law 624 = .ok (.iaload, 1) := by decide +kernel
theorem d_L_law_625 : decode cL_law 625 = .ok (.ifCond .eq 7, 3) := by decide +kernel
theorem d_L_law_628 : decode cL_law 628 = .ok (.iconst 1, 1) := by decide +kernel
theorem d_L_law_629 : decode cL_law 629 = .ok (.goto 4, 3) := by decide +kernel
theorem d_L_law_632 : decode cL_law 632 = .ok (.iconst 0, 1) := by decide +kernel
theorem d_L_law_633 : decode cL_law 633 = .ok (.invokevirtual 58, 3) := by decide +kernel
theorem d_L_law_636 : decode cL_law 636 = .ok (.aload_n 2, 1) := by decide +kernel
theorem d_L_law_637 : decode cL_law 637 = .ok (.aload_n 0, 1) := by decide +kernel
theorem d_L_law_638 : decode cL_law 638 = .ok (.iload_n 3, 1) := by decide +kernel
theorem d_L_law_639 : decode cL_law 639 = .ok (.iconst 1, 1) := by decide +kernel
theorem d_L_law_640 : decode cL_law 640 = .ok (.iadd, 1) := by decide +kernel
theorem d_L_law_641 : decode cL_law 641 = .ok (.iaload, 1) := by decide +kernel
theorem d_L_law_642 : decode cL_law 642 = .ok (.aload_n 0, 1) := by decide +kernel
theorem d_L_law_643 : decode cL_law 643 = .ok (.iload_n 3, 1) := by decide +kernel
theorem d_L_law_644 : decode cL_law 644 = .ok (.iconst 2, 1) := by decide +kernel
theorem d_L_law_645 : decode cL_law 645 = .ok (.iadd, 1) := by decide +kernel
theorem d_L_law_646 : decode cL_law 646 = .ok (.iaload, 1) := by decide +kernel
theorem d_L_law_647 : decode cL_law 647 = .ok (.ifCond .eq 7, 3) := by decide +kernel
theorem d_L_law_650 : decode cL_law 650 = .ok (.iconst 1, 1) := by decide +kernel
theorem d_L_law_651 : decode cL_law 651 = .ok (.goto 4, 3) := by decide +kernel
theorem d_L_law_654 : decode cL_law 654 = .ok (.iconst 0, 1) := by decide +kernel
theorem d_L_law_655 : decode cL_law 655 = .ok (.invokevirtual 61, 3) := by decide +kernel
theorem d_L_law_658 : decode cL_law 658 = .ok (.if_icmp .eq 1073, 3) := by decide +kernel
theorem d_L_law_661 : decode cL_law 661 = .ok (.iconst 0, 1) := by decide +kernel
theorem d_L_law_662 : decode cL_law 662 = .ok (.ireturn, 1) := by decide +kernel
theorem d_L_law_663 : decode cL_law 663 = .ok (.aload_n 1, 1) := by decide +kernel
theorem d_L_law_664 : decode cL_law 664 = .ok (.aload_n 0, 1) := by decide +kernel
theorem d_L_law_665 : decode cL_law 665 = .ok (.iload_n 3, 1) := by decide +kernel
theorem d_L_law_666 : decode cL_law 666 = .ok (.iconst 1, 1) := by decide +kernel
theorem d_L_law_667 : decode cL_law 667 = .ok (.iadd, 1) := by decide +kernel
theorem d_L_law_668 : decode cL_law 668 = .ok (.iaload, 1) := by decide +kernel
theorem d_L_law_669 : decode cL_law 669 = .ok (.invokevirtual 62, 3) := by decide +kernel
theorem d_L_law_672 : decode cL_law 672 = .ok (.aload_n 2, 1) := by decide +kernel
theorem d_L_law_673 : decode cL_law 673 = .ok (.aload_n 0, 1) := by decide +kernel
theorem d_L_law_674 : decode cL_law 674 = .ok (.iload_n 3, 1) := by decide +kernel
theorem d_L_law_675 : decode cL_law 675 = .ok (.iconst 1, 1) := by decide +kernel
theorem d_L_law_676 : decode cL_law 676 = .ok (.iadd, 1) := by decide +kernel
theorem d_L_law_677 : decode cL_law 677 = .ok (.iaload, 1) := by decide +kernel
theorem d_L_law_678 : decode cL_law 678 = .ok (.invokevirtual 65, 3) := by decide +kernel
theorem d_L_law_681 : decode cL_law 681 = .ok (.if_icmp .eq 1050, 3) := by decide +kernel
theorem d_L_law_684 : decode cL_law 684 = .ok (.iconst 0, 1) := by decide +kernel
theorem d_L_law_685 : decode cL_law 685 = .ok (.ireturn, 1) := by decide +kernel
theorem d_L_law_686 : decode cL_law 686 = .ok (.aload_n 1, 1) := by decide +kernel
theorem d_L_law_687 : decode cL_law 687 = .ok (.aload_n 0, 1) := by decide +kernel
theorem d_L_law_688 : decode cL_law 688 = .ok (.iload_n 3, 1) := by decide +kernel
theorem d_L_law_689 : decode cL_law 689 = .ok (.iconst 1, 1) := by decide +kernel
theorem d_L_law_690 : decode cL_law 690 = .ok (.iadd, 1) := by decide +kernel
theorem d_L_law_691 : decode cL_law 691 = .ok (.iaload, 1) := by decide +kernel
theorem d_L_law_692 : decode cL_law 692 = .ok (.invokevirtual 66, 3) := by decide +kernel
theorem d_L_law_695 : decode cL_law 695 = .ok (.aload_n 2, 1) := by decide +kernel
theorem d_L_law_696 : decode cL_law 696 = .ok (.aload_n 0, 1) := by decide +kernel
theorem d_L_law_697 : decode cL_law 697 = .ok (.iload_n 3, 1) := by decide +kernel
theorem d_L_law_698 : decode cL_law 698 = .ok (.iconst 1, 1) := by decide +kernel
theorem d_L_law_699 : decode cL_law 699 = .ok (.iadd, 1) := by decide +kernel
theorem d_L_law_700 : decode cL_law 700 = .ok (.iaload, 1) := by decide +kernel
theorem d_L_law_701 : decode cL_law 701 = .ok (.invokevirtual 69, 3) := by decide +kernel
theorem d_L_law_704 : decode cL_law 704 = .ok (.if_icmp .eq 1027, 3) := by decide +kernel
theorem d_L_law_707 : decode cL_law 707 = .ok (.iconst 0, 1) := by decide +kernel
theorem d_L_law_708 : decode cL_law 708 = .ok (.ireturn, 1) := by decide +kernel
theorem d_L_law_709 : decode cL_law 709 = .ok (.aload_n 1, 1) := by decide +kernel
theorem d_L_law_710 : decode cL_law 710 = .ok (.aload_n 0, 1) := by decide +kernel
theorem d_L_law_711 : decode cL_law 711 = .ok (.iload_n 3, 1) := by decide +kernel
theorem d_L_law_712 : decode cL_law 712 = .ok (.iconst 1, 1) := by decide +kernel
theorem d_L_law_713 : decode cL_law 713 = .ok (.iadd, 1) := by decide +kernel
theorem d_L_law_714 : decode cL_law 714 = .ok (.iaload, 1) := by decide +kernel
theorem d_L_law_715 : decode cL_law 715 = .ok (.aload_n 0, 1) := by decide +kernel
theorem d_L_law_716 : decode cL_law 716 = .ok (.iload_n 3, 1) := by decide +kernel
theorem d_L_law_717 : decode cL_law 717 = .ok (.iconst 2, 1) := by decide +kernel
theorem d_L_law_718 : decode cL_law 718 = .ok (.iadd, 1) := by decide +kernel
theorem d_L_law_719 : decode cL_law 719 = .ok (.iaload, 1) := by decide +kernel
theorem d_L_law_720 : decode cL_law 720 = .ok (.invokevirtual 70, 3) := by decide +kernel
theorem d_L_law_723 : decode cL_law 723 = .ok (.aload_n 2, 1) := by decide +kernel
theorem d_L_law_724 : decode cL_law 724 = .ok (.aload_n 0, 1) := by decide +kernel
theorem d_L_law_725 : decode cL_law 725 = .ok (.iload_n 3, 1) := by decide +kernel
theorem d_L_law_726 : decode cL_law 726 = .ok (.iconst 1, 1) := by decide +kernel
theorem d_L_law_727 : decode cL_law 727 = .ok (.iadd, 1) := by decide +kernel
theorem d_L_law_728 : decode cL_law 728 = .ok (.iaload, 1) := by decide +kernel
theorem d_L_law_729 : decode cL_law 729 = .ok (.aload_n 0, 1) := by decide +kernel
theorem d_L_law_730 : decode cL_law 730 = .ok (.iload_n 3, 1) := by decide +kernel
theorem d_L_law_731 : decode cL_law 731 = .ok (.iconst 2, 1) := by decide +kernel
theorem d_L_law_732 : decode cL_law 732 = .ok (.iadd, 1) := by decide +kernel
theorem d_L_law_733 : decode cL_law 733 = .ok (.iaload, 1) := by decide +kernel
theorem d_L_law_734 : decode cL_law 734 = .ok (.invokevirtual 73, 3) := by decide +kernel
theorem d_L_law_737 : decode cL_law 737 = .ok (.if_icmp .eq 994, 3) := by decide +kernel
theorem d_L_law_740 : decode cL_law 740 = .ok (.iconst 0, 1) := by decide +kernel
theorem d_L_law_741 : decode cL_law 741 = .ok (.ireturn, 1) := by decide +kernel
theorem d_L_law_742 : decode cL_law 742 = .ok (.aload_n 1, 1) := by decide +kernel
theorem d_L_law_743 : decode cL_law 743 = .ok (.aload_n 0, 1) := by decide +kernel
theorem d_L_law_744 : decode cL_law 744 = .ok (.iload_n 3, 1) := by decide +kernel
theorem d_L_law_745 : decode cL_law 745 = .ok (.iconst 1, 1) := by decide +kernel
theorem d_L_law_746 : decode cL_law 746 = .ok (.iadd, 1) := by decide +kernel
theorem d_L_law_747 : decode cL_law 747 = .ok (.iaload, 1) := by decide +kernel
theorem d_L_law_748 : decode cL_law 748 = .ok (.aload_n 0, 1) := by decide +kernel
theorem d_L_law_749 : decode cL_law 749 = .ok (.iload_n 3, 1) := by decide +kernel
theorem d_L_law_750 : decode cL_law 750 = .ok (.iconst 2, 1) := by decide +kernel
theorem d_L_law_751 : decode cL_law 751 = .ok (.iadd, 1) := by decide +kernel
theorem d_L_law_752 : decode cL_law 752 = .ok (.iaload, 1) := by decide +kernel
theorem d_L_law_753 : decode cL_law 753 = .ok (.invokevirtual 74, 3) := by decide +kernel
theorem d_L_law_756 : decode cL_law 756 = .ok (.aload_n 2, 1) := by decide +kernel
theorem d_L_law_757 : decode cL_law 757 = .ok (.aload_n 0, 1) := by decide +kernel
theorem d_L_law_758 : decode cL_law 758 = .ok (.iload_n 3, 1) := by decide +kernel
theorem d_L_law_759 : decode cL_law 759 = .ok (.iconst 1, 1) := by decide +kernel
theorem d_L_law_760 : decode cL_law 760 = .ok (.iadd, 1) := by decide +kernel
theorem d_L_law_761 : decode cL_law 761 = .ok (.iaload, 1) := by decide +kernel
theorem d_L_law_762 : decode cL_law 762 = .ok (.aload_n 0, 1) := by decide +kernel
theorem d_L_law_763 : decode cL_law 763 = .ok (.iload_n 3, 1) := by decide +kernel
theorem d_L_law_764 : decode cL_law 764 = .ok (.iconst 2, 1) := by decide +kernel
theorem d_L_law_765 : decode cL_law 765 = .ok (.iadd, 1) := by decide +kernel
theorem d_L_law_766 : decode cL_law 766 = .ok (.iaload, 1) := by decide +kernel
theorem d_L_law_767 : decode cL_law 767 = .ok (.invokevirtual 77, 3) := by decide +kernel
theorem d_L_law_770 : decode cL_law 770 = .ok (.if_icmp .eq 961, 3) := by decide +kernel
theorem d_L_law_773 : decode cL_law 773 = .ok (.iconst 0, 1) := by decide +kernel
theorem d_L_law_774 : decode cL_law 774 = .ok (.ireturn, 1) := by decide +kernel
theorem d_L_law_775 : decode cL_law 775 = .ok (.aload_n 1, 1) := by decide +kernel
theorem d_L_law_776 : decode cL_law 776 = .ok (.aload_n 0, 1) := by decide +kernel
theorem d_L_law_777 : decode cL_law 777 = .ok (.iload_n 3, 1) := by decide +kernel
theorem d_L_law_778 : decode cL_law 778 = .ok (.iconst 1, 1) := by decide +kernel
theorem d_L_law_779 : decode cL_law 779 = .ok (.iadd, 1) := by decide +kernel
theorem d_L_law_780 : decode cL_law 780 = .ok (.iaload, 1) := by decide +kernel
theorem d_L_law_781 : decode cL_law 781 = .ok (.aload_n 0, 1) := by decide +kernel
theorem d_L_law_782 : decode cL_law 782 = .ok (.iload_n 3, 1) := by decide +kernel
theorem d_L_law_783 : decode cL_law 783 = .ok (.iconst 2, 1) := by decide +kernel
theorem d_L_law_784 : decode cL_law 784 = .ok (.iadd, 1) := by decide +kernel
theorem d_L_law_785 : decode cL_law 785 = .ok (.iaload, 1) := by decide +kernel
theorem d_L_law_786 : decode cL_law 786 = .ok (.aload_n 0, 1) := by decide +kernel
theorem d_L_law_787 : decode cL_law 787 = .ok (.iload_n 3, 1) := by decide +kernel
theorem d_L_law_788 : decode cL_law 788 = .ok (.iconst 3, 1) := by decide +kernel
theorem d_L_law_789 : decode cL_law 789 = .ok (.iadd, 1) := by decide +kernel
theorem d_L_law_790 : decode cL_law 790 = .ok (.iaload, 1) := by decide +kernel
theorem d_L_law_791 : decode cL_law 791 = .ok (.invokevirtual 78, 3) := by decide +kernel
theorem d_L_law_794 : decode cL_law 794 = .ok (.aload_n 2, 1) := by decide +kernel
theorem d_L_law_795 : decode cL_law 795 = .ok (.aload_n 0, 1) := by decide +kernel
theorem d_L_law_796 : decode cL_law 796 = .ok (.iload_n 3, 1) := by decide +kernel
theorem d_L_law_797 : decode cL_law 797 = .ok (.iconst 1, 1) := by decide +kernel
theorem d_L_law_798 : decode cL_law 798 = .ok (.iadd, 1) := by decide +kernel
theorem d_L_law_799 : decode cL_law 799 = .ok (.iaload, 1) := by decide +kernel
theorem d_L_law_800 : decode cL_law 800 = .ok (.aload_n 0, 1) := by decide +kernel
theorem d_L_law_801 : decode cL_law 801 = .ok (.iload_n 3, 1) := by decide +kernel
theorem d_L_law_802 : decode cL_law 802 = .ok (.iconst 2, 1) := by decide +kernel
theorem d_L_law_803 : decode cL_law 803 = .ok (.iadd, 1) := by decide +kernel
theorem d_L_law_804 : decode cL_law 804 = .ok (.iaload, 1) := by decide +kernel
theorem d_L_law_805 : decode cL_law 805 = .ok (.aload_n 0, 1) := by decide +kernel
theorem d_L_law_806 : decode cL_law 806 = .ok (.iload_n 3, 1) := by decide +kernel
theorem d_L_law_807 : decode cL_law 807 = .ok (.iconst 3, 1) := by decide +kernel
theorem d_L_law_808 : decode cL_law 808 = .ok (.iadd, 1) := by decide +kernel
theorem d_L_law_809 : decode cL_law 809 = .ok (.iaload, 1) := by decide +kernel
theorem d_L_law_810 : decode cL_law 810 = .ok (.invokevirtual 81, 3) := by decide +kernel
theorem d_L_law_813 : decode cL_law 813 = .ok (.if_icmp .eq 918, 3) := by decide +kernel
theorem d_L_law_816 : decode cL_law 816 = .ok (.iconst 0, 1) := by decide +kernel
theorem d_L_law_817 : decode cL_law 817 = .ok (.ireturn, 1) := by decide +kernel
theorem d_L_law_818 : decode cL_law 818 = .ok (.aload_n 1, 1) := by decide +kernel
theorem d_L_law_819 : decode cL_law 819 = .ok (.aload_n 0, 1) := by decide +kernel
theorem d_L_law_820 : decode cL_law 820 = .ok (.iload_n 3, 1) := by decide +kernel
theorem d_L_law_821 : decode cL_law 821 = .ok (.iconst 1, 1) := by decide +kernel
theorem d_L_law_822 : decode cL_law 822 = .ok (.iadd, 1) := by decide +kernel
theorem d_L_law_823 : decode cL_law 823 = .ok (.iaload, 1) := by decide +kernel
theorem d_L_law_824 : decode cL_law 824 = .ok (.aload_n 0, 1) := by decide +kernel
theorem d_L_law_825 : decode cL_law 825 = .ok (.iload_n 3, 1) := by decide +kernel
theorem d_L_law_826 : decode cL_law 826 = .ok (.iconst 2, 1) := by decide +kernel
theorem d_L_law_827 : decode cL_law 827 = .ok (.iadd, 1) := by decide +kernel
theorem d_L_law_828 : decode cL_law 828 = .ok (.iaload, 1) := by decide +kernel
theorem d_L_law_829 : decode cL_law 829 = .ok (.aload_n 0, 1) := by decide +kernel
theorem d_L_law_830 : decode cL_law 830 = .ok (.iload_n 3, 1) := by decide +kernel
theorem d_L_law_831 : decode cL_law 831 = .ok (.iconst 3, 1) := by decide +kernel
theorem d_L_law_832 : decode cL_law 832 = .ok (.iadd, 1) := by decide +kernel
theorem d_L_law_833 : decode cL_law 833 = .ok (.iaload, 1) := by decide +kernel
theorem d_L_law_834 : decode cL_law 834 = .ok (.invokevirtual 82, 3) := by decide +kernel
theorem d_L_law_837 : decode cL_law 837 = .ok (.aload_n 2, 1) := by decide +kernel
theorem d_L_law_838 : decode cL_law 838 = .ok (.aload_n 0, 1) := by decide +kernel
theorem d_L_law_839 : decode cL_law 839 = .ok (.iload_n 3, 1) := by decide +kernel
theorem d_L_law_840 : decode cL_law 840 = .ok (.iconst 1, 1) := by decide +kernel
theorem d_L_law_841 : decode cL_law 841 = .ok (.iadd, 1) := by decide +kernel
theorem d_L_law_842 : decode cL_law 842 = .ok (.iaload, 1) := by decide +kernel
theorem d_L_law_843 : decode cL_law 843 = .ok (.aload_n 0, 1) := by decide +kernel
theorem d_L_law_844 : decode cL_law 844 = .ok (.iload_n 3, 1) := by decide +kernel
theorem d_L_law_845 : decode cL_law 845 = .ok (.iconst 2, 1) := by decide +kernel
theorem d_L_law_846 : decode cL_law 846 = .ok (.iadd, 1) := by decide +kernel
theorem d_L_law_847 : decode cL_law 847 = .ok (.iaload, 1) := by decide +kernel
theorem d_L_law_848 : decode cL_law 848 = .ok (.aload_n 0, 1) := by decide +kernel
theorem d_L_law_849 : decode cL_law 849 = .ok (.iload_n 3, 1) := by decide +kernel
theorem d_L_law_850 : decode cL_law 850 = .ok (.iconst 3, 1) := by decide +kernel
theorem d_L_law_851 : decode cL_law 851 = .ok (.iadd, 1) := by decide +kernel
theorem d_L_law_852 : decode cL_law 852 = .ok (.iaload, 1) := by decide +kernel
theorem d_L_law_853 : decode cL_law 853 = .ok (.invokevirtual 85, 3) := by decide +kernel
theorem d_L_law_856 : decode cL_law 856 = .ok (.if_icmp .eq 875, 3) := by decide +kernel
theorem d_L_law_859 : decode cL_law 859 = .ok (.iconst 0, 1) := by decide +kernel
theorem d_L_law_860 : decode cL_law 860 = .ok (.ireturn, 1) := by decide +kernel
theorem d_L_law_861 : decode cL_law 861 = .ok (.aload_n 1, 1) := by decide +kernel
theorem d_L_law_862 : decode cL_law 862 = .ok (.invokevirtual 86, 3) := by decide +kernel
theorem d_L_law_865 : decode cL_law 865 = .ok (.aload_n 2, 1) := by decide +kernel
theorem d_L_law_866 : decode cL_law 866 = .ok (.invokevirtual 90, 3) := by decide +kernel
theorem d_L_law_869 : decode cL_law 869 = .ok (.if_icmp .eq 862, 3) := by decide +kernel
theorem d_L_law_872 : decode cL_law 872 = .ok (.iconst 0, 1) := by decide +kernel
theorem d_L_law_873 : decode cL_law 873 = .ok (.ireturn, 1) := by decide +kernel
theorem d_L_law_874 : decode cL_law 874 = .ok (.aload_n 1, 1) := by decide +kernel
theorem d_L_law_875 : decode cL_law 875 = .ok (.invokevirtual 91, 3) := by decide +kernel
theorem d_L_law_878 : decode cL_law 878 = .ok (.aload_n 2, 1) := by decide +kernel
theorem d_L_law_879 : decode cL_law 879 = .ok (.invokevirtual 94, 3) := by decide +kernel
theorem d_L_law_882 : decode cL_law 882 = .ok (.if_icmp .eq 849, 3) := by decide +kernel
theorem d_L_law_885 : decode cL_law 885 = .ok (.iconst 0, 1) := by decide +kernel
theorem d_L_law_886 : decode cL_law 886 = .ok (.ireturn, 1) := by decide +kernel
theorem d_L_law_887 : decode cL_law 887 = .ok (.aload_n 1, 1) := by decide +kernel
theorem d_L_law_888 : decode cL_law 888 = .ok (.aload_n 0, 1) := by decide +kernel
theorem d_L_law_889 : decode cL_law 889 = .ok (.iload_n 3, 1) := by decide +kernel
theorem d_L_law_890 : decode cL_law 890 = .ok (.iconst 1, 1) := by decide +kernel
theorem d_L_law_891 : decode cL_law 891 = .ok (.iadd, 1) := by decide +kernel
theorem d_L_law_892 : decode cL_law 892 = .ok (.iaload, 1) := by decide +kernel
theorem d_L_law_893 : decode cL_law 893 = .ok (.invokevirtual 95, 3) := by decide +kernel
theorem d_L_law_896 : decode cL_law 896 = .ok (.aload_n 2, 1) := by decide +kernel
theorem d_L_law_897 : decode cL_law 897 = .ok (.aload_n 0, 1) := by decide +kernel
theorem d_L_law_898 : decode cL_law 898 = .ok (.iload_n 3, 1) := by decide +kernel
theorem d_L_law_899 : decode cL_law 899 = .ok (.iconst 1, 1) := by decide +kernel
theorem d_L_law_900 : decode cL_law 900 = .ok (.iadd, 1) := by decide +kernel
theorem d_L_law_901 : decode cL_law 901 = .ok (.iaload, 1) := by decide +kernel
theorem d_L_law_902 : decode cL_law 902 = .ok (.invokevirtual 98, 3) := by decide +kernel
theorem d_L_law_905 : decode cL_law 905 = .ok (.if_icmp .eq 826, 3) := by decide +kernel
theorem d_L_law_908 : decode cL_law 908 = .ok (.iconst 0, 1) := by decide +kernel
theorem d_L_law_909 : decode cL_law 909 = .ok (.ireturn, 1) := by decide +kernel
theorem d_L_law_910 : decode cL_law 910 = .ok (.aload_n 1, 1) := by decide +kernel
theorem d_L_law_911 : decode cL_law 911 = .ok (.aload_n 0, 1) := by decide +kernel
theorem d_L_law_912 : decode cL_law 912 = .ok (.iload_n 3, 1) := by decide +kernel
theorem d_L_law_913 : decode cL_law 913 = .ok (.iconst 1, 1) := by decide +kernel
theorem d_L_law_914 : decode cL_law 914 = .ok (.iadd, 1) := by decide +kernel
theorem d_L_law_915 : decode cL_law 915 = .ok (.iaload, 1) := by decide +kernel
theorem d_L_law_916 : decode cL_law 916 = .ok (.aload_n 0, 1) := by decide +kernel
theorem d_L_law_917 : decode cL_law 917 = .ok (.iload_n 3, 1) := by decide +kernel
theorem d_L_law_918 : decode cL_law 918 = .ok (.iconst 2, 1) := by decide +kernel
theorem d_L_law_919 : decode cL_law 919 = .ok (.iadd, 1) := by decide +kernel
theorem d_L_law_920 : decode cL_law 920 = .ok (.iaload, 1) := by decide +kernel
theorem d_L_law_921 : decode cL_law 921 = .ok (.invokevirtual 99, 3) := by decide +kernel
theorem d_L_law_924 : decode cL_law 924 = .ok (.aload_n 2, 1) := by decide +kernel
theorem d_L_law_925 : decode cL_law 925 = .ok (.aload_n 0, 1) := by decide +kernel
theorem d_L_law_926 : decode cL_law 926 = .ok (.iload_n 3, 1) := by decide +kernel
theorem d_L_law_927 : decode cL_law 927 = .ok (.iconst 1, 1) := by decide +kernel
theorem d_L_law_928 : decode cL_law 928 = .ok (.iadd, 1) := by decide +kernel
theorem d_L_law_929 : decode cL_law 929 = .ok (.iaload, 1) := by decide +kernel
theorem d_L_law_930 : decode cL_law 930 = .ok (.aload_n 0, 1) := by decide +kernel
theorem d_L_law_931 : decode cL_law 931 = .ok (.iload_n 3, 1) := by decide +kernel
theorem d_L_law_932 : decode cL_law 932 = .ok (.iconst 2, 1) := by decide +kernel
theorem d_L_law_933 : decode cL_law 933 = .ok (.iadd, 1) := by decide +kernel
theorem d_L_law_934 : decode cL_law 934 = .ok (.iaload, 1) := by decide +kernel
theorem d_L_law_935 : decode cL_law 935 = .ok (.invokevirtual 102, 3) := by decide +kernel
theorem d_L_law_938 : decode cL_law 938 = .ok (.if_icmp .eq 793, 3) := by decide +kernel
theorem d_L_law_941 : decode cL_law 941 = .ok (.iconst 0, 1) := by decide +kernel
theorem d_L_law_942 : decode cL_law 942 = .ok (.ireturn, 1) := by decide +kernel
theorem d_L_law_943 : decode cL_law 943 = .ok (.aload_n 1, 1) := by decide +kernel
theorem d_L_law_944 : decode cL_law 944 = .ok (.aload_n 0, 1) := by decide +kernel
theorem d_L_law_945 : decode cL_law 945 = .ok (.iload_n 3, 1) := by decide +kernel
theorem d_L_law_946 : decode cL_law 946 = .ok (.iconst 1, 1) := by decide +kernel
theorem d_L_law_947 : decode cL_law 947 = .ok (.iadd, 1) := by decide +kernel
theorem d_L_law_948 : decode cL_law 948 = .ok (.iaload, 1) := by decide +kernel
theorem d_L_law_949 : decode cL_law 949 = .ok (.aload_n 0, 1) := by decide +kernel
theorem d_L_law_950 : decode cL_law 950 = .ok (.iload_n 3, 1) := by decide +kernel
theorem d_L_law_951 : decode cL_law 951 = .ok (.iconst 2, 1) := by decide +kernel
theorem d_L_law_952 : decode cL_law 952 = .ok (.iadd, 1) := by decide +kernel
theorem d_L_law_953 : decode cL_law 953 = .ok (.iaload, 1) := by decide +kernel
theorem d_L_law_954 : decode cL_law 954 = .ok (.invokevirtual 103, 3) := by decide +kernel
theorem d_L_law_957 : decode cL_law 957 = .ok (.aload_n 2, 1) := by decide +kernel
theorem d_L_law_958 : decode cL_law 958 = .ok (.aload_n 0, 1) := by decide +kernel
theorem d_L_law_959 : decode cL_law 959 = .ok (.iload_n 3, 1) := by decide +kernel
theorem d_L_law_960 : decode cL_law 960 = .ok (.iconst 1, 1) := by decide +kernel
theorem d_L_law_961 : decode cL_law 961 = .ok (.iadd, 1) := by decide +kernel
theorem d_L_law_962 : decode cL_law 962 = .ok (.iaload, 1) := by decide +kernel
theorem d_L_law_963 : decode cL_law 963 = .ok (.aload_n 0, 1) := by decide +kernel
theorem d_L_law_964 : decode cL_law 964 = .ok (.iload_n 3, 1) := by decide +kernel
theorem d_L_law_965 : decode cL_law 965 = .ok (.iconst 2, 1) := by decide +kernel
theorem d_L_law_966 : decode cL_law 966 = .ok (.iadd, 1) := by decide +kernel
theorem d_L_law_967 : decode cL_law 967 = .ok (.iaload, 1) := by decide +kernel
theorem d_L_law_968 : decode cL_law 968 = .ok (.invokevirtual 106, 3) := by decide +kernel
theorem d_L_law_971 : decode cL_law 971 = .ok (.if_icmp .eq 760, 3) := by decide +kernel
theorem d_L_law_974 : decode cL_law 974 = .ok (.iconst 0, 1) := by decide +kernel
theorem d_L_law_975 : decode cL_law 975 = .ok (.ireturn, 1) := by decide +kernel
theorem d_L_law_976 : decode cL_law 976 = .ok (.aload_n 1, 1) := by decide +kernel
theorem d_L_law_977 : decode cL_law 977 = .ok (.aload_n 0, 1) := by decide +kernel
theorem d_L_law_978 : decode cL_law 978 = .ok (.iload_n 3, 1) := by decide +kernel
theorem d_L_law_979 : decode cL_law 979 = .ok (.iconst 1, 1) := by decide +kernel
theorem d_L_law_980 : decode cL_law 980 = .ok (.iadd, 1) := by decide +kernel
theorem d_L_law_981 : decode cL_law 981 = .ok (.iaload, 1) := by decide +kernel
theorem d_L_law_982 : decode cL_law 982 = .ok (.aload_n 0, 1) := by decide +kernel
theorem d_L_law_983 : decode cL_law 983 = .ok (.iload_n 3, 1) := by decide +kernel
theorem d_L_law_984 : decode cL_law 984 = .ok (.iconst 2, 1) := by decide +kernel
theorem d_L_law_985 : decode cL_law 985 = .ok (.iadd, 1) := by decide +kernel
theorem d_L_law_986 : decode cL_law 986 = .ok (.iaload, 1) := by decide +kernel
theorem d_L_law_987 : decode cL_law 987 = .ok (.invokevirtual 107, 3) := by decide +kernel
theorem d_L_law_990 : decode cL_law 990 = .ok (.aload_n 2, 1) := by decide +kernel
theorem d_L_law_991 : decode cL_law 991 = .ok (.aload_n 0, 1) := by decide +kernel
theorem d_L_law_992 : decode cL_law 992 = .ok (.iload_n 3, 1) := by decide +kernel
theorem d_L_law_993 : decode cL_law 993 = .ok (.iconst 1, 1) := by decide +kernel
theorem d_L_law_994 : decode cL_law 994 = .ok (.iadd, 1) := by decide +kernel
theorem d_L_law_995 : decode cL_law 995 = .ok (.iaload, 1) := by decide +kernel
theorem d_L_law_996 : decode cL_law 996 = .ok (.aload_n 0, 1) := by decide +kernel
theorem d_L_law_997 : decode cL_law 997 = .ok (.iload_n 3, 1) := by decide +kernel
theorem d_L_law_998 : decode cL_law 998 = .ok (.iconst 2, 1) := by decide +kernel
theorem d_L_law_999 : decode cL_law 999 = .ok (.iadd, 1) := by decide +kernel
theorem d_L_law_1000 : decode cL_law 1000 = .ok (.iaload, 1) := by decide +kernel
theorem d_L_law_1001 : decode cL_law 1001 = .ok (.invokevirtual 110, 3) := by decide +kernel
theorem d_L_law_1004 : decode cL_law 1004 = .ok (.if_icmp .eq 727, 3) := by decide +kernel
theorem d_L_law_1007 : decode cL_law 1007 = .ok (.iconst 0, 1) := by decide +kernel
theorem d_L_law_1008 : decode cL_law 1008 = .ok (.ireturn, 1) := by decide +kernel
theorem d_L_law_1009 : decode cL_law 1009 = .ok (.aload_n 1, 1) := by decide +kernel
theorem d_L_law_1010 : decode cL_law 1010 = .ok (.aload_n 0, 1) := by decide +kernel
theorem d_L_law_1011 : decode cL_law 1011 = .ok (.iload_n 3, 1) := by decide +kernel
theorem d_L_law_1012 : decode cL_law 1012 = .ok (.iconst 1, 1) := by decide +kernel
theorem d_L_law_1013 : decode cL_law 1013 = .ok (.iadd, 1) := by decide +kernel
theorem d_L_law_1014 : decode cL_law 1014 = .ok (.iaload, 1) := by decide +kernel
theorem d_L_law_1015 : decode cL_law 1015 = .ok (.aload_n 0, 1) := by decide +kernel
theorem d_L_law_1016 : decode cL_law 1016 = .ok (.iload_n 3, 1) := by decide +kernel
theorem d_L_law_1017 : decode cL_law 1017 = .ok (.iconst 2, 1) := by decide +kernel
theorem d_L_law_1018 : decode cL_law 1018 = .ok (.iadd, 1) := by decide +kernel
theorem d_L_law_1019 : decode cL_law 1019 = .ok (.iaload, 1) := by decide +kernel
theorem d_L_law_1020 : decode cL_law 1020 = .ok (.invokevirtual 111, 3) := by decide +kernel
theorem d_L_law_1023 : decode cL_law 1023 = .ok (.aload_n 2, 1) := by decide +kernel
theorem d_L_law_1024 : decode cL_law 1024 = .ok (.aload_n 0, 1) := by decide +kernel
theorem d_L_law_1025 : decode cL_law 1025 = .ok (.iload_n 3, 1) := by decide +kernel
theorem d_L_law_1026 : decode cL_law 1026 = .ok (.iconst 1, 1) := by decide +kernel
theorem d_L_law_1027 : decode cL_law 1027 = .ok (.iadd, 1) := by decide +kernel
theorem d_L_law_1028 : decode cL_law 1028 = .ok (.iaload, 1) := by decide +kernel
theorem d_L_law_1029 : decode cL_law 1029 = .ok (.aload_n 0, 1) := by decide +kernel
theorem d_L_law_1030 : decode cL_law 1030 = .ok (.iload_n 3, 1) := by decide +kernel
theorem d_L_law_1031 : decode cL_law 1031 = .ok (.iconst 2, 1) := by decide +kernel
theorem d_L_law_1032 : decode cL_law 1032 = .ok (.iadd, 1) := by decide +kernel
theorem d_L_law_1033 : decode cL_law 1033 = .ok (.iaload, 1) := by decide +kernel
theorem d_L_law_1034 : decode cL_law 1034 = .ok (.invokevirtual 114, 3) := by decide +kernel
theorem d_L_law_1037 : decode cL_law 1037 = .ok (.if_icmp .eq 694, 3) := by decide +kernel
theorem d_L_law_1040 : decode cL_law 1040 = .ok (.iconst 0, 1) := by decide +kernel
theorem d_L_law_1041 : decode cL_law 1041 = .ok (.ireturn, 1) := by decide +kernel
theorem d_L_law_1042 : decode cL_law 1042 = .ok (.aload_n 1, 1) := by decide +kernel
theorem d_L_law_1043 : decode cL_law 1043 = .ok (.aload_n 0, 1) := by decide +kernel
theorem d_L_law_1044 : decode cL_law 1044 = .ok (.iload_n 3, 1) := by decide +kernel
theorem d_L_law_1045 : decode cL_law 1045 = .ok (.iconst 1, 1) := by decide +kernel
theorem d_L_law_1046 : decode cL_law 1046 = .ok (.iadd, 1) := by decide +kernel
theorem d_L_law_1047 : decode cL_law 1047 = .ok (.iaload, 1) := by decide +kernel
theorem d_L_law_1048 : decode cL_law 1048 = .ok (.aload_n 0, 1) := by decide +kernel
theorem d_L_law_1049 : decode cL_law 1049 = .ok (.iload_n 3, 1) := by decide +kernel
theorem d_L_law_1050 : decode cL_law 1050 = .ok (.iconst 2, 1) := by decide +kernel
theorem d_L_law_1051 : decode cL_law 1051 = .ok (.iadd, 1) := by decide +kernel
theorem d_L_law_1052 : decode cL_law 1052 = .ok (.iaload, 1) := by decide +kernel
theorem d_L_law_1053 : decode cL_law 1053 = .ok (.ifCond .eq 7, 3) := by decide +kernel
theorem d_L_law_1056 : decode cL_law 1056 = .ok (.iconst 1, 1) := by decide +kernel
theorem d_L_law_1057 : decode cL_law 1057 = .ok (.goto 4, 3) := by decide +kernel
theorem d_L_law_1060 : decode cL_law 1060 = .ok (.iconst 0, 1) := by decide +kernel
theorem d_L_law_1061 : decode cL_law 1061 = .ok (.invokevirtual 115, 3) := by decide +kernel
theorem d_L_law_1064 : decode cL_law 1064 = .ok (.aload_n 2, 1) := by decide +kernel
theorem d_L_law_1065 : decode cL_law 1065 = .ok (.aload_n 0, 1) := by decide +kernel
theorem d_L_law_1066 : decode cL_law 1066 = .ok (.iload_n 3, 1) := by decide +kernel
theorem d_L_law_1067 : decode cL_law 1067 = .ok (.iconst 1, 1) := by decide +kernel
theorem d_L_law_1068 : decode cL_law 1068 = .ok (.iadd, 1) := by decide +kernel
theorem d_L_law_1069 : decode cL_law 1069 = .ok (.iaload, 1) := by decide +kernel
theorem d_L_law_1070 : decode cL_law 1070 = .ok (.aload_n 0, 1) := by decide +kernel
theorem d_L_law_1071 : decode cL_law 1071 = .ok (.iload_n 3, 1) := by decide +kernel
theorem d_L_law_1072 : decode cL_law 1072 = .ok (.iconst 2, 1) := by decide +kernel
theorem d_L_law_1073 : decode cL_law 1073 = .ok (.iadd, 1) := by decide +kernel
theorem d_L_law_1074 : decode cL_law 1074 = .ok (.iaload, 1) := by decide +kernel
theorem d_L_law_1075 : decode cL_law 1075 = .ok (.ifCond .eq 7, 3) := by decide +kernel
theorem d_L_law_1078 : decode cL_law 1078 = .ok (.iconst 1, 1) := by decide +kernel
theorem d_L_law_1079 : decode cL_law 1079 = .ok (.goto 4, 3) := by decide +kernel
theorem d_L_law_1082 : decode cL_law 1082 = .ok (.iconst 0, 1) := by decide +kernel
theorem d_L_law_1083 : decode cL_law 1083 = .ok (.invokevirtual 118, 3) := by decide +kernel
theorem d_L_law_1086 : decode cL_law 1086 = .ok (.if_icmp .eq 645, 3) := by decide +kernel
theorem d_L_law_1089 : decode cL_law 1089 = .ok (.iconst 0, 1) := by decide +kernel
theorem d_L_law_1090 : decode cL_law 1090 = .ok (.ireturn, 1) := by decide +kernel
theorem d_L_law_1091 : decode cL_law 1091 = .ok (.aload_n 1, 1) := by decide +kernel
theorem d_L_law_1092 : decode cL_law 1092 = .ok (.aload_n 0, 1) := by decide +kernel
theorem d_L_law_1093 : decode cL_law 1093 = .ok (.iload_n 3, 1) := by decide +kernel
theorem d_L_law_1094 : decode cL_law 1094 = .ok (.iconst 1, 1) := by decide +kernel
theorem d_L_law_1095 : decode cL_law 1095 = .ok (.iadd, 1) := by decide +kernel
theorem d_L_law_1096 : decode cL_law 1096 = .ok (.iaload, 1) := by decide +kernel
theorem d_L_law_1097 : decode cL_law 1097 = .ok (.aload_n 0, 1) := by decide +kernel
theorem d_L_law_1098 : decode cL_law 1098 = .ok (.iload_n 3, 1) := by decide +kernel
theorem d_L_law_1099 : decode cL_law 1099 = .ok (.iconst 2, 1) := by decide +kernel
theorem d_L_law_1100 : decode cL_law 1100 = .ok (.iadd, 1) := by decide +kernel
theorem d_L_law_1101 : decode cL_law 1101 = .ok (.iaload, 1) := by decide +kernel
theorem d_L_law_1102 : decode cL_law 1102 = .ok (.aload_n 0, 1) := by decide +kernel
theorem d_L_law_1103 : decode cL_law 1103 = .ok (.iload_n 3, 1) := by decide +kernel
theorem d_L_law_1104 : decode cL_law 1104 = .ok (.iconst 3, 1) := by decide +kernel
theorem d_L_law_1105 : decode cL_law 1105 = .ok (.iadd, 1) := by decide +kernel
theorem d_L_law_1106 : decode cL_law 1106 = .ok (.iaload, 1) := by decide +kernel
theorem d_L_law_1107 : decode cL_law 1107 = .ok (.invokevirtual 119, 3) := by decide +kernel
theorem d_L_law_1110 : decode cL_law 1110 = .ok (.aload_n 2, 1) := by decide +kernel
theorem d_L_law_1111 : decode cL_law 1111 = .ok (.aload_n 0, 1) := by decide +kernel
theorem d_L_law_1112 : decode cL_law 1112 = .ok (.iload_n 3, 1) := by decide +kernel
theorem d_L_law_1113 : decode cL_law 1113 = .ok (.iconst 1, 1) := by decide +kernel
theorem d_L_law_1114 : decode cL_law 1114 = .ok (.iadd, 1) := by decide +kernel
theorem d_L_law_1115 : decode cL_law 1115 = .ok (.iaload, 1) := by decide +kernel
theorem d_L_law_1116 : decode cL_law 1116 = .ok (.aload_n 0, 1) := by decide +kernel
theorem d_L_law_1117 : decode cL_law 1117 = .ok (.iload_n 3, 1) := by decide +kernel
theorem d_L_law_1118 : decode cL_law 1118 = .ok (.iconst 2, 1) := by decide +kernel
theorem d_L_law_1119 : decode cL_law 1119 = .ok (.iadd, 1) := by decide +kernel
theorem d_L_law_1120 : decode cL_law 1120 = .ok (.iaload, 1) := by decide +kernel
theorem d_L_law_1121 : decode cL_law 1121 = .ok (.aload_n 0, 1) := by decide +kernel
theorem d_L_law_1122 : decode cL_law 1122 = .ok (.iload_n 3, 1) := by decide +kernel
theorem d_L_law_1123 : decode cL_law 1123 = .ok (.iconst 3, 1) := by decide +kernel
theorem d_L_law_1124 : decode cL_law 1124 = .ok (.iadd, 1) := by decide +kernel
theorem d_L_law_1125 : decode cL_law 1125 = .ok (.iaload, 1) := by decide +kernel
theorem d_L_law_1126 : decode cL_law 1126 = .ok (.invokevirtual 122, 3) := by decide +kernel
theorem d_L_law_1129 : decode cL_law 1129 = .ok (.if_icmp .eq 602, 3) := by decide +kernel
theorem d_L_law_1132 : decode cL_law 1132 = .ok (.iconst 0, 1) := by decide +kernel
theorem d_L_law_1133 : decode cL_law 1133 = .ok (.ireturn, 1) := by decide +kernel
theorem d_L_law_1134 : decode cL_law 1134 = .ok (.aload_n 1, 1) := by decide +kernel
theorem d_L_law_1135 : decode cL_law 1135 = .ok (.aload_n 0, 1) := by decide +kernel
theorem d_L_law_1136 : decode cL_law 1136 = .ok (.iload_n 3, 1) := by decide +kernel
theorem d_L_law_1137 : decode cL_law 1137 = .ok (.iconst 1, 1) := by decide +kernel
theorem d_L_law_1138 : decode cL_law 1138 = .ok (.iadd, 1) := by decide +kernel
theorem d_L_law_1139 : decode cL_law 1139 = .ok (.iaload, 1) := by decide +kernel
theorem d_L_law_1140 : decode cL_law 1140 = .ok (.aload_n 0, 1) := by decide +kernel
theorem d_L_law_1141 : decode cL_law 1141 = .ok (.iload_n 3, 1) := by decide +kernel
theorem d_L_law_1142 : decode cL_law 1142 = .ok (.iconst 2, 1) := by decide +kernel
theorem d_L_law_1143 : decode cL_law 1143 = .ok (.iadd, 1) := by decide +kernel
theorem d_L_law_1144 : decode cL_law 1144 = .ok (.iaload, 1) := by decide +kernel
theorem d_L_law_1145 : decode cL_law 1145 = .ok (.aload_n 0, 1) := by decide +kernel
theorem d_L_law_1146 : decode cL_law 1146 = .ok (.iload_n 3, 1) := by decide +kernel
theorem d_L_law_1147 : decode cL_law 1147 = .ok (.iconst 3, 1) := by decide +kernel
theorem d_L_law_1148 : decode cL_law 1148 = .ok (.iadd, 1) := by decide +kernel
theorem d_L_law_1149 : decode cL_law 1149 = .ok (.iaload, 1) := by decide +kernel
theorem d_L_law_1150 : decode cL_law 1150 = .ok (.invokevirtual 123, 3) := by decide +kernel
theorem d_L_law_1153 : decode cL_law 1153 = .ok (.aload_n 2, 1) := by decide +kernel
theorem d_L_law_1154 : decode cL_law 1154 = .ok (.aload_n 0, 1) := by decide +kernel
theorem d_L_law_1155 : decode cL_law 1155 = .ok (.iload_n 3, 1) := by decide +kernel
theorem d_L_law_1156 : decode cL_law 1156 = .ok (.iconst 1, 1) := by decide +kernel
theorem d_L_law_1157 : decode cL_law 1157 = .ok (.iadd, 1) := by decide +kernel
theorem d_L_law_1158 : decode cL_law 1158 = .ok (.iaload, 1) := by decide +kernel
theorem d_L_law_1159 : decode cL_law 1159 = .ok (.aload_n 0, 1) := by decide +kernel
theorem d_L_law_1160 : decode cL_law 1160 = .ok (.iload_n 3, 1) := by decide +kernel
theorem d_L_law_1161 : decode cL_law 1161 = .ok (.iconst 2, 1) := by decide +kernel
theorem d_L_law_1162 : decode cL_law 1162 = .ok (.iadd, 1) := by decide +kernel
theorem d_L_law_1163 : decode cL_law 1163 = .ok (.iaload, 1) := by decide +kernel
theorem d_L_law_1164 : decode cL_law 1164 = .ok (.aload_n 0, 1) := by decide +kernel
theorem d_L_law_1165 : decode cL_law 1165 = .ok (.iload_n 3, 1) := by decide +kernel
theorem d_L_law_1166 : decode cL_law 1166 = .ok (.iconst 3, 1) := by decide +kernel
theorem d_L_law_1167 : decode cL_law 1167 = .ok (.iadd, 1) := by decide +kernel
theorem d_L_law_1168 : decode cL_law 1168 = .ok (.iaload, 1) := by decide +kernel
theorem d_L_law_1169 : decode cL_law 1169 = .ok (.invokevirtual 126, 3) := by decide +kernel
theorem d_L_law_1172 : decode cL_law 1172 = .ok (.if_icmp .eq 559, 3) := by decide +kernel
theorem d_L_law_1175 : decode cL_law 1175 = .ok (.iconst 0, 1) := by decide +kernel
theorem d_L_law_1176 : decode cL_law 1176 = .ok (.ireturn, 1) := by decide +kernel
theorem d_L_law_1177 : decode cL_law 1177 = .ok (.aload_n 1, 1) := by decide +kernel
theorem d_L_law_1178 : decode cL_law 1178 = .ok (.aload_n 0, 1) := by decide +kernel
theorem d_L_law_1179 : decode cL_law 1179 = .ok (.iload_n 3, 1) := by decide +kernel
theorem d_L_law_1180 : decode cL_law 1180 = .ok (.iconst 1, 1) := by decide +kernel
theorem d_L_law_1181 : decode cL_law 1181 = .ok (.iadd, 1) := by decide +kernel
theorem d_L_law_1182 : decode cL_law 1182 = .ok (.iaload, 1) := by decide +kernel
theorem d_L_law_1183 : decode cL_law 1183 = .ok (.aload_n 0, 1) := by decide +kernel
theorem d_L_law_1184 : decode cL_law 1184 = .ok (.iload_n 3, 1) := by decide +kernel
theorem d_L_law_1185 : decode cL_law 1185 = .ok (.iconst 2, 1) := by decide +kernel
theorem d_L_law_1186 : decode cL_law 1186 = .ok (.iadd, 1) := by decide +kernel
theorem d_L_law_1187 : decode cL_law 1187 = .ok (.iaload, 1) := by decide +kernel
theorem d_L_law_1188 : decode cL_law 1188 = .ok (.invokevirtual 127, 3) := by decide +kernel
theorem d_L_law_1191 : decode cL_law 1191 = .ok (.aload_n 2, 1) := by decide +kernel
theorem d_L_law_1192 : decode cL_law 1192 = .ok (.aload_n 0, 1) := by decide +kernel
theorem d_L_law_1193 : decode cL_law 1193 = .ok (.iload_n 3, 1) := by decide +kernel
theorem d_L_law_1194 : decode cL_law 1194 = .ok (.iconst 1, 1) := by decide +kernel
theorem d_L_law_1195 : decode cL_law 1195 = .ok (.iadd, 1) := by decide +kernel
theorem d_L_law_1196 : decode cL_law 1196 = .ok (.iaload, 1) := by decide +kernel
theorem d_L_law_1197 : decode cL_law 1197 = .ok (.aload_n 0, 1) := by decide +kernel
theorem d_L_law_1198 : decode cL_law 1198 = .ok (.iload_n 3, 1) := by decide +kernel
theorem d_L_law_1199 : decode cL_law 1199 = .ok (.iconst 2, 1) := by decide +kernel
theorem d_L_law_1200 : decode cL_law 1200 = .ok (.iadd, 1) := by decide +kernel
theorem d_L_law_1201 : decode cL_law 1201 = .ok (.iaload, 1) := by decide +kernel
theorem d_L_law_1202 : decode cL_law 1202 = .ok (.invokevirtual 130, 3) := by decide +kernel
theorem d_L_law_1205 : decode cL_law 1205 = .ok (.if_icmp .eq 526, 3) := by decide +kernel
theorem d_L_law_1208 : decode cL_law 1208 = .ok (.iconst 0, 1) := by decide +kernel
theorem d_L_law_1209 : decode cL_law 1209 = .ok (.ireturn, 1) := by decide +kernel
theorem d_L_law_1210 : decode cL_law 1210 = .ok (.aload_n 1, 1) := by decide +kernel
theorem d_L_law_1211 : decode cL_law 1211 = .ok (.aload_n 0, 1) := by decide +kernel
theorem d_L_law_1212 : decode cL_law 1212 = .ok (.iload_n 3, 1) := by decide +kernel
theorem d_L_law_1213 : decode cL_law 1213 = .ok (.iconst 1, 1) := by decide +kernel
theorem d_L_law_1214 : decode cL_law 1214 = .ok (.iadd, 1) := by decide +kernel
theorem d_L_law_1215 : decode cL_law 1215 = .ok (.iaload, 1) := by decide +kernel
theorem d_L_law_1216 : decode cL_law 1216 = .ok (.aload_n 0, 1) := by decide +kernel
theorem d_L_law_1217 : decode cL_law 1217 = .ok (.iload_n 3, 1) := by decide +kernel
theorem d_L_law_1218 : decode cL_law 1218 = .ok (.iconst 2, 1) := by decide +kernel
theorem d_L_law_1219 : decode cL_law 1219 = .ok (.iadd, 1) := by decide +kernel
theorem d_L_law_1220 : decode cL_law 1220 = .ok (.iaload, 1) := by decide +kernel
theorem d_L_law_1221 : decode cL_law 1221 = .ok (.aload_n 0, 1) := by decide +kernel
theorem d_L_law_1222 : decode cL_law 1222 = .ok (.iload_n 3, 1) := by decide +kernel
theorem d_L_law_1223 : decode cL_law 1223 = .ok (.iconst 3, 1) := by decide +kernel
theorem d_L_law_1224 : decode cL_law 1224 = .ok (.iadd, 1) := by decide +kernel
theorem d_L_law_1225 : decode cL_law 1225 = .ok (.iaload, 1) := by decide +kernel
theorem d_L_law_1226 : decode cL_law 1226 = .ok (.invokevirtual 131, 3) := by decide +kernel
theorem d_L_law_1229 : decode cL_law 1229 = .ok (.aload_n 2, 1) := by decide +kernel
theorem d_L_law_1230 : decode cL_law 1230 = .ok (.aload_n 0, 1) := by decide +kernel
theorem d_L_law_1231 : decode cL_law 1231 = .ok (.iload_n 3, 1) := by decide +kernel
theorem d_L_law_1232 : decode cL_law 1232 = .ok (.iconst 1, 1) := by decide +kernel
theorem d_L_law_1233 : decode cL_law 1233 = .ok (.iadd, 1) := by decide +kernel
theorem d_L_law_1234 : decode cL_law 1234 = .ok (.iaload, 1) := by decide +kernel
theorem d_L_law_1235 : decode cL_law 1235 = .ok (.aload_n 0, 1) := by decide +kernel
theorem d_L_law_1236 : decode cL_law 1236 = .ok (.iload_n 3, 1) := by decide +kernel
theorem d_L_law_1237 : decode cL_law 1237 = .ok (.iconst 2, 1) := by decide +kernel
theorem d_L_law_1238 : decode cL_law 1238 = .ok (.iadd, 1) := by decide +kernel
theorem d_L_law_1239 : decode cL_law 1239 = .ok (.iaload, 1) := by decide +kernel
theorem d_L_law_1240 : decode cL_law 1240 = .ok (.aload_n 0, 1) := by decide +kernel
theorem d_L_law_1241 : decode cL_law 1241 = .ok (.iload_n 3, 1) := by decide +kernel
theorem d_L_law_1242 : decode cL_law 1242 = .ok (.iconst 3, 1) := by decide +kernel
theorem d_L_law_1243 : decode cL_law 1243 = .ok (.iadd, 1) := by decide +kernel
theorem d_L_law_1244 : decode cL_law 1244 = .ok (.iaload, 1) := by decide +kernel
theorem d_L_law_1245 : decode cL_law 1245 = .ok (.invokevirtual 134, 3) := by decide +kernel
theorem d_L_law_1248 : decode cL_law 1248 = .ok (.if_icmp .eq 483, 3) := by decide +kernel
theorem d_L_law_1251 : decode cL_law 1251 = .ok (.iconst 0, 1) := by decide +kernel
theorem d_L_law_1252 : decode cL_law 1252 = .ok (.ireturn, 1) := by decide +kernel
theorem d_L_law_1253 : decode cL_law 1253 = .ok (.aload_n 1, 1) := by decide +kernel
theorem d_L_law_1254 : decode cL_law 1254 = .ok (.aload_n 0, 1) := by decide +kernel
theorem d_L_law_1255 : decode cL_law 1255 = .ok (.iload_n 3, 1) := by decide +kernel
theorem d_L_law_1256 : decode cL_law 1256 = .ok (.iconst 1, 1) := by decide +kernel
theorem d_L_law_1257 : decode cL_law 1257 = .ok (.iadd, 1) := by decide +kernel
theorem d_L_law_1258 : decode cL_law 1258 = .ok (.iaload, 1) := by decide +kernel
theorem d_L_law_1259 : decode cL_law 1259 = .ok (.aload_n 0, 1) := by decide +kernel
theorem d_L_law_1260 : decode cL_law 1260 = .ok (.iload_n 3, 1) := by decide +kernel
theorem d_L_law_1261 : decode cL_law 1261 = .ok (.iconst 2, 1) := by decide +kernel
theorem d_L_law_1262 : decode cL_law 1262 = .ok (.iadd, 1) := by decide +kernel
theorem d_L_law_1263 : decode cL_law 1263 = .ok (.iaload, 1) := by decide +kernel
theorem d_L_law_1264 : decode cL_law 1264 = .ok (.aload_n 0, 1) := by decide +kernel
theorem d_L_law_1265 : decode cL_law 1265 = .ok (.iload_n 3, 1) := by decide +kernel
theorem d_L_law_1266 : decode cL_law 1266 = .ok (.iconst 3, 1) := by decide +kernel
theorem d_L_law_1267 : decode cL_law 1267 = .ok (.iadd, 1) := by decide +kernel
theorem d_L_law_1268 : decode cL_law 1268 = .ok (.iaload, 1) := by decide +kernel
theorem d_L_law_1269 : decode cL_law 1269 = .ok (.aload_n 0, 1) := by decide +kernel
theorem d_L_law_1270 : decode cL_law 1270 = .ok (.iload_n 3, 1) := by decide +kernel
theorem d_L_law_1271 : decode cL_law 1271 = .ok (.iconst 4, 1) := by decide +kernel
theorem d_L_law_1272 : decode cL_law 1272 = .ok (.iadd, 1) := by decide +kernel
theorem d_L_law_1273 : decode cL_law 1273 = .ok (.iaload, 1) := by decide +kernel
theorem d_L_law_1274 : decode cL_law 1274 = .ok (.invokevirtual 135, 3) := by decide +kernel
theorem d_L_law_1277 : decode cL_law 1277 = .ok (.aload_n 2, 1) := by decide +kernel
theorem d_L_law_1278 : decode cL_law 1278 = .ok (.aload_n 0, 1) := by decide +kernel
theorem d_L_law_1279 : decode cL_law 1279 = .ok (.iload_n 3, 1) := by decide +kernel
theorem d_L_law_1280 : decode cL_law 1280 = .ok (.iconst 1, 1) := by decide +kernel
theorem d_L_law_1281 : decode cL_law 1281 = .ok (.iadd, 1) := by decide +kernel
theorem d_L_law_1282 : decode cL_law 1282 = .ok (.iaload, 1) := by decide +kernel
theorem d_L_law_1283 : decode cL_law 1283 = .ok (.aload_n 0, 1) := by decide +kernel
theorem d_L_law_1284 : decode cL_law 1284 = .ok (.iload_n 3, 1) := by decide +kernel
theorem d_L_law_1285 : decode cL_law 1285 = .ok (.iconst 2, 1) := by decide +kernel
theorem d_L_law_1286 : decode cL_law 1286 = .ok (.iadd, 1) := by decide +kernel
theorem d_L_law_1287 : decode cL_law 1287 = .ok (.iaload, 1) := by decide +kernel
theorem d_L_law_1288 : decode cL_law 1288 = .ok (.aload_n 0, 1) := by decide +kernel
theorem d_L_law_1289 : decode cL_law 1289 = .ok (.iload_n 3, 1) := by decide +kernel
theorem d_L_law_1290 : decode cL_law 1290 = .ok (.iconst 3, 1) := by decide +kernel
theorem d_L_law_1291 : decode cL_law 1291 = .ok (.iadd, 1) := by decide +kernel
theorem d_L_law_1292 : decode cL_law 1292 = .ok (.iaload, 1) := by decide +kernel
theorem d_L_law_1293 : decode cL_law 1293 = .ok (.aload_n 0, 1) := by decide +kernel
theorem d_L_law_1294 : decode cL_law 1294 = .ok (.iload_n 3, 1) := by decide +kernel
theorem d_L_law_1295 : decode cL_law 1295 = .ok (.iconst 4, 1) := by decide +kernel
theorem d_L_law_1296 : decode cL_law 1296 = .ok (.iadd, 1) := by decide +kernel
theorem d_L_law_1297 : decode cL_law 1297 = .ok (.iaload, 1) := by decide +kernel
theorem d_L_law_1298 : decode cL_law 1298 = .ok (.invokevirtual 138, 3) := by decide +kernel
theorem d_L_law_1301 : decode cL_law 1301 = .ok (.if_icmp .eq 430, 3) := by decide +kernel
theorem d_L_law_1304 : decode cL_law 1304 = .ok (.iconst 0, 1) := by decide +kernel
theorem d_L_law_1305 : decode cL_law 1305 = .ok (.ireturn, 1) := by decide +kernel
theorem d_L_law_1306 : decode cL_law 1306 = .ok (.aload_n 1, 1) := by decide +kernel
theorem d_L_law_1307 : decode cL_law 1307 = .ok (.invokevirtual 139, 3) := by decide +kernel
theorem d_L_law_1310 : decode cL_law 1310 = .ok (.aload_n 2, 1) := by decide +kernel
theorem d_L_law_1311 : decode cL_law 1311 = .ok (.invokevirtual 142, 3) := by decide +kernel
theorem d_L_law_1314 : decode cL_law 1314 = .ok (.if_icmp .eq 417, 3) := by decide +kernel
theorem d_L_law_1317 : decode cL_law 1317 = .ok (.iconst 0, 1) := by decide +kernel
theorem d_L_law_1318 : decode cL_law 1318 = .ok (.ireturn, 1) := by decide +kernel
theorem d_L_law_1319 : decode cL_law 1319 = .ok (.aload_n 1, 1) := by decide +kernel
theorem d_L_law_1320 : decode cL_law 1320 = .ok (.aload_n 0, 1) := by decide +kernel
theorem d_L_law_1321 : decode cL_law 1321 = .ok (.iload_n 3, 1) := by decide +kernel
theorem d_L_law_1322 : decode cL_law 1322 = .ok (.iconst 1, 1) := by decide +kernel
theorem d_L_law_1323 : decode cL_law 1323 = .ok (.iadd, 1) := by decide +kernel
theorem d_L_law_1324 : decode cL_law 1324 = .ok (.iaload, 1) := by decide +kernel
theorem d_L_law_1325 : decode cL_law 1325 = .ok (.aload_n 0, 1) := by decide +kernel
theorem d_L_law_1326 : decode cL_law 1326 = .ok (.iload_n 3, 1) := by decide +kernel
theorem d_L_law_1327 : decode cL_law 1327 = .ok (.iconst 2, 1) := by decide +kernel
theorem d_L_law_1328 : decode cL_law 1328 = .ok (.iadd, 1) := by decide +kernel
theorem d_L_law_1329 : decode cL_law 1329 = .ok (.iaload, 1) := by decide +kernel
theorem d_L_law_1330 : decode cL_law 1330 = .ok (.aload_n 0, 1) := by decide +kernel
theorem d_L_law_1331 : decode cL_law 1331 = .ok (.iload_n 3, 1) := by decide +kernel
theorem d_L_law_1332 : decode cL_law 1332 = .ok (.iconst 3, 1) := by decide +kernel
theorem d_L_law_1333 : decode cL_law 1333 = .ok (.iadd, 1) := by decide +kernel
theorem d_L_law_1334 : decode cL_law 1334 = .ok (.iaload, 1) := by decide +kernel
theorem d_L_law_1335 : decode cL_law 1335 = .ok (.aload_n 0, 1) := by decide +kernel
theorem d_L_law_1336 : decode cL_law 1336 = .ok (.iload_n 3, 1) := by decide +kernel
theorem d_L_law_1337 : decode cL_law 1337 = .ok (.iconst 4, 1) := by decide +kernel
theorem d_L_law_1338 : decode cL_law 1338 = .ok (.iadd, 1) := by decide +kernel
theorem d_L_law_1339 : decode cL_law 1339 = .ok (.iaload, 1) := by decide +kernel
theorem d_L_law_1340 : decode cL_law 1340 = .ok (.ifCond .eq 7, 3) := by decide +kernel
theorem d_L_law_1343 : decode cL_law 1343 = .ok (.iconst 1, 1) := by decide +kernel
theorem d_L_law_1344 : decode cL_law 1344 = .ok (.goto 4, 3) := by decide +kernel
theorem d_L_law_1347 : decode cL_law 1347 = .ok (.iconst 0, 1) := by decide +kernel
theorem d_L_law_1348 : decode cL_law 1348 = .ok (.aload_n 0, 1) := by decide +kernel
theorem d_L_law_1349 : decode cL_law 1349 = .ok (.iload_n 3, 1) := by decide +kernel
theorem d_L_law_1350 : decode cL_law 1350 = .ok (.iconst 5, 1) := by decide +kernel
theorem d_L_law_1351 : decode cL_law 1351 = .ok (.iadd, 1) := by decide +kernel
theorem d_L_law_1352 : decode cL_law 1352 = .ok (.iaload, 1) := by decide +kernel
theorem d_L_law_1353 : decode cL_law 1353 = .ok (.ifCond .eq 7, 3) := by decide +kernel
theorem d_L_law_1356 : decode cL_law 1356 = .ok (.iconst 1, 1) := by decide +kernel
theorem d_L_law_1357 : decode cL_law 1357 = .ok (.goto 4, 3) := by decide +kernel
theorem d_L_law_1360 : decode cL_law 1360 = .ok (.iconst 0, 1) := by decide +kernel
theorem d_L_law_1361 : decode cL_law 1361 = .ok (.invokevirtual 143, 3) := by decide +kernel
theorem d_L_law_1364 : decode cL_law 1364 = .ok (.aload_n 2, 1) := by decide +kernel
theorem d_L_law_1365 : decode cL_law 1365 = .ok (.aload_n 0, 1) := by decide +kernel
theorem d_L_law_1366 : decode cL_law 1366 = .ok (.iload_n 3, 1) := by decide +kernel
theorem d_L_law_1367 : decode cL_law 1367 = .ok (.iconst 1, 1) := by decide +kernel
theorem d_L_law_1368 : decode cL_law 1368 = .ok (.iadd, 1) := by decide +kernel
theorem d_L_law_1369 : decode cL_law 1369 = .ok (.iaload, 1) := by decide +kernel
theorem d_L_law_1370 : decode cL_law 1370 = .ok (.aload_n 0, 1) := by decide +kernel
theorem d_L_law_1371 : decode cL_law 1371 = .ok (.iload_n 3, 1) := by decide +kernel
theorem d_L_law_1372 : decode cL_law 1372 = .ok (.iconst 2, 1) := by decide +kernel
theorem d_L_law_1373 : decode cL_law 1373 = .ok (.iadd, 1) := by decide +kernel
theorem d_L_law_1374 : decode cL_law 1374 = .ok (.iaload, 1) := by decide +kernel
theorem d_L_law_1375 : decode cL_law 1375 = .ok (.aload_n 0, 1) := by decide +kernel
theorem d_L_law_1376 : decode cL_law 1376 = .ok (.iload_n 3, 1) := by decide +kernel
theorem d_L_law_1377 : decode cL_law 1377 = .ok (.iconst 3, 1) := by decide +kernel
theorem d_L_law_1378 : decode cL_law 1378 = .ok (.iadd, 1) := by decide +kernel
theorem d_L_law_1379 : decode cL_law 1379 = .ok (.iaload, 1) := by decide +kernel
theorem d_L_law_1380 : decode cL_law 1380 = .ok (.aload_n 0, 1) := by decide +kernel
theorem d_L_law_1381 : decode cL_law 1381 = .ok (.iload_n 3, 1) := by decide +kernel
theorem d_L_law_1382 : decode cL_law 1382 = .ok (.iconst 4, 1) := by decide +kernel
theorem d_L_law_1383 : decode cL_law 1383 = .ok (.iadd, 1) := by decide +kernel
theorem d_L_law_1384 : decode cL_law 1384 = .ok (.iaload, 1) := by decide +kernel
theorem d_L_law_1385 : decode cL_law 1385 = .ok (.ifCond .eq 7, 3) := by decide +kernel
theorem d_L_law_1388 : decode cL_law 1388 = .ok (.iconst 1, 1) := by decide +kernel
theorem d_L_law_1389 : decode cL_law 1389 = .ok (.goto 4, 3) := by decide +kernel
theorem d_L_law_1392 : decode cL_law 1392 = .ok (.iconst 0, 1) := by decide +kernel
theorem d_L_law_1393 : decode cL_law 1393 = .ok (.aload_n 0, 1) := by decide +kernel
theorem d_L_law_1394 : decode cL_law 1394 = .ok (.iload_n 3, 1) := by decide +kernel
theorem d_L_law_1395 : decode cL_law 1395 = .ok (.iconst 5, 1) := by decide +kernel
theorem d_L_law_1396 : decode cL_law 1396 = .ok (.iadd, 1) := by decide +kernel
theorem d_L_law_1397 : decode cL_law 1397 = .ok (.iaload, 1) := by decide +kernel
theorem d_L_law_1398 : decode cL_law 1398 = .ok (.ifCond .eq 7, 3) := by decide +kernel
theorem d_L_law_1401 : decode cL_law 1401 = .ok (.iconst 1, 1) := by decide +kernel
theorem d_L_law_1402 : decode cL_law 1402 = .ok (.goto 4, 3) := by decide +kernel
theorem d_L_law_1405 : decode cL_law 1405 = .ok (.iconst 0, 1) := by decide +kernel
theorem d_L_law_1406 : decode cL_law 1406 = .ok (.invokevirtual 147, 3) := by decide +kernel
theorem d_L_law_1409 : decode cL_law 1409 = .ok (.if_icmp .eq 322, 3) := by decide +kernel
theorem d_L_law_1412 : decode cL_law 1412 = .ok (.iconst 0, 1) := by decide +kernel
theorem d_L_law_1413 : decode cL_law 1413 = .ok (.ireturn, 1) := by decide +kernel
theorem d_L_law_1414 : decode cL_law 1414 = .ok (.aload_n 1, 1) := by decide +kernel
theorem d_L_law_1415 : decode cL_law 1415 = .ok (.aload_n 0, 1) := by decide +kernel
theorem d_L_law_1416 : decode cL_law 1416 = .ok (.iload_n 3, 1) := by decide +kernel
theorem d_L_law_1417 : decode cL_law 1417 = .ok (.iconst 1, 1) := by decide +kernel
theorem d_L_law_1418 : decode cL_law 1418 = .ok (.iadd, 1) := by decide +kernel
theorem d_L_law_1419 : decode cL_law 1419 = .ok (.iaload, 1) := by decide +kernel
theorem d_L_law_1420 : decode cL_law 1420 = .ok (.invokevirtual 148, 3) := by decide +kernel
theorem d_L_law_1423 : decode cL_law 1423 = .ok (.aload_n 2, 1) := by decide +kernel
theorem d_L_law_1424 : decode cL_law 1424 = .ok (.aload_n 0, 1) := by decide +kernel
theorem d_L_law_1425 : decode cL_law 1425 = .ok (.iload_n 3, 1) := by decide +kernel
theorem d_L_law_1426 : decode cL_law 1426 = .ok (.iconst 1, 1) := by decide +kernel
theorem d_L_law_1427 : decode cL_law 1427 = .ok (.iadd, 1) := by decide +kernel
theorem d_L_law_1428 : decode cL_law 1428 = .ok (.iaload, 1) := by decide +kernel
theorem d_L_law_1429 : decode cL_law 1429 = .ok (.invokevirtual 151, 3) := by decide +kernel
theorem d_L_law_1432 : decode cL_law 1432 = .ok (.if_icmp .eq 299, 3) := by decide +kernel
theorem d_L_law_1435 : decode cL_law 1435 = .ok (.iconst 0, 1) := by decide +kernel
theorem d_L_law_1436 : decode cL_law 1436 = .ok (.ireturn, 1) := by decide +kernel
theorem d_L_law_1437 : decode cL_law 1437 = .ok (.aload_n 1, 1) := by decide +kernel
theorem d_L_law_1438 : decode cL_law 1438 = .ok (.aload_n 0, 1) := by decide +kernel
theorem d_L_law_1439 : decode cL_law 1439 = .ok (.iload_n 3, 1) := by decide +kernel
theorem d_L_law_1440 : decode cL_law 1440 = .ok (.iconst 1, 1) := by decide +kernel
theorem d_L_law_1441 : decode cL_law 1441 = .ok (.iadd, 1) := by decide +kernel
theorem d_L_law_1442 : decode cL_law 1442 = .ok (.iaload, 1) := by decide +kernel
theorem d_L_law_1443 : decode cL_law 1443 = .ok (.aload_n 0, 1) := by decide +kernel
theorem d_L_law_1444 : decode cL_law 1444 = .ok (.iload_n 3, 1) := by decide +kernel
theorem d_L_law_1445 : decode cL_law 1445 = .ok (.iconst 2, 1) := by decide +kernel
theorem d_L_law_1446 : decode cL_law 1446 = .ok (.iadd, 1) := by decide +kernel
theorem d_L_law_1447 : decode cL_law 1447 = .ok (.iaload, 1) := by decide +kernel
theorem d_L_law_1448 : decode cL_law 1448 = .ok (.aload_n 0, 1) := by decide +kernel
theorem d_L_law_1449 : decode cL_law 1449 = .ok (.iload_n 3, 1) := by decide +kernel
theorem d_L_law_1450 : decode cL_law 1450 = .ok (.iconst 3, 1) := by decide +kernel
theorem d_L_law_1451 : decode cL_law 1451 = .ok (.iadd, 1) := by decide +kernel
theorem d_L_law_1452 : decode cL_law 1452 = .ok (.iaload, 1) := by decide +kernel
theorem d_L_law_1453 : decode cL_law 1453 = .ok (.invokevirtual 152, 3) := by decide +kernel
theorem d_L_law_1456 : decode cL_law 1456 = .ok (.aload_n 2, 1) := by decide +kernel
theorem d_L_law_1457 : decode cL_law 1457 = .ok (.aload_n 0, 1) := by decide +kernel
theorem d_L_law_1458 : decode cL_law 1458 = .ok (.iload_n 3, 1) := by decide +kernel
theorem d_L_law_1459 : decode cL_law 1459 = .ok (.iconst 1, 1) := by decide +kernel
theorem d_L_law_1460 : decode cL_law 1460 = .ok (.iadd, 1) := by decide +kernel
theorem d_L_law_1461 : decode cL_law 1461 = .ok (.iaload, 1) := by decide +kernel
theorem d_L_law_1462 : decode cL_law 1462 = .ok (.aload_n 0, 1) := by decide +kernel
theorem d_L_law_1463 : decode cL_law 1463 = .ok (.iload_n 3, 1) := by decide +kernel
theorem d_L_law_1464 : decode cL_law 1464 = .ok (.iconst 2, 1) := by decide +kernel
theorem d_L_law_1465 : decode cL_law 1465 = .ok (.iadd, 1) := by decide +kernel
theorem d_L_law_1466 : decode cL_law 1466 = .ok (.iaload, 1) := by decide +kernel
theorem d_L_law_1467 : decode cL_law 1467 = .ok (.aload_n 0, 1) := by decide +kernel
theorem d_L_law_1468 : decode cL_law 1468 = .ok (.iload_n 3, 1) := by decide +kernel
theorem d_L_law_1469 : decode cL_law 1469 = .ok (.iconst 3, 1) := by decide +kernel
theorem d_L_law_1470 : decode cL_law 1470 = .ok (.iadd, 1) := by decide +kernel
theorem d_L_law_1471 : decode cL_law 1471 = .ok (.iaload, 1) := by decide +kernel
theorem d_L_law_1472 : decode cL_law 1472 = .ok (.invokevirtual 155, 3) := by decide +kernel
theorem d_L_law_1475 : decode cL_law 1475 = .ok (.if_icmp .eq 256, 3) := by decide +kernel
theorem d_L_law_1478 : decode cL_law 1478 = .ok (.iconst 0, 1) := by decide +kernel
theorem d_L_law_1479 : decode cL_law 1479 = .ok (.ireturn, 1) := by decide +kernel
theorem d_L_law_1480 : decode cL_law 1480 = .ok (.aload_n 1, 1) := by decide +kernel
theorem d_L_law_1481 : decode cL_law 1481 = .ok (.aload_n 0, 1) := by decide +kernel
theorem d_L_law_1482 : decode cL_law 1482 = .ok (.iload_n 3, 1) := by decide +kernel
theorem d_L_law_1483 : decode cL_law 1483 = .ok (.iconst 1, 1) := by decide +kernel
theorem d_L_law_1484 : decode cL_law 1484 = .ok (.iadd, 1) := by decide +kernel
theorem d_L_law_1485 : decode cL_law 1485 = .ok (.iaload, 1) := by decide +kernel
theorem d_L_law_1486 : decode cL_law 1486 = .ok (.invokevirtual 156, 3) := by decide +kernel
theorem d_L_law_1489 : decode cL_law 1489 = .ok (.aload_n 2, 1) := by decide +kernel
theorem d_L_law_1490 : decode cL_law 1490 = .ok (.aload_n 0, 1) := by decide +kernel
theorem d_L_law_1491 : decode cL_law 1491 = .ok (.iload_n 3, 1) := by decide +kernel
theorem d_L_law_1492 : decode cL_law 1492 = .ok (.iconst 1, 1) := by decide +kernel
theorem d_L_law_1493 : decode cL_law 1493 = .ok (.iadd, 1) := by decide +kernel
theorem d_L_law_1494 : decode cL_law 1494 = .ok (.iaload, 1) := by decide +kernel
theorem d_L_law_1495 : decode cL_law 1495 = .ok (.invokevirtual 159, 3) := by decide +kernel
theorem d_L_law_1498 : decode cL_law 1498 = .ok (.if_icmp .eq 233, 3) := by decide +kernel
theorem d_L_law_1501 : decode cL_law 1501 = .ok (.iconst 0, 1) := by decide +kernel
theorem d_L_law_1502 : decode cL_law 1502 = .ok (.ireturn, 1) := by decide +kernel
theorem d_L_law_1503 : decode cL_law 1503 = .ok (.aload_n 1, 1) := by decide +kernel
theorem d_L_law_1504 : decode cL_law 1504 = .ok (.aload_n 0, 1) := by decide +kernel
theorem d_L_law_1505 : decode cL_law 1505 = .ok (.iload_n 3, 1) := by decide +kernel
theorem d_L_law_1506 : decode cL_law 1506 = .ok (.iconst 1, 1) := by decide +kernel
theorem d_L_law_1507 : decode cL_law 1507 = .ok (.iadd, 1) := by decide +kernel
theorem d_L_law_1508 : decode cL_law 1508 = .ok (.iaload, 1) := by decide +kernel
theorem d_L_law_1509 : decode cL_law 1509 = .ok (.aload_n 0, 1) := by decide +kernel
theorem d_L_law_1510 : decode cL_law 1510 = .ok (.iload_n 3, 1) := by decide +kernel
theorem d_L_law_1511 : decode cL_law 1511 = .ok (.iconst 2, 1) := by decide +kernel
theorem d_L_law_1512 : decode cL_law 1512 = .ok (.iadd, 1) := by decide +kernel
theorem d_L_law_1513 : decode cL_law 1513 = .ok (.iaload, 1) := by decide +kernel
theorem d_L_law_1514 : decode cL_law 1514 = .ok (.aload_n 0, 1) := by decide +kernel
theorem d_L_law_1515 : decode cL_law 1515 = .ok (.iload_n 3, 1) := by decide +kernel
theorem d_L_law_1516 : decode cL_law 1516 = .ok (.iconst 3, 1) := by decide +kernel
theorem d_L_law_1517 : decode cL_law 1517 = .ok (.iadd, 1) := by decide +kernel
theorem d_L_law_1518 : decode cL_law 1518 = .ok (.iaload, 1) := by decide +kernel
theorem d_L_law_1519 : decode cL_law 1519 = .ok (.invokevirtual 160, 3) := by decide +kernel
theorem d_L_law_1522 : decode cL_law 1522 = .ok (.aload_n 2, 1) := by decide +kernel
theorem d_L_law_1523 : decode cL_law 1523 = .ok (.aload_n 0, 1) := by decide +kernel
theorem d_L_law_1524 : decode cL_law 1524 = .ok (.iload_n 3, 1) := by decide +kernel
theorem d_L_law_1525 : decode cL_law 1525 = .ok (.iconst 1, 1) := by decide +kernel
theorem d_L_law_1526 : decode cL_law 1526 = .ok (.iadd, 1) := by decide +kernel
theorem d_L_law_1527 : decode cL_law 1527 = .ok (.iaload, 1) := by decide +kernel
theorem d_L_law_1528 : decode cL_law 1528 = .ok (.aload_n 0, 1) := by decide +kernel
theorem d_L_law_1529 : decode cL_law 1529 = .ok (.iload_n 3, 1) := by decide +kernel
theorem d_L_law_1530 : decode cL_law 1530 = .ok (.iconst 2, 1) := by decide +kernel
theorem d_L_law_1531 : decode cL_law 1531 = .ok (.iadd, 1) := by decide +kernel
theorem d_L_law_1532 : decode cL_law 1532 = .ok (.iaload, 1) := by decide +kernel
theorem d_L_law_1533 : decode cL_law 1533 = .ok (.aload_n 0, 1) := by decide +kernel
theorem d_L_law_1534 : decode cL_law 1534 = .ok (.iload_n 3, 1) := by decide +kernel
theorem d_L_law_1535 : decode cL_law 1535 = .ok (.iconst 3, 1) := by decide +kernel
theorem d_L_law_1536 : decode cL_law 1536 = .ok (.iadd, 1) := by decide +kernel
theorem d_L_law_1537 : decode cL_law 1537 = .ok (.iaload, 1) := by decide +kernel
theorem d_L_law_1538 : decode cL_law 1538 = .ok (.invokevirtual 163, 3) := by decide +kernel
theorem d_L_law_1541 : decode cL_law 1541 = .ok (.if_icmp .eq 190, 3) := by decide +kernel
theorem d_L_law_1544 : decode cL_law 1544 = .ok (.iconst 0, 1) := by decide +kernel
theorem d_L_law_1545 : decode cL_law 1545 = .ok (.ireturn, 1) := by decide +kernel
theorem d_L_law_1546 : decode cL_law 1546 = .ok (.aload_n 1, 1) := by decide +kernel
theorem d_L_law_1547 : decode cL_law 1547 = .ok (.aload_n 0, 1) := by decide +kernel
theorem d_L_law_1548 : decode cL_law 1548 = .ok (.iload_n 3, 1) := by decide +kernel
theorem d_L_law_1549 : decode cL_law 1549 = .ok (.iconst 1, 1) := by decide +kernel
theorem d_L_law_1550 : decode cL_law 1550 = .ok (.iadd, 1) := by decide +kernel
theorem d_L_law_1551 : decode cL_law 1551 = .ok (.iaload, 1) := by decide +kernel
theorem d_L_law_1552 : decode cL_law 1552 = .ok (.aload_n 0, 1) := by decide +kernel
theorem d_L_law_1553 : decode cL_law 1553 = .ok (.iload_n 3, 1) := by decide +kernel
theorem d_L_law_1554 : decode cL_law 1554 = .ok (.iconst 2, 1) := by decide +kernel
theorem d_L_law_1555 : decode cL_law 1555 = .ok (.iadd, 1) := by decide +kernel
theorem d_L_law_1556 : decode cL_law 1556 = .ok (.iaload, 1) := by decide +kernel
theorem d_L_law_1557 : decode cL_law 1557 = .ok (.aload_n 0, 1) := by decide +kernel
theorem d_L_law_1558 : decode cL_law 1558 = .ok (.iload_n 3, 1) := by decide +kernel
theorem d_L_law_1559 : decode cL_law 1559 = .ok (.iconst 3, 1) := by decide +kernel
theorem d_L_law_1560 : decode cL_law 1560 = .ok (.iadd, 1) := by decide +kernel
theorem d_L_law_1561 : decode cL_law 1561 = .ok (.iaload, 1) := by decide +kernel
theorem d_L_law_1562 : decode cL_law 1562 = .ok (.invokevirtual 164, 3) := by decide +kernel
theorem d_L_law_1565 : decode cL_law 1565 = .ok (.aload_n 2, 1) := by decide +kernel
theorem d_L_law_1566 : decode cL_law 1566 = .ok (.aload_n 0, 1) := by decide +kernel
theorem d_L_law_1567 : decode cL_law 1567 = .ok (.iload_n 3, 1) := by decide +kernel
theorem d_L_law_1568 : decode cL_law 1568 = .ok (.iconst 1, 1) := by decide +kernel
theorem d_L_law_1569 : decode cL_law 1569 = .ok (.iadd, 1) := by decide +kernel
theorem d_L_law_1570 : decode cL_law 1570 = .ok (.iaload, 1) := by decide +kernel
theorem d_L_law_1571 : decode cL_law 1571 = .ok (.aload_n 0, 1) := by decide +kernel
theorem d_L_law_1572 : decode cL_law 1572 = .ok (.iload_n 3, 1) := by decide +kernel
theorem d_L_law_1573 : decode cL_law 1573 = .ok (.iconst 2, 1) := by decide +kernel
theorem d_L_law_1574 : decode cL_law 1574 = .ok (.iadd, 1) := by decide +kernel
theorem d_L_law_1575 : decode cL_law 1575 = .ok (.iaload, 1) := by decide +kernel
theorem d_L_law_1576 : decode cL_law 1576 = .ok (.aload_n 0, 1) := by decide +kernel
theorem d_L_law_1577 : decode cL_law 1577 = .ok (.iload_n 3, 1) := by decide +kernel
theorem d_L_law_1578 : decode cL_law 1578 = .ok (.iconst 3, 1) := by decide +kernel
theorem d_L_law_1579 : decode cL_law 1579 = .ok (.iadd, 1) := by decide +kernel
theorem d_L_law_1580 : decode cL_law 1580 = .ok (.iaload, 1) := by decide +kernel
theorem d_L_law_1581 : decode cL_law 1581 = .ok (.invokevirtual 167, 3) := by decide +kernel
theorem d_L_law_1584 : decode cL_law 1584 = .ok (.if_icmp .eq 147, 3) := by decide +kernel
theorem d_L_law_1587 : decode cL_law 1587 = .ok (.iconst 0, 1) := by decide +kernel
theorem d_L_law_1588 : decode cL_law 1588 = .ok (.ireturn, 1) := by decide +kernel
theorem d_L_law_1589 : decode cL_law 1589 = .ok (.aload_n 1, 1) := by decide +kernel
theorem d_L_law_1590 : decode cL_law 1590 = .ok (.aload_n 0, 1) := by decide +kernel
theorem d_L_law_1591 : decode cL_law 1591 = .ok (.iload_n 3, 1) := by decide +kernel
theorem d_L_law_1592 : decode cL_law 1592 = .ok (.iconst 1, 1) := by decide +kernel
theorem d_L_law_1593 : decode cL_law 1593 = .ok (.iadd, 1) := by decide +kernel
theorem d_L_law_1594 : decode cL_law 1594 = .ok (.iaload, 1) := by decide +kernel
theorem d_L_law_1595 : decode cL_law 1595 = .ok (.aload_n 0, 1) := by decide +kernel
theorem d_L_law_1596 : decode cL_law 1596 = .ok (.iload_n 3, 1) := by decide +kernel
theorem d_L_law_1597 : decode cL_law 1597 = .ok (.iconst 2, 1) := by decide +kernel
theorem d_L_law_1598 : decode cL_law 1598 = .ok (.iadd, 1) := by decide +kernel
theorem d_L_law_1599 : decode cL_law 1599 = .ok (.iaload, 1) := by decide +kernel
theorem d_L_law_1600 : decode cL_law 1600 = .ok (.invokevirtual 168, 3) := by decide +kernel
theorem d_L_law_1603 : decode cL_law 1603 = .ok (.aload_n 2, 1) := by decide +kernel
theorem d_L_law_1604 : decode cL_law 1604 = .ok (.aload_n 0, 1) := by decide +kernel
theorem d_L_law_1605 : decode cL_law 1605 = .ok (.iload_n 3, 1) := by decide +kernel
theorem d_L_law_1606 : decode cL_law 1606 = .ok (.iconst 1, 1) := by decide +kernel
theorem d_L_law_1607 : decode cL_law 1607 = .ok (.iadd, 1) := by decide +kernel
theorem d_L_law_1608 : decode cL_law 1608 = .ok (.iaload, 1) := by decide +kernel
theorem d_L_law_1609 : decode cL_law 1609 = .ok (.aload_n 0, 1) := by decide +kernel
theorem d_L_law_1610 : decode cL_law 1610 = .ok (.iload_n 3, 1) := by decide +kernel
theorem d_L_law_1611 : decode cL_law 1611 = .ok (.iconst 2, 1) := by decide +kernel
theorem d_L_law_1612 : decode cL_law 1612 = .ok (.iadd, 1) := by decide +kernel
theorem d_L_law_1613 : decode cL_law 1613 = .ok (.iaload, 1) := by decide +kernel
theorem d_L_law_1614 : decode cL_law 1614 = .ok (.invokevirtual 171, 3) := by decide +kernel
theorem d_L_law_1617 : decode cL_law 1617 = .ok (.if_icmp .eq 114, 3) := by decide +kernel
theorem d_L_law_1620 : decode cL_law 1620 = .ok (.iconst 0, 1) := by decide +kernel
theorem d_L_law_1621 : decode cL_law 1621 = .ok (.ireturn, 1) := by decide +kernel
theorem d_L_law_1622 : decode cL_law 1622 = .ok (.aload_n 1, 1) := by decide +kernel
theorem d_L_law_1623 : decode cL_law 1623 = .ok (.aload_n 0, 1) := by decide +kernel
theorem d_L_law_1624 : decode cL_law 1624 = .ok (.iload_n 3, 1) := by decide +kernel
theorem d_L_law_1625 : decode cL_law 1625 = .ok (.iconst 1, 1) := by decide +kernel
theorem d_L_law_1626 : decode cL_law 1626 = .ok (.iadd, 1) := by decide +kernel
theorem d_L_law_1627 : decode cL_law 1627 = .ok (.iaload, 1) := by decide +kernel
theorem d_L_law_1628 : decode cL_law 1628 = .ok (.aload_n 0, 1) := by decide +kernel
theorem d_L_law_1629 : decode cL_law 1629 = .ok (.iload_n 3, 1) := by decide +kernel
theorem d_L_law_1630 : decode cL_law 1630 = .ok (.iconst 2, 1) := by decide +kernel
theorem d_L_law_1631 : decode cL_law 1631 = .ok (.iadd, 1) := by decide +kernel
theorem d_L_law_1632 : decode cL_law 1632 = .ok (.iaload, 1) := by decide +kernel
theorem d_L_law_1633 : decode cL_law 1633 = .ok (.aload_n 0, 1) := by decide +kernel
theorem d_L_law_1634 : decode cL_law 1634 = .ok (.iload_n 3, 1) := by decide +kernel
theorem d_L_law_1635 : decode cL_law 1635 = .ok (.iconst 3, 1) := by decide +kernel
theorem d_L_law_1636 : decode cL_law 1636 = .ok (.iadd, 1) := by decide +kernel
theorem d_L_law_1637 : decode cL_law 1637 = .ok (.iaload, 1) := by decide +kernel
theorem d_L_law_1638 : decode cL_law 1638 = .ok (.aload_n 0, 1) := by decide +kernel
theorem d_L_law_1639 : decode cL_law 1639 = .ok (.iload_n 3, 1) := by decide +kernel
theorem d_L_law_1640 : decode cL_law 1640 = .ok (.iconst 4, 1) := by decide +kernel
theorem d_L_law_1641 : decode cL_law 1641 = .ok (.iadd, 1) := by decide +kernel
theorem d_L_law_1642 : decode cL_law 1642 = .ok (.iaload, 1) := by decide +kernel
theorem d_L_law_1643 : decode cL_law 1643 = .ok (.invokevirtual 172, 3) := by decide +kernel
theorem d_L_law_1646 : decode cL_law 1646 = .ok (.aload_n 2, 1) := by decide +kernel
theorem d_L_law_1647 : decode cL_law 1647 = .ok (.aload_n 0, 1) := by decide +kernel
theorem d_L_law_1648 : decode cL_law 1648 = .ok (.iload_n 3, 1) := by decide +kernel
theorem d_L_law_1649 : decode cL_law 1649 = .ok (.iconst 1, 1) := by decide +kernel
theorem d_L_law_1650 : decode cL_law 1650 = .ok (.iadd, 1) := by decide +kernel
theorem d_L_law_1651 : decode cL_law 1651 = .ok (.iaload, 1) := by decide +kernel
theorem d_L_law_1652 : decode cL_law 1652 = .ok (.aload_n 0, 1) := by decide +kernel
theorem d_L_law_1653 : decode cL_law 1653 = .ok (.iload_n 3, 1) := by decide +kernel
theorem d_L_law_1654 : decode cL_law 1654 = .ok (.iconst 2, 1) := by decide +kernel
theorem d_L_law_1655 : decode cL_law 1655 = .ok (.iadd, 1) := by decide +kernel
theorem d_L_law_1656 : decode cL_law 1656 = .ok (.iaload, 1) := by decide +kernel
theorem d_L_law_1657 : decode cL_law 1657 = .ok (.aload_n 0, 1) := by decide +kernel
theorem d_L_law_1658 : decode cL_law 1658 = .ok (.iload_n 3, 1) := by decide +kernel
theorem d_L_law_1659 : decode cL_law 1659 = .ok (.iconst 3, 1) := by decide +kernel
theorem d_L_law_1660 : decode cL_law 1660 = .ok (.iadd, 1) := by decide +kernel
theorem d_L_law_1661 : decode cL_law 1661 = .ok (.iaload, 1) := by decide +kernel
theorem d_L_law_1662 : decode cL_law 1662 = .ok (.aload_n 0, 1) := by decide +kernel
theorem d_L_law_1663 : decode cL_law 1663 = .ok (.iload_n 3, 1) := by decide +kernel
theorem d_L_law_1664 : decode cL_law 1664 = .ok (.iconst 4, 1) := by decide +kernel
theorem d_L_law_1665 : decode cL_law 1665 = .ok (.iadd, 1) := by decide +kernel
theorem d_L_law_1666 : decode cL_law 1666 = .ok (.iaload, 1) := by decide +kernel
theorem d_L_law_1667 : decode cL_law 1667 = .ok (.invokevirtual 175, 3) := by decide +kernel
theorem d_L_law_1670 : decode cL_law 1670 = .ok (.if_icmp .eq 61, 3) := by decide +kernel
theorem d_L_law_1673 : decode cL_law 1673 = .ok (.iconst 0, 1) := by decide +kernel
theorem d_L_law_1674 : decode cL_law 1674 = .ok (.ireturn, 1) := by decide +kernel
theorem d_L_law_1675 : decode cL_law 1675 = .ok (.aload_n 1, 1) := by decide +kernel
theorem d_L_law_1676 : decode cL_law 1676 = .ok (.aload_n 0, 1) := by decide +kernel
theorem d_L_law_1677 : decode cL_law 1677 = .ok (.iload_n 3, 1) := by decide +kernel
theorem d_L_law_1678 : decode cL_law 1678 = .ok (.iconst 1, 1) := by decide +kernel
theorem d_L_law_1679 : decode cL_law 1679 = .ok (.iadd, 1) := by decide +kernel
theorem d_L_law_1680 : decode cL_law 1680 = .ok (.iaload, 1) := by decide +kernel
theorem d_L_law_1681 : decode cL_law 1681 = .ok (.aload_n 0, 1) := by decide +kernel
theorem d_L_law_1682 : decode cL_law 1682 = .ok (.iload_n 3, 1) := by decide +kernel
theorem d_L_law_1683 : decode cL_law 1683 = .ok (.iconst 2, 1) := by decide +kernel
theorem d_L_law_1684 : decode cL_law 1684 = .ok (.iadd, 1) := by decide +kernel
theorem d_L_law_1685 : decode cL_law 1685 = .ok (.iaload, 1) := by decide +kernel
theorem d_L_law_1686 : decode cL_law 1686 = .ok (.aload_n 0, 1) := by decide +kernel
theorem d_L_law_1687 : decode cL_law 1687 = .ok (.iload_n 3, 1) := by decide +kernel
theorem d_L_law_1688 : decode cL_law 1688 = .ok (.iconst 3, 1) := by decide +kernel
theorem d_L_law_1689 : decode cL_law 1689 = .ok (.iadd, 1) := by decide +kernel
theorem d_L_law_1690 : decode cL_law 1690 = .ok (.iaload, 1) := by decide +kernel
theorem d_L_law_1691 : decode cL_law 1691 = .ok (.invokevirtual 176, 3) := by decide +kernel
theorem d_L_law_1694 : decode cL_law 1694 = .ok (.aload_n 2, 1) := by decide +kernel
theorem d_L_law_1695 : decode cL_law 1695 = .ok (.aload_n 0, 1) := by decide +kernel
theorem d_L_law_1696 : decode cL_law 1696 = .ok (.iload_n 3, 1) := by decide +kernel
theorem d_L_law_1697 : decode cL_law 1697 = .ok (.iconst 1, 1) := by decide +kernel
theorem d_L_law_1698 : decode cL_law 1698 = .ok (.iadd, 1) := by decide +kernel
theorem d_L_law_1699 : decode cL_law 1699 = .ok (.iaload, 1) := by decide +kernel
theorem d_L_law_1700 : decode cL_law 1700 = .ok (.aload_n 0, 1) := by decide +kernel
theorem d_L_law_1701 : decode cL_law 1701 = .ok (.iload_n 3, 1) := by decide +kernel
theorem d_L_law_1702 : decode cL_law 1702 = .ok (.iconst 2, 1) := by decide +kernel
theorem d_L_law_1703 : decode cL_law 1703 = .ok (.iadd, 1) := by decide +kernel
theorem d_L_law_1704 : decode cL_law 1704 = .ok (.iaload, 1) := by decide +kernel
theorem d_L_law_1705 : decode cL_law 1705 = .ok (.aload_n 0, 1) := by decide +kernel
theorem d_L_law_1706 : decode cL_law 1706 = .ok (.iload_n 3, 1) := by decide +kernel
theorem d_L_law_1707 : decode cL_law 1707 = .ok (.iconst 3, 1) := by decide +kernel
theorem d_L_law_1708 : decode cL_law 1708 = .ok (.iadd, 1) := by decide +kernel
theorem d_L_law_1709 : decode cL_law 1709 = .ok (.iaload, 1) := by decide +kernel
theorem d_L_law_1710 : decode cL_law 1710 = .ok (.invokevirtual 179, 3) := by decide +kernel
theorem d_L_law_1713 : decode cL_law 1713 = .ok (.if_icmp .eq 18, 3) := by decide +kernel
theorem d_L_law_1716 : decode cL_law 1716 = .ok (.iconst 0, 1) := by decide +kernel
theorem d_L_law_1717 : decode cL_law 1717 = .ok (.ireturn, 1) := by decide +kernel
theorem d_L_law_1718 : decode cL_law 1718 = .ok (.aload_n 1, 1) := by decide +kernel
theorem d_L_law_1719 : decode cL_law 1719 = .ok (.invokevirtual 180, 3) := by decide +kernel
theorem d_L_law_1722 : decode cL_law 1722 = .ok (.aload_n 2, 1) := by decide +kernel
theorem d_L_law_1723 : decode cL_law 1723 = .ok (.invokevirtual 183, 3) := by decide +kernel
theorem d_L_law_1726 : decode cL_law 1726 = .ok (.if_icmp .eq 5, 3) := by decide +kernel
theorem d_L_law_1729 : decode cL_law 1729 = .ok (.iconst 0, 1) := by decide +kernel
theorem d_L_law_1730 : decode cL_law 1730 = .ok (.ireturn, 1) := by decide +kernel
theorem d_L_law_1731 : decode cL_law 1731 = .ok (.iinc 3 6, 3) := by decide +kernel
theorem d_L_law_1734 : decode cL_law 1734 = .ok (.goto (-1716), 3) := by decide +kernel
theorem d_L_law_1737 : decode cL_law 1737 = .ok (.iconst 1, 1) := by decide +kernel
theorem d_L_law_1738 : decode cL_law 1738 = .ok (.ireturn, 1) := by decide +kernel
