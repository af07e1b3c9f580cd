theorem d_X12_init_0 : decode cX12_init 0 = .ok (.aload_n 0, 1) := by decide +kernel
theorem d_X12_init_1 : decode cX12_init 1 = .ok (.invokespecial 1, 3) := by decide +kernel
theorem d_X12_init_4 : decode cX12_init 4 = .ok (.aload_n 0, 1) := by decide +kernel
theorem d_X12_init_5 : decode cX12_init 5 = .ok (.bipush 10, 2) := by decide +kernel
theorem d_X12_init_7 : decode cX12_init 7 = .ok (.newarray .int, 2) := by decide +kernel
theorem d_X12_init_9 : decode cX12_init 9 = .ok (.putfield 7, 3) := by decide +kernel
theorem d_X12_init_12 : decode cX12_init 12 = .ok (.aload_n 0, 1) := by decide +kernel
theorem d_X12_init_13 : decode cX12_init 13 = .ok (.bipush 10, 2) := by decide +kernel
theorem d_X12_init_15 : decode cX12_init 15 = .ok (.newarray .int, 2) := by decide +kernel
theorem d_X12_init_17 : decode cX12_init 17 = .ok (.putfield 13, 3) := by decide +kernel
theorem d_X12_init_20 : decode cX12_init 20 = .ok (.aload_n 0, 1) := by decide +kernel
theorem d_X12_init_21 : decode cX12_init 21 = .ok (.bipush 10, 2) := by decide +kernel
theorem d_X12_init_23 : decode cX12_init 23 = .ok (.newarray .int, 2) := by decide +kernel
theorem d_X12_init_25 : decode cX12_init 25 = .ok (.putfield 16, 3) := by decide +kernel
theorem d_X12_init_28 : decode cX12_init 28 = .ok (.aload_n 0, 1) := by decide +kernel
theorem d_X12_init_29 : decode cX12_init 29 = .ok (.bipush 10, 2) := by decide +kernel
theorem d_X12_init_31 : decode cX12_init 31 = .ok (.newarray .boolean, 2) := by decide +kernel
theorem d_X12_init_33 : decode cX12_init 33 = .ok (.putfield 19, 3) := by decide +kernel
theorem d_X12_init_36 : decode cX12_init 36 = .ok (.aload_n 0, 1) := by decide +kernel
theorem d_X12_init_37 : decode cX12_init 37 = .ok (.sipush 1000, 3) := by decide +kernel
theorem d_X12_init_40 : decode cX12_init 40 = .ok (.newarray .int, 2) := by decide +kernel
theorem d_X12_init_42 : decode cX12_init 42 = .ok (.putfield 23, 3) := by decide +kernel
theorem d_X12_init_45 : decode cX12_init 45 = .ok (.aload_n 0, 1) := by decide +kernel
theorem d_X12_init_46 : decode cX12_init 46 = .ok (.sipush 1000, 3) := by decide +kernel
theorem d_X12_init_49 : decode cX12_init 49 = .ok (.newarray .boolean, 2) := by decide +kernel
theorem d_X12_init_51 : decode cX12_init 51 = .ok (.putfield 26, 3) := by decide +kernel
theorem d_X12_init_54 : decode cX12_init 54 = .ok (.aload_n 0, 1) := by decide +kernel
theorem d_X12_init_55 : decode cX12_init 55 = .ok (.bipush 100, 2) := by decide +kernel
theorem d_X12_init_57 : decode cX12_init 57 = .ok (.newarray .int, 2) := by decide +kernel
theorem d_X12_init_59 : decode cX12_init 59 = .ok (.putfield 29, 3) := by decide +kernel
theorem d_X12_init_62 : decode cX12_init 62 = .ok (.aload_n 0, 1) := by decide +kernel
theorem d_X12_init_63 : decode cX12_init 63 = .ok (.bipush 100, 2) := by decide +kernel
theorem d_X12_init_65 : decode cX12_init 65 = .ok (.newarray .boolean, 2) := by decide +kernel
theorem d_X12_init_67 : decode cX12_init 67 = .ok (.putfield 32, 3) := by decide +kernel
theorem d_X12_init_70 : decode cX12_init 70 = .ok (.aload_n 0, 1) := by decide +kernel
theorem d_X12_init_71 : decode cX12_init 71 = .ok (.bipush 100, 2) := by decide +kernel
theorem d_X12_init_73 : decode cX12_init 73 = .ok (.newarray .boolean, 2) := by decide +kernel
theorem d_X12_init_75 : decode cX12_init 75 = .ok (.putfield 35, 3) := by decide +kernel
theorem d_X12_init_78 : decode cX12_init 78 = .ok (.aload_n 0, 1) := by decide +kernel
theorem d_X12_init_79 : decode cX12_init 79 = .ok (.iconst 5, 1) := by decide +kernel
theorem d_X12_init_80 : decode cX12_init 80 = .ok (.newarray .int, 2) := by decide +kernel
theorem d_X12_init_82 : decode cX12_init 82 = .ok (.putfield 38, 3) := by decide +kernel
theorem d_X12_init_85 : decode cX12_init 85 = .ok (.aload_n 0, 1) := by decide +kernel
theorem d_X12_init_86 : decode cX12_init 86 = .ok (.iconst 5, 1) := by decide +kernel
theorem d_X12_init_87 : decode cX12_init 87 = .ok (.newarray .int, 2) := by decide +kernel
theorem d_X12_init_89 : decode cX12_init 89 = .ok (.putfield 41, 3) := by decide +kernel
theorem d_X12_init_92 : decode cX12_init 92 = .ok (.aload_n 0, 1) := by decide +kernel
theorem d_X12_init_93 : decode cX12_init 93 = .ok (.iconst 5, 1) := by decide +kernel
theorem d_X12_init_94 : decode cX12_init 94 = .ok (.newarray .int, 2) := by decide +kernel
theorem d_X12_init_96 : decode cX12_init 96 = .ok (.putfield 44, 3) := by decide +kernel
theorem d_X12_init_99 : decode cX12_init 99 = .ok (.aload_n 0, 1) := by decide +kernel
theorem d_X12_init_100 : decode cX12_init 100 = .ok (.iconst 5, 1) := by decide +kernel
theorem d_X12_init_101 : decode cX12_init 101 = .ok (.newarray .int, 2) := by decide +kernel
theorem d_X12_init_103 : decode cX12_init 103 = .ok (.putfield 47, 3) := by decide +kernel
theorem d_X12_init_106 : decode cX12_init 106 = .ok (.aload_n 0, 1) := by decide +kernel
theorem d_X12_init_107 : decode cX12_init 107 = .ok (.iconst 5, 1) := by decide +kernel
theorem d_X12_init_108 : decode cX12_init 108 = .ok (.newarray .int, 2) := by decide +kernel
theorem d_X12_init_110 : decode cX12_init 110 = .ok (.putfield 50, 3) := by decide +kernel
theorem d_X12_init_113 : decode cX12_init 113 = .ok (.aload_n 0, 1) := by decide +kernel
theorem d_X12_init_114 : decode cX12_init 114 = .ok (.iconst 5, 1) := by decide +kernel
theorem d_X12_init_115 : decode cX12_init 115 = .ok (.newarray .int, 2) := by decide +kernel
theorem d_X12_init_117 : decode cX12_init 117 = .ok (.putfield 53, 3) := by decide +kernel
theorem d_X12_init_120 : decode cX12_init 120 = .ok (.aload_n 0, 1) := by decide +kernel
theorem d_X12_init_121 : decode cX12_init 121 = .ok (.iconst 5, 1) := by decide +kernel
theorem d_X12_init_122 : decode cX12_init 122 = .ok (.newarray .int, 2) := by decide +kernel
theorem d_X12_init_124 : decode cX12_init 124 = .ok (.putfield 56, 3) := by decide +kernel
theorem d_X12_init_127 : decode cX12_init 127 = .ok (.aload_n 0, 1) := by decide +kernel
theorem d_X12_init_128 : decode cX12_init 128 = .ok (.iconst 5, 1) := by decide +kernel
theorem d_X12_init_129 : decode cX12_init 129 = .ok (.newarray .int, 2) := by decide +kernel
theorem d_X12_init_131 : decode cX12_init 131 = .ok (.putfield 59, 3) := by decide +kernel
theorem d_X12_init_134 : decode cX12_init 134 = .ok (.aload_n 0, 1) := by decide +kernel
theorem d_X12_init_135 : decode cX12_init 135 = .ok (.sipush 160, 3) := by decide +kernel
theorem d_X12_init_138 : decode cX12_init 138 = .ok (.newarray .int, 2) := by decide +kernel
theorem d_X12_init_140 : decode cX12_init 140 = .ok (.putfield 62, 3) := by decide +kernel
theorem d_X12_init_143 : decode cX12_init 143 = .ok (.aload_n 0, 1) := by decide +kernel
theorem d_X12_init_144 : decode cX12_init 144 = .ok (.sipush 160, 3) := by decide +kernel
theorem d_X12_init_147 : decode cX12_init 147 = .ok (.newarray .int, 2) := by decide +kernel
theorem d_X12_init_149 : decode cX12_init 149 = .ok (.putfield 65, 3) := by decide +kernel
theorem d_X12_init_152 : decode cX12_init 152 = .ok (.aload_n 0, 1) := by decide +kernel
theorem d_X12_init_153 : decode cX12_init 153 = .ok (.bipush 11, 2) := by decide +kernel
theorem d_X12_init_155 : decode cX12_init 155 = .ok (.newarray .int, 2) := by decide +kernel
theorem d_X12_init_157 : decode cX12_init 157 = .ok (.putfield 68, 3) := by decide +kernel
theorem d_X12_init_160 : decode cX12_init 160 = .ok (.aload_n 0, 1) := by decide +kernel
theorem d_X12_init_161 : decode cX12_init 161 = .ok (.bipush 12, 2) := by decide +kernel
theorem d_X12_init_163 : decode cX12_init 163 = .ok (.newarray .int, 2) := by decide +kernel
theorem d_X12_init_165 : decode cX12_init 165 = .ok (.putfield 71, 3) := by decide +kernel
theorem d_X12_init_168 : decode cX12_init 168 = .ok (.aload_n 0, 1) := by decide +kernel
theorem d_X12_init_169 : decode cX12_init 169 = .ok (.bipush 12, 2) := by decide +kernel
theorem d_X12_init_171 : decode cX12_init 171 = .ok (.newarray .int, 2) := by decide +kernel
theorem d_X12_init_173 : decode cX12_init 173 = .ok (.putfield 74, 3) := by decide +kernel
theorem d_X12_init_176 : decode cX12_init 176 = .ok (.aload_n 0, 1) := by decide +kernel
theorem d_X12_init_177 : decode cX12_init 177 = .ok (.bipush 12, 2) := by decide +kernel
theorem d_X12_init_179 : decode cX12_init 179 = .ok (.newarray .int, 2) := by decide +kernel
theorem d_X12_init_181 : decode cX12_init 181 = .ok (.putfield 77, 3) := by decide +kernel
theorem d_X12_init_184 : decode cX12_init 184 = .ok (.aload_n 0, 1) := by decide +kernel
theorem d_X12_init_185 : decode cX12_init 185 = .ok (.bipush 12, 2) := by decide +kernel
theorem d_X12_init_187 : decode cX12_init 187 = .ok (.newarray .int, 2) := by decide +kernel
theorem d_X12_init_189 : decode cX12_init 189 = .ok (.putfield 80, 3) := by decide +kernel
theorem d_X12_init_192 : decode cX12_init 192 = .ok (.aload_n 0, 1) := by decide +kernel
theorem d_X12_init_193 : decode cX12_init 193 = .ok (.bipush 12, 2) := by decide +kernel
theorem d_X12_init_195 : decode cX12_init 195 = .ok (.newarray .int, 2) := by decide +kernel
theorem d_X12_init_197 : decode cX12_init 197 = .ok (.putfield 83, 3) := by decide +kernel
theorem d_X12_init_200 : decode cX12_init 200 = .ok (.aload_n 0, 1) := by decide +kernel
theorem d_X12_init_201 : decode cX12_init 201 = .ok (.bipush 6, 2) := by decide +kernel
theorem d_X12_init_203 : decode cX12_init 203 = .ok (.newarray .int, 2) := by decide +kernel
theorem d_X12_init_205 : decode cX12_init 205 = .ok (.putfield 86, 3) := by decide +kernel
theorem d_X12_init_208 : decode cX12_init 208 = .ok (.aload_n 0, 1) := by decide +kernel
theorem d_X12_init_209 : decode cX12_init 209 = .ok (.bipush 6, 2) := by decide +kernel
theorem d_X12_init_211 : decode cX12_init 211 = .ok (.newarray .int, 2) := by decide +kernel
theorem d_X12_init_213 : decode cX12_init 213 = .ok (.putfield 89, 3) := by decide +kernel
theorem d_X12_init_216 : decode cX12_init 216 = .ok (.aload_n 0, 1) := by decide +kernel
theorem d_X12_init_217 : decode cX12_init 217 = .ok (.bipush 6, 2) := by decide +kernel
theorem d_X12_init_219 : decode cX12_init 219 = .ok (.newarray .int, 2) := by decide +kernel
theorem d_X12_init_221 : decode cX12_init 221 = .ok (.putfield 92, 3) := by decide +kernel
theorem d_X12_init_224 : decode cX12_init 224 = .ok (.aload_n 0, 1) := by decide +kernel
theorem d_X12_init_225 : decode cX12_init 225 = .ok (.bipush 8, 2) := by decide +kernel
theorem d_X12_init_227 : decode cX12_init 227 = .ok (.newarray .int, 2) := by decide +kernel
theorem d_X12_init_229 : decode cX12_init 229 = .ok (.putfield 95, 3) := by decide +kernel
theorem d_X12_init_232 : decode cX12_init 232 = .ok (.aload_n 0, 1) := by decide +kernel
theorem d_X12_init_233 : decode cX12_init 233 = .ok (.bipush 8, 2) := by decide +kernel
theorem d_X12_init_235 : decode cX12_init 235 = .ok (.newarray .int, 2) := by decide +kernel
theorem d_X12_init_237 : decode cX12_init 237 = .ok (.putfield 98, 3) := by decide +kernel
theorem d_X12_init_240 : decode cX12_init 240 = .ok (.aload_n 0, 1) := by decide +kernel
theorem d_X12_init_241 : decode cX12_init 241 = .ok (.bipush 8, 2) := by decide +kernel
theorem d_X12_init_243 : decode cX12_init 243 = .ok (.newarray .int, 2) := by decide +kernel
theorem d_X12_init_245 : decode cX12_init 245 = .ok (.putfield 101, 3) := by decide +kernel
theorem d_X12_init_248 : decode cX12_init 248 = .ok (.aload_n 0, 1) := by decide +kernel
theorem d_X12_init_249 : decode cX12_init 249 = .ok (.bipush 8, 2) := by decide +kernel
theorem d_X12_init_251 : decode cX12_init 251 = .ok (.newarray .int, 2) := by decide +kernel
theorem d_X12_init_253 : decode cX12_init 253 = .ok (.putfield 104, 3) := by decide +kernel
theorem d_X12_init_256 : decode cX12_init 256 = .ok (.aload_n 0, 1) := by decide +kernel
theorem d_X12_init_257 : decode cX12_init 257 = .ok (.sipush 1100, 3) := by decide +kernel
theorem d_X12_init_260 : decode cX12_init 260 = .ok (.newarray .int, 2) := by decide +kernel
theorem d_X12_init_262 : decode cX12_init 262 = .ok (.putfield 107, 3) := by decide +kernel
theorem d_X12_init_265 : decode cX12_init 265 = .ok (.aload_n 0, 1) := by decide +kernel
theorem d_X12_init_266 : decode cX12_init 266 = .ok (.sipush 1100, 3) := by decide +kernel
theorem d_X12_init_269 : decode cX12_init 269 = .ok (.newarray .int, 2) := by decide +kernel
theorem d_X12_init_271 : decode cX12_init 271 = .ok (.putfield 110, 3) := by decide +kernel
theorem d_X12_init_274 : decode cX12_init 274 = .ok (.aload_n 0, 1) := by decide +kernel
theorem d_X12_init_275 : decode cX12_init 275 = .ok (.bipush 11, 2) := by decide +kernel
theorem d_X12_init_277 : decode cX12_init 277 = .ok (.newarray .int, 2) := by decide +kernel
theorem d_X12_init_279 : decode cX12_init 279 = .ok (.putfield 113, 3) := by decide +kernel
theorem d_X12_init_282 : decode cX12_init 282 = .ok (.aload_n 0, 1) := by decide +kernel
theorem d_X12_init_283 : decode cX12_init 283 = .ok (.bipush 7, 2) := by decide +kernel
theorem d_X12_init_285 : decode cX12_init 285 = .ok (.newarray .int, 2) := by decide +kernel
theorem d_X12_init_287 : decode cX12_init 287 = .ok (.putfield 116, 3) := by decide +kernel
theorem d_X12_init_290 : decode cX12_init 290 = .ok (.aload_n 0, 1) := by decide +kernel
theorem d_X12_init_291 : decode cX12_init 291 = .ok (.bipush 10, 2) := by decide +kernel
theorem d_X12_init_293 : decode cX12_init 293 = .ok (.newarray .boolean, 2) := by decide +kernel
theorem d_X12_init_295 : decode cX12_init 295 = .ok (.putfield 119, 3) := by decide +kernel
theorem d_X12_init_298 : decode cX12_init 298 = .ok (.aload_n 0, 1) := by decide +kernel
theorem d_X12_init_299 : decode cX12_init 299 = .ok (.sipush 1000, 3) := by decide +kernel
theorem d_X12_init_302 : decode cX12_init 302 = .ok (.newarray .int, 2) := by decide +kernel
theorem d_X12_init_304 : decode cX12_init 304 = .ok (.putfield 122, 3) := by decide +kernel
theorem d_X12_init_307 : decode cX12_init 307 = .ok (.aload_n 0, 1) := by decide +kernel
theorem d_X12_init_308 : decode cX12_init 308 = .ok (.sipush 1000, 3) := by decide +kernel
theorem d_X12_init_311 : decode cX12_init 311 = .ok (.newarray .boolean, 2) := by decide +kernel
theorem d_X12_init_313 : decode cX12_init 313 = .ok (.putfield 125, 3) := by decide +kernel
theorem d_X12_init_316 : decode cX12_init 316 = .ok (.aload_n 0, 1) := by decide +kernel
theorem d_X12_init_317 : decode cX12_init 317 = .ok (.bipush 100, 2) := by decide +kernel
theorem d_X12_init_319 : decode cX12_init 319 = .ok (.newarray .int, 2) := by decide +kernel
theorem d_X12_init_321 : decode cX12_init 321 = .ok (.putfield 128, 3) := by decide +kernel
theorem d_X12_init_324 : decode cX12_init 324 = .ok (.aload_n 0, 1) := by decide +kernel
theorem d_X12_init_325 : decode cX12_init 325 = .ok (.bipush 100, 2) := by decide +kernel
theorem d_X12_init_327 : decode cX12_init 327 = .ok (.newarray .boolean, 2) := by decide +kernel
theorem d_X12_init_329 : decode cX12_init 329 = .ok (.putfield 131, 3) := by decide +kernel
theorem d_X12_init_332 : decode cX12_init 332 = .ok (.aload_n 0, 1) := by decide +kernel
theorem d_X12_init_333 : decode cX12_init 333 = .ok (.bipush 100, 2) := by decide +kernel
theorem d_X12_init_335 : decode cX12_init 335 = .ok (.newarray .boolean, 2) := by decide +kernel
theorem d_X12_init_337 : decode cX12_init 337 = .ok (.putfield 134, 3) := by decide +kernel
theorem d_X12_init_340 : decode cX12_init 340 = .ok (.aload_n 0, 1) := by decide +kernel
theorem d_X12_init_341 : decode cX12_init 341 = .ok (.bipush 25, 2) := by decide +kernel
theorem d_X12_init_343 : decode cX12_init 343 = .ok (.newarray .int, 2) := by decide +kernel
theorem d_X12_init_345 : decode cX12_init 345 = .ok (.putfield 137, 3) := by decide +kernel
theorem d_X12_init_348 : decode cX12_init 348 = .ok (.aload_n 0, 1) := by decide +kernel
theorem d_X12_init_349 : decode cX12_init 349 = .ok (.sipush 160, 3) := by decide +kernel
theorem d_X12_init_352 : decode cX12_init 352 = .ok (.newarray .int, 2) := by decide +kernel
theorem d_X12_init_354 : decode cX12_init 354 = .ok (.putfield 140, 3) := by decide +kernel
theorem d_X12_init_357 : decode cX12_init 357 = .ok (.aload_n 0, 1) := by decide +kernel
theorem d_X12_init_358 : decode cX12_init 358 = .ok (.sipush 160, 3) := by decide +kernel
theorem d_X12_init_361 : decode cX12_init 361 = .ok (.newarray .int, 2) := by decide +kernel
theorem d_X12_init_363 : decode cX12_init 363 = .ok (.putfield 143, 3) := by decide +kernel
theorem d_X12_init_366 : decode cX12_init 366 = .ok (.aload_n 0, 1) := by decide +kernel
theorem d_X12_init_367 : decode cX12_init 367 = .ok (.bipush 11, 2) := by decide +kernel
theorem d_X12_init_369 : decode cX12_init 369 = .ok (.newarray .int, 2) := by decide +kernel
theorem d_X12_init_371 : decode cX12_init 371 = .ok (.putfield 146, 3) := by decide +kernel
theorem d_X12_init_374 : decode cX12_init 374 = .ok (.aload_n 0, 1) := by decide +kernel
theorem d_X12_init_375 : decode cX12_init 375 = .ok (.bipush 24, 2) := by decide +kernel
theorem d_X12_init_377 : decode cX12_init 377 = .ok (.newarray .int, 2) := by decide +kernel
theorem d_X12_init_379 : decode cX12_init 379 = .ok (.putfield 149, 3) := by decide +kernel
theorem d_X12_init_382 : decode cX12_init 382 = .ok (.aload_n 0, 1) := by decide +kernel
theorem d_X12_init_383 : decode cX12_init 383 = .ok (.bipush 50, 2) := by decide +kernel
theorem d_X12_init_385 : decode cX12_init 385 = .ok (.newarray .int, 2) := by decide +kernel
theorem d_X12_init_387 : decode cX12_init 387 = .ok (.putfield 152, 3) := by decide +kernel
theorem d_X12_init_390 : decode cX12_init 390 = .ok (.aload_n 0, 1) := by decide +kernel
theorem d_X12_init_391 : decode cX12_init 391 = .ok (.iconst 4, 1) := by decide +kernel
theorem d_X12_init_392 : decode cX12_init 392 = .ok (.newarray .int, 2) := by decide +kernel
theorem d_X12_init_394 : decode cX12_init 394 = .ok (.dup, 1) := by decide +kernel
theorem d_X12_init_395 : decode cX12_init 395 = .ok (.iconst 0, 1) := by decide +kernel
theorem d_X12_init_396 : decode cX12_init 396 = .ok (.iconst (-1), 1) := by decide +kernel
theorem d_X12_init_397 : decode cX12_init 397 = .ok (.iastore, 1) := by decide +kernel
theorem d_X12_init_398 : decode cX12_init 398 = .ok (.dup, 1) := by decide +kernel
theorem d_X12_init_399 : decode cX12_init 399 = .ok (.iconst 1, 1) := by decide +kernel
theorem d_X12_init_400 : decode cX12_init 400 = .ok (.iconst (-1), 1) := by decide +kernel
theorem d_X12_init_401 : decode cX12_init 401 = .ok (.iastore, 1) := by decide +kernel
theorem d_X12_init_402 : decode cX12_init 402 = .ok (.dup, 1) := by decide +kernel
theorem d_X12_init_403 : decode cX12_init 403 = .ok (.iconst 2, 1) := by decide +kernel
theorem d_X12_init_404 : decode cX12_init 404 = .ok (.iconst (-1), 1) := by decide +kernel
theorem d_X12_init_405 : decode cX12_init 405 = .ok (.iastore, 1) := by decide +kernel
theorem d_X12_init_406 : decode cX12_init 406 = .ok (.dup, 1) := by decide +kernel
theorem d_X12_init_407 : decode cX12_init 407 = .ok (.iconst 3, 1) := by decide +kernel
theorem d_X12_init_408 : decode cX12_init 408 = .ok (.iconst (-1), 1) := by decide +kernel
theorem d_X12_init_409 : decode cX12_init 409 = .ok (.iastore, 1) := by decide +kernel
theorem d_X12_init_410 : decode cX12_init 410 = .ok (.putfield 155, 3) := by decide +kernel
theorem d_X12_init_413 : decode cX12_init 413 = .ok (.aload_n 0, 1) := by decide +kernel
theorem d_X12_init_414 : decode cX12_init 414 = .ok (.iconst 4, 1) := by decide +kernel
theorem d_X12_init_415 : decode cX12_init 415 = .ok (.newarray .int, 2) := by decide +kernel
theorem d_X12_init_417 : decode cX12_init 417 = .ok (.putfield 158, 3) := by decide +kernel
theorem d_X12_init_420 : decode cX12_init 420 = .ok (.aload_n 0, 1) := by decide +kernel
theorem d_X12_init_421 : decode cX12_init 421 = .ok (.sipush 160, 3) := by decide +kernel
theorem d_X12_init_424 : decode cX12_init 424 = .ok (.newarray .int, 2) := by decide +kernel
theorem d_X12_init_426 : decode cX12_init 426 = .ok (.putfield 161, 3) := by decide +kernel
theorem d_X12_init_429 : decode cX12_init 429 = .ok (.aload_n 0, 1) := by decide +kernel
theorem d_X12_init_430 : decode cX12_init 430 = .ok (.sipush 160, 3) := by decide +kernel
theorem d_X12_init_433 : decode cX12_init 433 = .ok (.newarray .boolean, 2) := by decide +kernel
theorem d_X12_init_435 : decode cX12_init 435 = .ok (.putfield 164, 3) := by decide +kernel
theorem d_X12_init_438 : decode cX12_init 438 = .ok (.iconst 0, 1) := by decide +kernel
theorem d_X12_init_439 : decode cX12_init 439 = .ok (.istore_n 1, 1) := by decide +kernel
theorem d_X12_init_440 : decode cX12_init 440 = .ok (.iload_n 1, 1) := by decide +kernel
theorem d_X12_init_441 : decode cX12_init 441 = .ok (.sipush 160, 3) := by decide +kernel
theorem d_X12_init_444 : decode cX12_init 444 = .ok (.if_icmp .ge 16, 3) := by decide +kernel
theorem d_X12_init_447 : decode cX12_init 447 = .ok (.aload_n 0, 1) := by decide +kernel
theorem d_X12_init_448 : decode cX12_init 448 = .ok (.getfield 65, 3) := by decide +kernel
theorem d_X12_init_451 : decode cX12_init 451 = .ok (.iload_n 1, 1) := by decide +kernel
theorem d_X12_init_452 : decode cX12_init 452 = .ok (.iconst (-1), 1) := by decide +kernel
theorem d_X12_init_453 : decode cX12_init 453 = .ok (.iastore, 1) := by decide +kernel
theorem d_X12_init_454 : decode cX12_init 454 = .ok (.iinc 1 1, 3) := by decide +kernel
theorem d_X12_init_457 : decode cX12_init 457 = .ok (.goto (-17), 3) := by decide +kernel
theorem d_X12_init_460 : decode cX12_init 460 = .ok (.return_, 1) := by decide +kernel
theorem d_X12_in_0 : decode cX12_in 0 = .ok (.iload_n 0, 1) := by decide +kernel
theorem d_X12_in_1 : decode cX12_in 1 = .ok (.iload_n 1, 1) := by decide +kernel
theorem d_X12_in_2 : decode cX12_in 2 = .ok (.if_icmp .lt 12, 3) := by decide +kernel
theorem d_X12_in_5 : decode cX12_in 5 = .ok (.iload_n 0, 1) := by decide +kernel
theorem d_X12_in_6 : decode cX12_in 6 = .ok (.iload_n 2, 1) := by decide +kernel
theorem d_X12_in_7 : decode cX12_in 7 = .ok (.if_icmp .gt 7, 3) := by decide +kernel
theorem d_X12_in_10 : decode cX12_in 10 = .ok (.iconst 1, 1) := by decide +kernel
theorem d_X12_in_11 : decode cX12_in 11 = .ok (.goto 4, 3) := by decide +kernel
theorem d_X12_in_14 : decode cX12_in 14 = .ok (.iconst 0, 1) := by decide +kernel
theorem d_X12_in_15 : decode cX12_in 15 = .ok (.ireturn, 1) := by decide +kernel
theorem d_X12_refused_0 : decode cX12_refused 0 = .ok (.aload_n 0, 1) := by decide +kernel
theorem d_X12_refused_1 : decode cX12_refused 1 = .ok (.iload_n 1, 1) := by decide +kernel
theorem d_X12_refused_2 : decode cX12_refused 2 = .ok (.putfield 167, 3) := by decide +kernel
theorem d_X12_refused_5 : decode cX12_refused 5 = .ok (.iconst (-1), 1) := by decide +kernel
theorem d_X12_refused_6 : decode cX12_refused 6 = .ok (.ireturn, 1) := by decide +kernel
theorem d_X12_done_0 : decode cX12_done 0 = .ok (.aload_n 0, 1) := by decide +kernel
theorem d_X12_done_1 : decode cX12_done 1 = .ok (.iconst 0, 1) := by decide +kernel
theorem d_X12_done_2 : decode cX12_done 2 = .ok (.putfield 167, 3) := by decide +kernel
theorem d_X12_done_5 : decode cX12_done 5 = .ok (.iload_n 1, 1) := by decide +kernel
theorem d_X12_done_6 : decode cX12_done 6 = .ok (.ireturn, 1) := by decide +kernel
theorem d_X12_isStretch_0 : decode cX12_isStretch 0 = .ok (.iload_n 1, 1) := by decide +kernel
theorem d_X12_isStretch_1 : decode cX12_isStretch 1 = .ok (.iconst 0, 1) := by decide +kernel
theorem d_X12_isStretch_2 : decode cX12_isStretch 2 = .ok (.aload_n 0, 1) := by decide +kernel
theorem d_X12_isStretch_3 : decode cX12_isStretch 3 = .ok (.getfield 171, 3) := by decide +kernel
theorem d_X12_isStretch_6 : decode cX12_isStretch 6 = .ok (.iconst 1, 1) := by decide +kernel
theorem d_X12_isStretch_7 : decode cX12_isStretch 7 = .ok (.isub, 1) := by decide +kernel
theorem d_X12_isStretch_8 : decode cX12_isStretch 8 = .ok (.invokestatic 174, 3) := by decide +kernel
theorem d_X12_isStretch_11 : decode cX12_isStretch 11 = .ok (.ireturn, 1) := by decide +kernel
theorem d_X12_isLanding_0 : decode cX12_isLanding 0 = .ok (.iload_n 1, 1) := by decide +kernel
theorem d_X12_isLanding_1 : decode cX12_isLanding 1 = .ok (.iconst 0, 1) := by decide +kernel
theorem d_X12_isLanding_2 : decode cX12_isLanding 2 = .ok (.aload_n 0, 1) := by decide +kernel
theorem d_X12_isLanding_3 : decode cX12_isLanding 3 = .ok (.getfield 171, 3) := by decide +kernel
theorem d_X12_isLanding_6 : decode cX12_isLanding 6 = .ok (.invokestatic 174, 3) := by decide +kernel
theorem d_X12_isLanding_9 : decode cX12_isLanding 9 = .ok (.ireturn, 1) := by decide +kernel
theorem d_X12_isBoat_0 : decode cX12_isBoat 0 = .ok (.iload_n 1, 1) := by decide +kernel
theorem d_X12_isBoat_1 : decode cX12_isBoat 1 = .ok (.iconst 0, 1) := by decide +kernel
theorem d_X12_isBoat_2 : decode cX12_isBoat 2 = .ok (.aload_n 0, 1) := by decide +kernel
theorem d_X12_isBoat_3 : decode cX12_isBoat 3 = .ok (.getfield 178, 3) := by decide +kernel
theorem d_X12_isBoat_6 : decode cX12_isBoat 6 = .ok (.iconst 1, 1) := by decide +kernel
theorem d_X12_isBoat_7 : decode cX12_isBoat 7 = .ok (.isub, 1) := by decide +kernel
theorem d_X12_isBoat_8 : decode cX12_isBoat 8 = .ok (.invokestatic 174, 3) := by decide +kernel
theorem d_X12_isBoat_11 : decode cX12_isBoat 11 = .ok (.ireturn, 1) := by decide +kernel
theorem d_X12_isBale_0 : decode cX12_isBale 0 = .ok (.iload_n 1, 1) := by decide +kernel
theorem d_X12_isBale_1 : decode cX12_isBale 1 = .ok (.iconst 0, 1) := by decide +kernel
theorem d_X12_isBale_2 : decode cX12_isBale 2 = .ok (.aload_n 0, 1) := by decide +kernel
theorem d_X12_isBale_3 : decode cX12_isBale 3 = .ok (.getfield 181, 3) := by decide +kernel
theorem d_X12_isBale_6 : decode cX12_isBale 6 = .ok (.iconst 1, 1) := by decide +kernel
theorem d_X12_isBale_7 : decode cX12_isBale 7 = .ok (.isub, 1) := by decide +kernel
theorem d_X12_isBale_8 : decode cX12_isBale 8 = .ok (.invokestatic 174, 3) := by decide +kernel
theorem d_X12_isBale_11 : decode cX12_isBale 11 = .ok (.ireturn, 1) := by decide +kernel
theorem d_X12_isDay_0 : decode cX12_isDay 0 = .ok (.iload_n 0, 1) := by decide +kernel
theorem d_X12_isDay_1 : decode cX12_isDay 1 = .ok (.iconst 0, 1) := by decide +kernel
theorem d_X12_isDay_2 : decode cX12_isDay 2 = .ok (.bipush 99, 2) := by decide +kernel
theorem d_X12_isDay_4 : decode cX12_isDay 4 = .ok (.invokestatic 174, 3) := by decide +kernel
theorem d_X12_isDay_7 : decode cX12_isDay 7 = .ok (.ireturn, 1) := by decide +kernel
theorem d_X12_today_0 : decode cX12_today 0 = .ok (.aload_n 0, 1) := by decide +kernel
theorem d_X12_today_1 : decode cX12_today 1 = .ok (.getfield 184, 3) := by decide +kernel
theorem d_X12_today_4 : decode cX12_today 4 = .ok (.bipush 96, 2) := by decide +kernel
theorem d_X12_today_6 : decode cX12_today 6 = .ok (.idiv, 1) := by decide +kernel
theorem d_X12_today_7 : decode cX12_today 7 = .ok (.ireturn, 1) := by decide +kernel
theorem d_X12_isNight_0 : decode cX12_isNight 0 = .ok (.aload_n 0, 1) := by decide +kernel
theorem d_X12_isNight_1 : decode cX12_isNight 1 = .ok (.getfield 184, 3) := by decide +kernel
theorem d_X12_isNight_4 : decode cX12_isNight 4 = .ok (.bipush 96, 2) := by decide +kernel
theorem d_X12_isNight_6 : decode cX12_isNight 6 = .ok (.irem, 1) := by decide +kernel
theorem d_X12_isNight_7 : decode cX12_isNight 7 = .ok (.bipush 24, 2) := by decide +kernel
theorem d_X12_isNight_9 : decode cX12_isNight 9 = .ok (.if_icmp .lt 15, 3) := by decide +kernel
theorem d_X12_isNight_12 : decode cX12_isNight 12 = .ok (.aload_n 0, 1) := by decide +kernel
theorem d_X12_isNight_13 : decode cX12_isNight 13 = .ok (.getfield 184, 3) := by decide +kernel
theorem d_X12_isNight_16 : decode cX12_isNight 16 = .ok (.bipush 96, 2) := by decide +kernel
theorem d_X12_isNight_18 : decode cX12_isNight 18 = .ok (.irem, 1) := by decide +kernel
theorem d_X12_isNight_19 : decode cX12_isNight 19 = .ok (.bipush 72, 2) := by decide +kernel
theorem d_X12_isNight_21 : decode cX12_isNight 21 = .ok (.if_icmp .lt 7, 3) := by decide +kernel
theorem d_X12_isNight_24 : decode cX12_isNight 24 = .ok (.iconst 1, 1) := by decide +kernel
theorem d_X12_isNight_25 : decode cX12_isNight 25 = .ok (.goto 4, 3) := by decide +kernel
theorem d_X12_isNight_28 : decode cX12_isNight 28 = .ok (.iconst 0, 1) := by decide +kernel
theorem d_X12_isNight_29 : decode cX12_isNight 29 = .ok (.ireturn, 1) := by decide +kernel
theorem d_X12_stretch_0 : decode cX12_stretch 0 = .ok (.iload_n 1, 1) := by decide +kernel
theorem d_X12_stretch_1 : decode cX12_stretch 1 = .ok (.iconst 0, 1) := by decide +kernel
theorem d_X12_stretch_2 : decode cX12_stretch 2 = .ok (.iconst 5, 1) := by decide +kernel
theorem d_X12_stretch_3 : decode cX12_stretch 3 = .ok (.invokestatic 174, 3) := by decide +kernel
theorem d_X12_stretch_6 : decode cX12_stretch 6 = .ok (.ifCond .eq 23, 3) := by decide +kernel
theorem d_X12_stretch_9 : decode cX12_stretch 9 = .ok (.iload_n 2, 1) := by decide +kernel
theorem d_X12_stretch_10 : decode cX12_stretch 10 = .ok (.iconst 1, 1) := by decide +kernel
theorem d_X12_stretch_11 : decode cX12_stretch 11 = .ok (.bipush 20, 2) := by decide +kernel
theorem d_X12_stretch_13 : decode cX12_stretch 13 = .ok (.invokestatic 174, 3) := by decide +kernel
theorem d_X12_stretch_16 : decode cX12_stretch 16 = .ok (.ifCond .eq 13, 3) := by decide +kernel
theorem d_X12_stretch_19 : decode cX12_stretch 19 = .ok (.iload_n 3, 1) := by decide +kernel
theorem d_X12_stretch_20 : decode cX12_stretch 20 = .ok (.iconst 0, 1) := by decide +kernel
theorem d_X12_stretch_21 : decode cX12_stretch 21 = .ok (.bipush 99, 2) := by decide +kernel
theorem d_X12_stretch_23 : decode cX12_stretch 23 = .ok (.invokestatic 174, 3) := by decide +kernel
theorem d_X12_stretch_26 : decode cX12_stretch 26 = .ok (.ifCond .ne 9, 3) := by decide +kernel
theorem d_X12_stretch_29 : decode cX12_stretch 29 = .ok (.aload_n 0, 1) := by decide +kernel
theorem d_X12_stretch_30 : decode cX12_stretch 30 = .ok (.iconst 1, 1) := by decide +kernel
theorem d_X12_stretch_31 : decode cX12_stretch 31 = .ok (.invokevirtual 187, 3) := by decide +kernel
theorem d_X12_stretch_34 : decode cX12_stretch 34 = .ok (.ireturn, 1) := by decide +kernel
theorem d_X12_stretch_35 : decode cX12_stretch 35 = .ok (.aload_n 0, 1) := by decide +kernel
theorem d_X12_stretch_36 : decode cX12_stretch 36 = .ok (.getfield 171, 3) := by decide +kernel
theorem d_X12_stretch_39 : decode cX12_stretch 39 = .ok (.bipush 10, 2) := by decide +kernel
theorem d_X12_stretch_41 : decode cX12_stretch 41 = .ok (.if_icmp .ne 9, 3) := by decide +kernel
theorem d_X12_stretch_44 : decode cX12_stretch 44 = .ok (.aload_n 0, 1) := by decide +kernel
theorem d_X12_stretch_45 : decode cX12_stretch 45 = .ok (.iconst 2, 1) := by decide +kernel
theorem d_X12_stretch_46 : decode cX12_stretch 46 = .ok (.invokevirtual 187, 3) := by decide +kernel
theorem d_X12_stretch_49 : decode cX12_stretch 49 = .ok (.ireturn, 1) := by decide +kernel
theorem d_X12_stretch_50 : decode cX12_stretch 50 = .ok (.aload_n 0, 1) := by decide +kernel
theorem d_X12_stretch_51 : decode cX12_stretch 51 = .ok (.getfield 171, 3) := by decide +kernel
theorem d_X12_stretch_54 : decode cX12_stretch 54 = .ok (.istore 4, 2) := by decide +kernel
theorem d_X12_stretch_56 : decode cX12_stretch 56 = .ok (.aload_n 0, 1) := by decide +kernel
theorem d_X12_stretch_57 : decode cX12_stretch 57 = .ok (.getfield 7, 3) := by decide +kernel
theorem d_X12_stretch_60 : decode cX12_stretch 60 = .ok (.iload 4, 2) := by decide +kernel
theorem d_X12_stretch_62 : decode cX12_stretch 62 = .ok (.iload_n 1, 1) := by decide +kernel
theorem d_X12_stretch_63 : decode cX12_stretch 63 = .ok (.iastore, 1) := by decide +kernel
theorem d_X12_stretch_64 : decode cX12_stretch 64 = .ok (.aload_n 0, 1) := by decide +kernel
theorem d_X12_stretch_65 : decode cX12_stretch 65 = .ok (.getfield 13, 3) := by decide +kernel
theorem d_X12_stretch_68 : decode cX12_stretch 68 = .ok (.iload 4, 2) := by decide +kernel
theorem d_X12_stretch_70 : decode cX12_stretch 70 = .ok (.iload_n 2, 1) := by decide +kernel
theorem d_X12_stretch_71 : decode cX12_stretch 71 = .ok (.iastore, 1) := by decide +kernel
theorem d_X12_stretch_72 : decode cX12_stretch 72 = .ok (.aload_n 0, 1) := by decide +kernel
theorem d_X12_stretch_73 : decode cX12_stretch 73 = .ok (.getfield 16, 3) := by decide +kernel
theorem d_X12_stretch_76 : decode cX12_stretch 76 = .ok (.iload 4, 2) := by decide +kernel
theorem d_X12_stretch_78 : decode cX12_stretch 78 = .ok (.iload_n 3, 1) := by decide +kernel
theorem d_X12_stretch_79 : decode cX12_stretch 79 = .ok (.iastore, 1) := by decide +kernel
theorem d_X12_stretch_80 : decode cX12_stretch 80 = .ok (.aload_n 0, 1) := by decide +kernel
theorem d_X12_stretch_81 : decode cX12_stretch 81 = .ok (.getfield 19, 3) := by decide +kernel
theorem d_X12_stretch_84 : decode cX12_stretch 84 = .ok (.iload 4, 2) := by decide +kernel
theorem d_X12_stretch_86 : decode cX12_stretch 86 = .ok (.iconst 0, 1) := by decide +kernel
theorem d_X12_stretch_87 : decode cX12_stretch 87 = .ok (.bastore, 1) := by decide +kernel
theorem d_X12_stretch_88 : decode cX12_stretch 88 = .ok (.iconst 0, 1) := by decide +kernel
theorem d_X12_stretch_89 : decode cX12_stretch 89 = .ok (.istore 5, 2) := by decide +kernel
theorem d_X12_stretch_91 : decode cX12_stretch 91 = .ok (.iload 5, 2) := by decide +kernel
theorem d_X12_stretch_93 : decode cX12_stretch 93 = .ok (.bipush 100, 2) := by decide +kernel
theorem d_X12_stretch_95 : decode cX12_stretch 95 = .ok (.if_icmp .ge 23, 3) := by decide +kernel
theorem d_X12_stretch_98 : decode cX12_stretch 98 = .ok (.aload_n 0, 1) := by decide +kernel
theorem d_X12_stretch_99 : decode cX12_stretch 99 = .ok (.getfield 26, 3) := by decide +kernel
theorem d_X12_stretch_102 : decode cX12_stretch 102 = .ok (.bipush 100, 2) := by decide +kernel
theorem d_X12_stretch_104 : decode cX12_stretch 104 = .ok (.iload 4, 2) := by decide +kernel
theorem d_X12_stretch_106 : decode cX12_stretch 106 = .ok (.imul, 1) := by decide +kernel
theorem d_X12_stretch_107 : decode cX12_stretch 107 = .ok (.iload 5, 2) := by decide +kernel
theorem d_X12_stretch_109 : decode cX12_stretch 109 = .ok (.iadd, 1) := by decide +kernel
theorem d_X12_stretch_110 : decode cX12_stretch 110 = .ok (.iconst 0, 1) := by decide +kernel
theorem d_X12_stretch_111 : decode cX12_stretch 111 = .ok (.bastore, 1) := by decide +kernel
theorem d_X12_stretch_112 : decode cX12_stretch 112 = .ok (.iinc 5 1, 3) := by decide +kernel
theorem d_X12_stretch_115 : decode cX12_stretch 115 = .ok (.goto (-24), 3) := by decide +kernel
theorem d_X12_stretch_118 : decode cX12_stretch 118 = .ok (.iconst 0, 1) := by decide +kernel
theorem d_X12_stretch_119 : decode cX12_stretch 119 = .ok (.istore 5, 2) := by decide +kernel
theorem d_X12_stretch_121 : decode cX12_stretch 121 = .ok (.iload 5, 2) := by decide +kernel
theorem d_X12_stretch_123 : decode cX12_stretch 123 = .ok (.bipush 16, 2) := by decide +kernel
theorem d_X12_stretch_125 : decode cX12_stretch 125 = .ok (.if_icmp .ge 23, 3) := by decide +kernel
theorem d_X12_stretch_128 : decode cX12_stretch 128 = .ok (.aload_n 0, 1) := by decide +kernel
theorem d_X12_stretch_129 : decode cX12_stretch 129 = .ok (.getfield 65, 3) := by decide +kernel
theorem d_X12_stretch_132 : decode cX12_stretch 132 = .ok (.bipush 10, 2) := by decide +kernel
theorem d_X12_stretch_134 : decode cX12_stretch 134 = .ok (.iload 5, 2) := by decide +kernel
theorem d_X12_stretch_136 : decode cX12_stretch 136 = .ok (.imul, 1) := by decide +kernel
theorem d_X12_stretch_137 : decode cX12_stretch 137 = .ok (.iload 4, 2) := by decide +kernel
theorem d_X12_stretch_139 : decode cX12_stretch 139 = .ok (.iadd, 1) := by decide +kernel
theorem d_X12_stretch_140 : decode cX12_stretch 140 = .ok (.iconst (-1), 1) := by decide +kernel
theorem d_X12_stretch_141 : decode cX12_stretch 141 = .ok (.iastore, 1) := by decide +kernel
theorem d_X12_stretch_142 : decode cX12_stretch 142 = .ok (.iinc 5 1, 3) := by decide +kernel
theorem d_X12_stretch_145 : decode cX12_stretch 145 = .ok (.goto (-24), 3) := by decide +kernel
theorem d_X12_stretch_148 : decode cX12_stretch 148 = .ok (.iconst 0, 1) := by decide +kernel
theorem d_X12_stretch_149 : decode cX12_stretch 149 = .ok (.istore 5, 2) := by decide +kernel
theorem d_X12_stretch_151 : decode cX12_stretch 151 = .ok (.iload 5, 2) := by decide +kernel
theorem d_X12_stretch_153 : decode cX12_stretch 153 = .ok (.bipush 10, 2) := by decide +kernel
theorem d_X12_stretch_155 : decode cX12_stretch 155 = .ok (.if_icmp .ge 27, 3) := by decide +kernel
theorem d_X12_stretch_158 : decode cX12_stretch 158 = .ok (.aload_n 0, 1) := by decide +kernel
theorem d_X12_stretch_159 : decode cX12_stretch 159 = .ok (.getfield 65, 3) := by decide +kernel
theorem d_X12_stretch_162 : decode cX12_stretch 162 = .ok (.bipush 10, 2) := by decide +kernel
theorem d_X12_stretch_164 : decode cX12_stretch 164 = .ok (.iconst 5, 1) := by decide +kernel
theorem d_X12_stretch_165 : decode cX12_stretch 165 = .ok (.iload 4, 2) := by decide +kernel
theorem d_X12_stretch_167 : decode cX12_stretch 167 = .ok (.iadd, 1) := by decide +kernel
theorem d_X12_stretch_168 : decode cX12_stretch 168 = .ok (.iconst 1, 1) := by decide +kernel
theorem d_X12_stretch_169 : decode cX12_stretch 169 = .ok (.iadd, 1) := by decide +kernel
theorem d_X12_stretch_170 : decode cX12_stretch 170 = .ok (.imul, 1) := by decide +kernel
theorem d_X12_stretch_171 : decode cX12_stretch 171 = .ok (.iload 5, 2) := by decide +kernel
theorem d_X12_stretch_173 : decode cX12_stretch 173 = .ok (.iadd, 1) := by decide +kernel
theorem d_X12_stretch_174 : decode cX12_stretch 174 = .ok (.iconst (-1), 1) := by decide +kernel
theorem d_X12_stretch_175 : decode cX12_stretch 175 = .ok (.iastore, 1) := by decide +kernel
theorem d_X12_stretch_176 : decode cX12_stretch 176 = .ok (.iinc 5 1, 3) := by decide +kernel
theorem d_X12_stretch_179 : decode cX12_stretch 179 = .ok (.goto (-28), 3) := by decide +kernel
theorem d_X12_stretch_182 : decode cX12_stretch 182 = .ok (.aload_n 0, 1) := by decide +kernel
theorem d_X12_stretch_183 : decode cX12_stretch 183 = .ok (.getfield 68, 3) := by decide +kernel
theorem d_X12_stretch_186 : decode cX12_stretch 186 = .ok (.iload 4, 2) := by decide +kernel
theorem d_X12_stretch_188 : decode cX12_stretch 188 = .ok (.iconst 1, 1) := by decide +kernel
theorem d_X12_stretch_189 : decode cX12_stretch 189 = .ok (.iadd, 1) := by decide +kernel
theorem d_X12_stretch_190 : decode cX12_stretch 190 = .ok (.iconst 0, 1) := by decide +kernel
theorem d_X12_stretch_191 : decode cX12_stretch 191 = .ok (.iastore, 1) := by decide +kernel
theorem d_X12_stretch_192 : decode cX12_stretch 192 = .ok (.aload_n 0, 1) := by decide +kernel
theorem d_X12_stretch_193 : decode cX12_stretch 193 = .ok (.dup, 1) := by decide +kernel
theorem d_X12_stretch_194 : decode cX12_stretch 194 = .ok (.getfield 171, 3) := by decide +kernel
theorem d_X12_stretch_197 : decode cX12_stretch 197 = .ok (.iconst 1, 1) := by decide +kernel
theorem d_X12_stretch_198 : decode cX12_stretch 198 = .ok (.iadd, 1) := by decide +kernel
theorem d_X12_stretch_199 : decode cX12_stretch 199 = .ok (.putfield 171, 3) := by decide +kernel
theorem d_X12_stretch_202 : decode cX12_stretch 202 = .ok (.aload_n 0, 1) := by decide +kernel
theorem d_X12_stretch_203 : decode cX12_stretch 203 = .ok (.iload 4, 2) := by decide +kernel
theorem d_X12_stretch_205 : decode cX12_stretch 205 = .ok (.invokevirtual 191, 3) := by decide +kernel
theorem d_X12_stretch_208 : decode cX12_stretch 208 = .ok (.ireturn, 1) := by decide +kernel
theorem d_X12_told_0 : decode cX12_told 0 = .ok (.iconst 0, 1) := by decide +kernel
theorem d_X12_told_1 : decode cX12_told 1 = .ok (.istore_n 1, 1) := by decide +kernel
theorem d_X12_told_2 : decode cX12_told 2 = .ok (.iconst 0, 1) := by decide +kernel
theorem d_X12_told_3 : decode cX12_told 3 = .ok (.istore_n 2, 1) := by decide +kernel
theorem d_X12_told_4 : decode cX12_told 4 = .ok (.iload_n 2, 1) := by decide +kernel
theorem d_X12_told_5 : decode cX12_told 5 = .ok (.bipush 100, 2) := by decide +kernel
theorem d_X12_told_7 : decode cX12_told 7 = .ok (.if_icmp .ge 26, 3) := by decide +kernel
theorem d_X12_told_10 : decode cX12_told 10 = .ok (.iload_n 1, 1) := by decide +kernel
theorem d_X12_told_11 : decode cX12_told 11 = .ok (.aload_n 0, 1) := by decide +kernel
theorem d_X12_told_12 : decode cX12_told 12 = .ok (.getfield 32, 3) := by decide +kernel
theorem d_X12_told_15 : decode cX12_told 15 = .ok (.iload_n 2, 1) := by decide +kernel
theorem d_X12_told_16 : decode cX12_told 16 = .ok (.baload, 1) := by decide +kernel
theorem d_X12_told_17 : decode cX12_told 17 = .ok (.ifCond .eq 7, 3) := by decide +kernel
theorem d_X12_told_20 : decode cX12_told 20 = .ok (.iconst 1, 1) := by decide +kernel
theorem d_X12_told_21 : decode cX12_told 21 = .ok (.goto 4, 3) := by decide +kernel
theorem d_X12_told_24 : decode cX12_told 24 = .ok (.iconst 0, 1) := by decide +kernel
theorem d_X12_told_25 : decode cX12_told 25 = .ok (.iadd, 1) := by decide +kernel
theorem d_X12_told_26 : decode cX12_told 26 = .ok (.istore_n 1, 1) := by decide +kernel
theorem d_X12_told_27 : decode cX12_told 27 = .ok (.iinc 2 1, 3) := by decide +kernel
theorem d_X12_told_30 : decode cX12_told 30 = .ok (.goto (-26), 3) := by decide +kernel
theorem d_X12_told_33 : decode cX12_told 33 = .ok (.iload_n 1, 1) := by decide +kernel
theorem d_X12_told_34 : decode cX12_told 34 = .ok (.ireturn, 1) := by decide +kernel
theorem d_X12_gauge_0 : decode cX12_gauge 0 = .ok (.iload_n 1, 1) := by decide +kernel
theorem d_X12_gauge_1 : decode cX12_gauge 1 = .ok (.invokestatic 194, 3) := by decide +kernel
theorem d_X12_gauge_4 : decode cX12_gauge 4 = .ok (.ifCond .eq 14, 3) := by decide +kernel
theorem d_X12_gauge_7 : decode cX12_gauge 7 = .ok (.iload_n 2, 1) := by decide +kernel
theorem d_X12_gauge_8 : decode cX12_gauge 8 = .ok (.bipush (-20), 2) := by decide +kernel
theorem d_X12_gauge_10 : decode cX12_gauge 10 = .ok (.bipush 40, 2) := by decide +kernel
theorem d_X12_gauge_12 : decode cX12_gauge 12 = .ok (.invokestatic 174, 3) := by decide +kernel
theorem d_X12_gauge_15 : decode cX12_gauge 15 = .ok (.ifCond .ne 9, 3) := by decide +kernel
theorem d_X12_gauge_18 : decode cX12_gauge 18 = .ok (.aload_n 0, 1) := by decide +kernel
theorem d_X12_gauge_19 : decode cX12_gauge 19 = .ok (.iconst 1, 1) := by decide +kernel
theorem d_X12_gauge_20 : decode cX12_gauge 20 = .ok (.invokevirtual 187, 3) := by decide +kernel
theorem d_X12_gauge_23 : decode cX12_gauge 23 = .ok (.ireturn, 1) := by decide +kernel
theorem d_X12_gauge_24 : decode cX12_gauge 24 = .ok (.aload_n 0, 1) := by decide +kernel
theorem d_X12_gauge_25 : decode cX12_gauge 25 = .ok (.getfield 29, 3) := by decide +kernel
theorem d_X12_gauge_28 : decode cX12_gauge 28 = .ok (.iload_n 1, 1) := by decide +kernel
theorem d_X12_gauge_29 : decode cX12_gauge 29 = .ok (.iload_n 2, 1) := by decide +kernel
theorem d_X12_gauge_30 : decode cX12_gauge 30 = .ok (.iastore, 1) := by decide +kernel
theorem d_X12_gauge_31 : decode cX12_gauge 31 = .ok (.aload_n 0, 1) := by decide +kernel
theorem d_X12_gauge_32 : decode cX12_gauge 32 = .ok (.getfield 32, 3) := by decide +kernel
theorem d_X12_gauge_35 : decode cX12_gauge 35 = .ok (.iload_n 1, 1) := by decide +kernel
theorem d_X12_gauge_36 : decode cX12_gauge 36 = .ok (.iconst 1, 1) := by decide +kernel
theorem d_X12_gauge_37 : decode cX12_gauge 37 = .ok (.bastore, 1) := by decide +kernel
theorem d_X12_gauge_38 : decode cX12_gauge 38 = .ok (.aload_n 0, 1) := by decide +kernel
theorem d_X12_gauge_39 : decode cX12_gauge 39 = .ok (.aload_n 0, 1) := by decide +kernel
theorem d_X12_gauge_40 : decode cX12_gauge 40 = .ok (.invokevirtual 198, 3) := by decide +kernel
theorem d_X12_gauge_43 : decode cX12_gauge 43 = .ok (.invokevirtual 191, 3) := by decide +kernel
theorem d_X12_gauge_46 : decode cX12_gauge 46 = .ok (.ireturn, 1) := by decide +kernel
theorem d_X12_isBar_0 : decode cX12_isBar 0 = .ok (.aload_n 0, 1) := by decide +kernel
theorem d_X12_isBar_1 : decode cX12_isBar 1 = .ok (.getfield 7, 3) := by decide +kernel
theorem d_X12_isBar_4 : decode cX12_isBar 4 = .ok (.iload_n 1, 1) := by decide +kernel
theorem d_X12_isBar_5 : decode cX12_isBar 5 = .ok (.iaload, 1) := by decide +kernel
theorem d_X12_isBar_6 : decode cX12_isBar 6 = .ok (.iconst 1, 1) := by decide +kernel
theorem d_X12_isBar_7 : decode cX12_isBar 7 = .ok (.if_icmp .eq 13, 3) := by decide +kernel
theorem d_X12_isBar_10 : decode cX12_isBar 10 = .ok (.aload_n 0, 1) := by decide +kernel
theorem d_X12_isBar_11 : decode cX12_isBar 11 = .ok (.getfield 7, 3) := by decide +kernel
theorem d_X12_isBar_14 : decode cX12_isBar 14 = .ok (.iload_n 1, 1) := by decide +kernel
theorem d_X12_isBar_15 : decode cX12_isBar 15 = .ok (.iaload, 1) := by decide +kernel
theorem d_X12_isBar_16 : decode cX12_isBar 16 = .ok (.iconst 3, 1) := by decide +kernel
theorem d_X12_isBar_17 : decode cX12_isBar 17 = .ok (.if_icmp .ne 7, 3) := by decide +kernel
theorem d_X12_isBar_20 : decode cX12_isBar 20 = .ok (.iconst 1, 1) := by decide +kernel
theorem d_X12_isBar_21 : decode cX12_isBar 21 = .ok (.goto 4, 3) := by decide +kernel
theorem d_X12_isBar_24 : decode cX12_isBar 24 = .ok (.iconst 0, 1) := by decide +kernel
theorem d_X12_isBar_25 : decode cX12_isBar 25 = .ok (.ireturn, 1) := by decide +kernel
theorem d_X12_shift_0 : decode cX12_shift 0 = .ok (.aload_n 0, 1) := by decide +kernel
theorem d_X12_shift_1 : decode cX12_shift 1 = .ok (.iload_n 1, 1) := by decide +kernel
theorem d_X12_shift_2 : decode cX12_shift 2 = .ok (.invokevirtual 202, 3) := by decide +kernel
theorem d_X12_shift_5 : decode cX12_shift 5 = .ok (.ifCond .eq 21, 3) := by decide +kernel
theorem d_X12_shift_8 : decode cX12_shift 8 = .ok (.iload_n 2, 1) := by decide +kernel
theorem d_X12_shift_9 : decode cX12_shift 9 = .ok (.invokestatic 194, 3) := by decide +kernel
theorem d_X12_shift_12 : decode cX12_shift 12 = .ok (.ifCond .eq 14, 3) := by decide +kernel
theorem d_X12_shift_15 : decode cX12_shift 15 = .ok (.iload_n 3, 1) := by decide +kernel
theorem d_X12_shift_16 : decode cX12_shift 16 = .ok (.bipush (-20), 2) := by decide +kernel
theorem d_X12_shift_18 : decode cX12_shift 18 = .ok (.bipush 20, 2) := by decide +kernel
theorem d_X12_shift_20 : decode cX12_shift 20 = .ok (.invokestatic 174, 3) := by decide +kernel
theorem d_X12_shift_23 : decode cX12_shift 23 = .ok (.ifCond .ne 9, 3) := by decide +kernel
theorem d_X12_shift_26 : decode cX12_shift 26 = .ok (.aload_n 0, 1) := by decide +kernel
theorem d_X12_shift_27 : decode cX12_shift 27 = .ok (.iconst 1, 1) := by decide +kernel
theorem d_X12_shift_28 : decode cX12_shift 28 = .ok (.invokevirtual 187, 3) := by decide +kernel
theorem d_X12_shift_31 : decode cX12_shift 31 = .ok (.ireturn, 1) := by decide +kernel
theorem d_X12_shift_32 : decode cX12_shift 32 = .ok (.aload_n 0, 1) := by decide +kernel
theorem d_X12_shift_33 : decode cX12_shift 33 = .ok (.iload_n 1, 1) := by decide +kernel
theorem d_X12_shift_34 : decode cX12_shift 34 = .ok (.invokevirtual 205, 3) := by decide +kernel
theorem d_X12_shift_37 : decode cX12_shift 37 = .ok (.ifCond .ne 9, 3) := by decide +kernel
theorem d_X12_shift_40 : decode cX12_shift 40 = .ok (.aload_n 0, 1) := by decide +kernel
theorem d_X12_shift_41 : decode cX12_shift 41 = .ok (.iconst 3, 1) := by decide +kernel
theorem d_X12_shift_42 : decode cX12_shift 42 = .ok (.invokevirtual 187, 3) := by decide +kernel
theorem d_X12_shift_45 : decode cX12_shift 45 = .ok (.ireturn, 1) := by decide +kernel
theorem d_X12_shift_46 : decode cX12_shift 46 = .ok (.aload_n 0, 1) := by decide +kernel
theorem d_X12_shift_47 : decode cX12_shift 47 = .ok (.getfield 23, 3) := by decide +kernel
theorem d_X12_shift_50 : decode cX12_shift 50 = .ok (.bipush 100, 2) := by decide +kernel
theorem d_X12_shift_52 : decode cX12_shift 52 = .ok (.iload_n 1, 1) := by decide +kernel
theorem d_X12_shift_53 : decode cX12_shift 53 = .ok (.imul, 1) := by decide +kernel
theorem d_X12_shift_54 : decode cX12_shift 54 = .ok (.iload_n 2, 1) := by decide +kernel
theorem d_X12_shift_55 : decode cX12_shift 55 = .ok (.iadd, 1) := by decide +kernel
theorem d_X12_shift_56 : decode cX12_shift 56 = .ok (.iload_n 3, 1) := by decide +kernel
theorem d_X12_shift_57 : decode cX12_shift 57 = .ok (.iastore, 1) := by decide +kernel
theorem d_X12_shift_58 : decode cX12_shift 58 = .ok (.aload_n 0, 1) := by decide +kernel
theorem d_X12_shift_59 : decode cX12_shift 59 = .ok (.getfield 26, 3) := by decide +kernel
theorem d_X12_shift_62 : decode cX12_shift 62 = .ok (.bipush 100, 2) := by decide +kernel
theorem d_X12_shift_64 : decode cX12_shift 64 = .ok (.iload_n 1, 1) := by decide +kernel
theorem d_X12_shift_65 : decode cX12_shift 65 = .ok (.imul, 1) := by decide +kernel
theorem d_X12_shift_66 : decode cX12_shift 66 = .ok (.iload_n 2, 1) := by decide +kernel
theorem d_X12_shift_67 : decode cX12_shift 67 = .ok (.iadd, 1) := by decide +kernel
theorem d_X12_shift_68 : decode cX12_shift 68 = .ok (.iconst 1, 1) := by decide +kernel
theorem d_X12_shift_69 : decode cX12_shift 69 = .ok (.bastore, 1) := by decide +kernel
theorem d_X12_shift_70 : decode cX12_shift 70 = .ok (.aload_n 0, 1) := by decide +kernel
theorem d_X12_shift_71 : decode cX12_shift 71 = .ok (.iconst 1, 1) := by decide +kernel
theorem d_X12_shift_72 : decode cX12_shift 72 = .ok (.invokevirtual 191, 3) := by decide +kernel
theorem d_X12_shift_75 : decode cX12_shift 75 = .ok (.ireturn, 1) := by decide +kernel
theorem d_X12_cold_0 : decode cX12_cold 0 = .ok (.iload_n 1, 1) := by decide +kernel
theorem d_X12_cold_1 : decode cX12_cold 1 = .ok (.invokestatic 194, 3) := by decide +kernel
theorem d_X12_cold_4 : decode cX12_cold 4 = .ok (.ifCond .ne 9, 3) := by decide +kernel
theorem d_X12_cold_7 : decode cX12_cold 7 = .ok (.aload_n 0, 1) := by decide +kernel
theorem d_X12_cold_8 : decode cX12_cold 8 = .ok (.iconst 1, 1) := by decide +kernel
theorem d_X12_cold_9 : decode cX12_cold 9 = .ok (.invokevirtual 187, 3) := by decide +kernel
theorem d_X12_cold_12 : decode cX12_cold 12 = .ok (.ireturn, 1) := by decide +kernel
theorem d_X12_cold_13 : decode cX12_cold 13 = .ok (.aload_n 0, 1) := by decide +kernel
theorem d_X12_cold_14 : decode cX12_cold 14 = .ok (.getfield 35, 3) := by decide +kernel
theorem d_X12_cold_17 : decode cX12_cold 17 = .ok (.iload_n 1, 1) := by decide +kernel
theorem d_X12_cold_18 : decode cX12_cold 18 = .ok (.baload, 1) := by decide +kernel
theorem d_X12_cold_19 : decode cX12_cold 19 = .ok (.istore_n 3, 1) := by decide +kernel
theorem d_X12_cold_20 : decode cX12_cold 20 = .ok (.aload_n 0, 1) := by decide +kernel
theorem d_X12_cold_21 : decode cX12_cold 21 = .ok (.getfield 35, 3) := by decide +kernel
theorem d_X12_cold_24 : decode cX12_cold 24 = .ok (.iload_n 1, 1) := by decide +kernel
theorem d_X12_cold_25 : decode cX12_cold 25 = .ok (.iload_n 2, 1) := by decide +kernel
theorem d_X12_cold_26 : decode cX12_cold 26 = .ok (.bastore, 1) := by decide +kernel
theorem d_X12_cold_27 : decode cX12_cold 27 = .ok (.aload_n 0, 1) := by decide +kernel
theorem d_X12_cold_28 : decode cX12_cold 28 = .ok (.iload_n 3, 1) := by decide +kernel
theorem d_X12_cold_29 : decode cX12_cold 29 = .ok (.iload_n 2, 1) := by decide +kernel
theorem d_X12_cold_30 : decode cX12_cold 30 = .ok (.if_icmp .eq 7, 3) := by decide +kernel
theorem d_X12_cold_33 : decode cX12_cold 33 = .ok (.iconst 1, 1) := by decide +kernel
theorem d_X12_cold_34 : decode cX12_cold 34 = .ok (.goto 4, 3) := by decide +kernel
theorem d_X12_cold_37 : decode cX12_cold 37 = .ok (.iconst 0, 1) := by decide +kernel
theorem d_X12_cold_38 : decode cX12_cold 38 = .ok (.invokevirtual 191, 3) := by decide +kernel
theorem d_X12_cold_41 : decode cX12_cold 41 = .ok (.ireturn, 1) := by decide +kernel
theorem d_X12_light_0 : decode cX12_light 0 = .ok (.aload_n 0, 1) := by decide +kernel
theorem d_X12_light_1 : decode cX12_light 1 = .ok (.iload_n 1, 1) := by decide +kernel
theorem d_X12_light_2 : decode cX12_light 2 = .ok (.invokevirtual 202, 3) := by decide +kernel
theorem d_X12_light_5 : decode cX12_light 5 = .ok (.ifCond .ne 9, 3) := by decide +kernel
theorem d_X12_light_8 : decode cX12_light 8 = .ok (.aload_n 0, 1) := by decide +kernel
theorem d_X12_light_9 : decode cX12_light 9 = .ok (.iconst 1, 1) := by decide +kernel
theorem d_X12_light_10 : decode cX12_light 10 = .ok (.invokevirtual 187, 3) := by decide +kernel
theorem d_X12_light_13 : decode cX12_light 13 = .ok (.ireturn, 1) := by decide +kernel
theorem d_X12_light_14 : decode cX12_light 14 = .ok (.aload_n 0, 1) := by decide +kernel
theorem d_X12_light_15 : decode cX12_light 15 = .ok (.getfield 7, 3) := by decide +kernel
theorem d_X12_light_18 : decode cX12_light 18 = .ok (.iload_n 1, 1) := by decide +kernel
theorem d_X12_light_19 : decode cX12_light 19 = .ok (.iaload, 1) := by decide +kernel
theorem d_X12_light_20 : decode cX12_light 20 = .ok (.iconst 3, 1) := by decide +kernel
theorem d_X12_light_21 : decode cX12_light 21 = .ok (.if_icmp .eq 9, 3) := by decide +kernel
theorem d_X12_light_24 : decode cX12_light 24 = .ok (.aload_n 0, 1) := by decide +kernel
theorem d_X12_light_25 : decode cX12_light 25 = .ok (.iconst 3, 1) := by decide +kernel
theorem d_X12_light_26 : decode cX12_light 26 = .ok (.invokevirtual 187, 3) := by decide +kernel
theorem d_X12_light_29 : decode cX12_light 29 = .ok (.ireturn, 1) := by decide +kernel
theorem d_X12_light_30 : decode cX12_light 30 = .ok (.aload_n 0, 1) := by decide +kernel
theorem d_X12_light_31 : decode cX12_light 31 = .ok (.getfield 19, 3) := by decide +kernel
theorem d_X12_light_34 : decode cX12_light 34 = .ok (.iload_n 1, 1) := by decide +kernel
theorem d_X12_light_35 : decode cX12_light 35 = .ok (.baload, 1) := by decide +kernel
theorem d_X12_light_36 : decode cX12_light 36 = .ok (.istore_n 3, 1) := by decide +kernel
theorem d_X12_light_37 : decode cX12_light 37 = .ok (.aload_n 0, 1) := by decide +kernel
theorem d_X12_light_38 : decode cX12_light 38 = .ok (.getfield 19, 3) := by decide +kernel
theorem d_X12_light_41 : decode cX12_light 41 = .ok (.iload_n 1, 1) := by decide +kernel
theorem d_X12_light_42 : decode cX12_light 42 = .ok (.iload_n 2, 1) := by decide +kernel
theorem d_X12_light_43 : decode cX12_light 43 = .ok (.bastore, 1) := by decide +kernel
theorem d_X12_light_44 : decode cX12_light 44 = .ok (.aload_n 0, 1) := by decide +kernel
theorem d_X12_light_45 : decode cX12_light 45 = .ok (.iload_n 3, 1) := by decide +kernel
theorem d_X12_light_46 : decode cX12_light 46 = .ok (.iload_n 2, 1) := by decide +kernel
theorem d_X12_light_47 : decode cX12_light 47 = .ok (.if_icmp .eq 7, 3) := by decide +kernel
theorem d_X12_light_50 : decode cX12_light 50 = .ok (.iconst 1, 1) := by decide +kernel
theorem d_X12_light_51 : decode cX12_light 51 = .ok (.goto 4, 3) := by decide +kernel
theorem d_X12_light_54 : decode cX12_light 54 = .ok (.iconst 0, 1) := by decide +kernel
theorem d_X12_light_55 : decode cX12_light 55 = .ok (.invokevirtual 191, 3) := by decide +kernel
theorem d_X12_light_58 : decode cX12_light 58 = .ok (.ireturn, 1) := by decide +kernel
theorem d_X12_heightOf_0 : decode cX12_heightOf 0 = .ok (.iload_n 1, 1) := by decide +kernel
theorem d_X12_heightOf_1 : decode cX12_heightOf 1 = .ok (.istore_n 2, 1) := by decide +kernel
theorem d_X12_heightOf_2 : decode cX12_heightOf 2 = .ok (.iload_n 2, 1) := by decide +kernel
theorem d_X12_heightOf_3 : decode cX12_heightOf 3 = .ok (.ifCond .lt 18, 3) := by decide +kernel
theorem d_X12_heightOf_6 : decode cX12_heightOf 6 = .ok (.aload_n 0, 1) := by decide +kernel
theorem d_X12_heightOf_7 : decode cX12_heightOf 7 = .ok (.getfield 32, 3) := by decide +kernel
theorem d_X12_heightOf_10 : decode cX12_heightOf 10 = .ok (.iload_n 2, 1) := by decide +kernel
theorem d_X12_heightOf_11 : decode cX12_heightOf 11 = .ok (.baload, 1) := by decide +kernel
theorem d_X12_heightOf_12 : decode cX12_heightOf 12 = .ok (.ifCond .ne 9, 3) := by decide +kernel
theorem d_X12_heightOf_15 : decode cX12_heightOf 15 = .ok (.iinc 2 (-1), 3) := by decide +kernel
theorem d_X12_heightOf_18 : decode cX12_heightOf 18 = .ok (.goto (-16), 3) := by decide +kernel
theorem d_X12_heightOf_21 : decode cX12_heightOf 21 = .ok (.iload_n 1, 1) := by decide +kernel
theorem d_X12_heightOf_22 : decode cX12_heightOf 22 = .ok (.istore_n 3, 1) := by decide +kernel
theorem d_X12_heightOf_23 : decode cX12_heightOf 23 = .ok (.iload_n 3, 1) := by decide +kernel
theorem d_X12_heightOf_24 : decode cX12_heightOf 24 = .ok (.bipush 100, 2) := by decide +kernel
theorem d_X12_heightOf_26 : decode cX12_heightOf 26 = .ok (.if_icmp .ge 18, 3) := by decide +kernel
theorem d_X12_heightOf_29 : decode cX12_heightOf 29 = .ok (.aload_n 0, 1) := by decide +kernel
theorem d_X12_heightOf_30 : decode cX12_heightOf 30 = .ok (.getfield 32, 3) := by decide +kernel
theorem d_X12_heightOf_33 : decode cX12_heightOf 33 = .ok (.iload_n 3, 1) := by decide +kernel
theorem d_X12_heightOf_34 : decode cX12_heightOf 34 = .ok (.baload, 1) := by decide +kernel
theorem d_X12_heightOf_35 : decode cX12_heightOf 35 = .ok (.ifCond .ne 9, 3) := by decide +kernel
theorem d_X12_heightOf_38 : decode cX12_heightOf 38 = .ok (.iinc 3 1, 3) := by decide +kernel
theorem d_X12_heightOf_41 : decode cX12_heightOf 41 = .ok (.goto (-18), 3) := by decide +kernel
theorem d_X12_heightOf_44 : decode cX12_heightOf 44 = .ok (.iload_n 2, 1) := by decide +kernel
theorem d_X12_heightOf_45 : decode cX12_heightOf 45 = .ok (.ifCond .lt 9, 3) := by decide +kernel
theorem d_X12_heightOf_48 : decode cX12_heightOf 48 = .ok (.iload_n 3, 1) := by decide +kernel
theorem d_X12_heightOf_49 : decode cX12_heightOf 49 = .ok (.bipush 100, 2) := by decide +kernel
theorem d_X12_heightOf_51 : decode cX12_heightOf 51 = .ok (.if_icmp .ne 33, 3) := by decide +kernel
theorem d_X12_heightOf_54 : decode cX12_heightOf 54 = .ok (.iload_n 2, 1) := by decide +kernel
theorem d_X12_heightOf_55 : decode cX12_heightOf 55 = .ok (.ifCond .lt 12, 3) := by decide +kernel
theorem d_X12_heightOf_58 : decode cX12_heightOf 58 = .ok (.aload_n 0, 1) := by decide +kernel
theorem d_X12_heightOf_59 : decode cX12_heightOf 59 = .ok (.getfield 29, 3) := by decide +kernel
theorem d_X12_heightOf_62 : decode cX12_heightOf 62 = .ok (.iload_n 2, 1) := by decide +kernel
theorem d_X12_heightOf_63 : decode cX12_heightOf 63 = .ok (.iaload, 1) := by decide +kernel
theorem d_X12_heightOf_64 : decode cX12_heightOf 64 = .ok (.goto 19, 3) := by decide +kernel
theorem d_X12_heightOf_67 : decode cX12_heightOf 67 = .ok (.iload_n 3, 1) := by decide +kernel
theorem d_X12_heightOf_68 : decode cX12_heightOf 68 = .ok (.bipush 100, 2) := by decide +kernel
theorem d_X12_heightOf_70 : decode cX12_heightOf 70 = .ok (.if_icmp .ge 12, 3) := by decide +kernel
theorem d_X12_heightOf_73 : decode cX12_heightOf 73 = .ok (.aload_n 0, 1) := by decide +kernel
theorem d_X12_heightOf_74 : decode cX12_heightOf 74 = .ok (.getfield 29, 3) := by decide +kernel
theorem d_X12_heightOf_77 : decode cX12_heightOf 77 = .ok (.iload_n 3, 1) := by decide +kernel
theorem d_X12_heightOf_78 : decode cX12_heightOf 78 = .ok (.iaload, 1) := by decide +kernel
theorem d_X12_heightOf_79 : decode cX12_heightOf 79 = .ok (.goto 4, 3) := by decide +kernel
theorem d_X12_heightOf_82 : decode cX12_heightOf 82 = .ok (.iconst 0, 1) := by decide +kernel
theorem d_X12_heightOf_83 : decode cX12_heightOf 83 = .ok (.ireturn, 1) := by decide +kernel
theorem d_X12_heightOf_84 : decode cX12_heightOf 84 = .ok (.iload_n 2, 1) := by decide +kernel
theorem d_X12_heightOf_85 : decode cX12_heightOf 85 = .ok (.iload_n 3, 1) := by decide +kernel
theorem d_X12_heightOf_86 : decode cX12_heightOf 86 = .ok (.if_icmp .ne 12, 3) := by decide +kernel
theorem d_X12_heightOf_89 : decode cX12_heightOf 89 = .ok (.aload_n 0, 1) := by decide +kernel
theorem d_X12_heightOf_90 : decode cX12_heightOf 90 = .ok (.getfield 29, 3) := by decide +kernel
theorem d_X12_heightOf_93 : decode cX12_heightOf 93 = .ok (.iload_n 2, 1) := by decide +kernel
theorem d_X12_heightOf_94 : decode cX12_heightOf 94 = .ok (.iaload, 1) := by decide +kernel
theorem d_X12_heightOf_95 : decode cX12_heightOf 95 = .ok (.goto 31, 3) := by decide +kernel
theorem d_X12_heightOf_98 : decode cX12_heightOf 98 = .ok (.aload_n 0, 1) := by decide +kernel
theorem d_X12_heightOf_99 : decode cX12_heightOf 99 = .ok (.getfield 29, 3) := by decide +kernel
theorem d_X12_heightOf_102 : decode cX12_heightOf 102 = .ok (.iload_n 2, 1) := by decide +kernel
theorem d_X12_heightOf_103 : decode cX12_heightOf 103 = .ok (.iaload, 1) := by decide +kernel
theorem d_X12_heightOf_104 : decode cX12_heightOf 104 = .ok (.aload_n 0, 1) := by decide +kernel
theorem d_X12_heightOf_105 : decode cX12_heightOf 105 = .ok (.getfield 29, 3) := by decide +kernel
theorem d_X12_heightOf_108 : decode cX12_heightOf 108 = .ok (.iload_n 3, 1) := by decide +kernel
theorem d_X12_heightOf_109 : decode cX12_heightOf 109 = .ok (.iaload, 1) := by decide +kernel
theorem d_X12_heightOf_110 : decode cX12_heightOf 110 = .ok (.aload_n 0, 1) := by decide +kernel
theorem d_X12_heightOf_111 : decode cX12_heightOf 111 = .ok (.getfield 29, 3) := by decide +kernel
theorem d_X12_heightOf_114 : decode cX12_heightOf 114 = .ok (.iload_n 2, 1) := by decide +kernel
theorem d_X12_heightOf_115 : decode cX12_heightOf 115 = .ok (.iaload, 1) := by decide +kernel
theorem d_X12_heightOf_116 : decode cX12_heightOf 116 = .ok (.isub, 1) := by decide +kernel
theorem d_X12_heightOf_117 : decode cX12_heightOf 117 = .ok (.iload_n 1, 1) := by decide +kernel
theorem d_X12_heightOf_118 : decode cX12_heightOf 118 = .ok (.iload_n 2, 1) := by decide +kernel
theorem d_X12_heightOf_119 : decode cX12_heightOf 119 = .ok (.isub, 1) := by decide +kernel
theorem d_X12_heightOf_120 : decode cX12_heightOf 120 = .ok (.imul, 1) := by decide +kernel
theorem d_X12_heightOf_121 : decode cX12_heightOf 121 = .ok (.iload_n 3, 1) := by decide +kernel
theorem d_X12_heightOf_122 : decode cX12_heightOf 122 = .ok (.iload_n 2, 1) := by decide +kernel
theorem d_X12_heightOf_123 : decode cX12_heightOf 123 = .ok (.isub, 1) := by decide +kernel
theorem d_X12_heightOf_124 : decode cX12_heightOf 124 = .ok (.idiv, 1) := by decide +kernel
theorem d_X12_heightOf_125 : decode cX12_heightOf 125 = .ok (.iadd, 1) := by decide +kernel
theorem d_X12_heightOf_126 : decode cX12_heightOf 126 = .ok (.ireturn, 1) := by decide +kernel
theorem d_X12_height_0 : decode cX12_height 0 = .ok (.iload_n 1, 1) := by decide +kernel
theorem d_X12_height_1 : decode cX12_height 1 = .ok (.invokestatic 194, 3) := by decide +kernel
theorem d_X12_height_4 : decode cX12_height 4 = .ok (.ifCond .eq 11, 3) := by decide +kernel
theorem d_X12_height_7 : decode cX12_height 7 = .ok (.aload_n 0, 1) := by decide +kernel
theorem d_X12_height_8 : decode cX12_height 8 = .ok (.iload_n 1, 1) := by decide +kernel
theorem d_X12_height_9 : decode cX12_height 9 = .ok (.invokevirtual 208, 3) := by decide +kernel
theorem d_X12_height_12 : decode cX12_height 12 = .ok (.goto 6, 3) := by decide +kernel
theorem d_X12_height_15 : decode cX12_height 15 = .ok (.sipush (-1000), 3) := by decide +kernel
theorem d_X12_height_18 : decode cX12_height 18 = .ok (.ireturn, 1) := by decide +kernel
theorem d_X12_shiftOf_0 : decode cX12_shiftOf 0 = .ok (.iload_n 2, 1) := by decide +kernel
theorem d_X12_shiftOf_1 : decode cX12_shiftOf 1 = .ok (.istore_n 3, 1) := by decide +kernel
theorem d_X12_shiftOf_2 : decode cX12_shiftOf 2 = .ok (.aload_n 0, 1) := by decide +kernel
theorem d_X12_shiftOf_3 : decode cX12_shiftOf 3 = .ok (.iload_n 1, 1) := by decide +kernel
theorem d_X12_shiftOf_4 : decode cX12_shiftOf 4 = .ok (.invokevirtual 205, 3) := by decide +kernel
theorem d_X12_shiftOf_7 : decode cX12_shiftOf 7 = .ok (.ifCond .eq 39, 3) := by decide +kernel
theorem d_X12_shiftOf_10 : decode cX12_shiftOf 10 = .ok (.iload_n 3, 1) := by decide +kernel
theorem d_X12_shiftOf_11 : decode cX12_shiftOf 11 = .ok (.ifCond .lt 35, 3) := by decide +kernel
theorem d_X12_shiftOf_14 : decode cX12_shiftOf 14 = .ok (.aload_n 0, 1) := by decide +kernel
theorem d_X12_shiftOf_15 : decode cX12_shiftOf 15 = .ok (.getfield 26, 3) := by decide +kernel
theorem d_X12_shiftOf_18 : decode cX12_shiftOf 18 = .ok (.bipush 100, 2) := by decide +kernel
theorem d_X12_shiftOf_20 : decode cX12_shiftOf 20 = .ok (.iload_n 1, 1) := by decide +kernel
theorem d_X12_shiftOf_21 : decode cX12_shiftOf 21 = .ok (.imul, 1) := by decide +kernel
theorem d_X12_shiftOf_22 : decode cX12_shiftOf 22 = .ok (.iload_n 3, 1) := by decide +kernel
theorem d_X12_shiftOf_23 : decode cX12_shiftOf 23 = .ok (.iadd, 1) := by decide +kernel
theorem d_X12_shiftOf_24 : decode cX12_shiftOf 24 = .ok (.baload, 1) := by decide +kernel
theorem d_X12_shiftOf_25 : decode cX12_shiftOf 25 = .ok (.ifCond .eq 15, 3) := by decide +kernel
theorem d_X12_shiftOf_28 : decode cX12_shiftOf 28 = .ok (.aload_n 0, 1) := by decide +kernel
theorem d_X12_shiftOf_29 : decode cX12_shiftOf 29 = .ok (.getfield 23, 3) := by decide +kernel
theorem d_X12_shiftOf_32 : decode cX12_shiftOf 32 = .ok (.bipush 100, 2) := by decide +kernel
theorem d_X12_shiftOf_34 : decode cX12_shiftOf 34 = .ok (.iload_n 1, 1) := by decide +kernel
theorem d_X12_shiftOf_35 : decode cX12_shiftOf 35 = .ok (.imul, 1) := by decide +kernel
theorem d_X12_shiftOf_36 : decode cX12_shiftOf 36 = .ok (.iload_n 3, 1) := by decide +kernel
theorem d_X12_shiftOf_37 : decode cX12_shiftOf 37 = .ok (.iadd, 1) := by decide +kernel
theorem d_X12_shiftOf_38 : decode cX12_shiftOf 38 = .ok (.iaload, 1) := by decide +kernel
theorem d_X12_shiftOf_39 : decode cX12_shiftOf 39 = .ok (.ireturn, 1) := by decide +kernel
theorem d_X12_shiftOf_40 : decode cX12_shiftOf 40 = .ok (.iinc 3 (-1), 3) := by decide +kernel
theorem d_X12_shiftOf_43 : decode cX12_shiftOf 43 = .ok (.goto (-41), 3) := by decide +kernel
theorem d_X12_shiftOf_46 : decode cX12_shiftOf 46 = .ok (.iconst 0, 1) := by decide +kernel
theorem d_X12_shiftOf_47 : decode cX12_shiftOf 47 = .ok (.ireturn, 1) := by decide +kernel
theorem d_X12_waterOf_0 : decode cX12_waterOf 0 = .ok (.aload_n 0, 1) := by decide +kernel
theorem d_X12_waterOf_1 : decode cX12_waterOf 1 = .ok (.getfield 7, 3) := by decide +kernel
theorem d_X12_waterOf_4 : decode cX12_waterOf 4 = .ok (.iload_n 1, 1) := by decide +kernel
theorem d_X12_waterOf_5 : decode cX12_waterOf 5 = .ok (.iaload, 1) := by decide +kernel
theorem d_X12_waterOf_6 : decode cX12_waterOf 6 = .ok (.iconst 4, 1) := by decide +kernel
theorem d_X12_waterOf_7 : decode cX12_waterOf 7 = .ok (.if_icmp .ne 10, 3) := by decide +kernel
theorem d_X12_waterOf_10 : decode cX12_waterOf 10 = .ok (.aload_n 0, 1) := by decide +kernel
theorem d_X12_waterOf_11 : decode cX12_waterOf 11 = .ok (.getfield 16, 3) := by decide +kernel
theorem d_X12_waterOf_14 : decode cX12_waterOf 14 = .ok (.iload_n 1, 1) := by decide +kernel
theorem d_X12_waterOf_15 : decode cX12_waterOf 15 = .ok (.iaload, 1) := by decide +kernel
theorem d_X12_waterOf_16 : decode cX12_waterOf 16 = .ok (.ireturn, 1) := by decide +kernel
theorem d_X12_waterOf_17 : decode cX12_waterOf 17 = .ok (.aload_n 0, 1) := by decide +kernel
theorem d_X12_waterOf_18 : decode cX12_waterOf 18 = .ok (.getfield 7, 3) := by decide +kernel
theorem d_X12_waterOf_21 : decode cX12_waterOf 21 = .ok (.iload_n 1, 1) := by decide +kernel
theorem d_X12_waterOf_22 : decode cX12_waterOf 22 = .ok (.iaload, 1) := by decide +kernel
theorem d_X12_waterOf_23 : decode cX12_waterOf 23 = .ok (.iconst 5, 1) := by decide +kernel
theorem d_X12_waterOf_24 : decode cX12_waterOf 24 = .ok (.if_icmp .ne 16, 3) := by decide +kernel
theorem d_X12_waterOf_27 : decode cX12_waterOf 27 = .ok (.aload_n 0, 1) := by decide +kernel
theorem d_X12_waterOf_28 : decode cX12_waterOf 28 = .ok (.getfield 35, 3) := by decide +kernel
theorem d_X12_waterOf_31 : decode cX12_waterOf 31 = .ok (.iload_n 2, 1) := by decide +kernel
theorem d_X12_waterOf_32 : decode cX12_waterOf 32 = .ok (.baload, 1) := by decide +kernel
theorem d_X12_waterOf_33 : decode cX12_waterOf 33 = .ok (.ifCond .eq 7, 3) := by decide +kernel
theorem d_X12_waterOf_36 : decode cX12_waterOf 36 = .ok (.iconst 0, 1) := by decide +kernel
theorem d_X12_waterOf_37 : decode cX12_waterOf 37 = .ok (.goto 22, 3) := by decide +kernel
theorem d_X12_waterOf_40 : decode cX12_waterOf 40 = .ok (.aload_n 0, 1) := by decide +kernel
theorem d_X12_waterOf_41 : decode cX12_waterOf 41 = .ok (.getfield 16, 3) := by decide +kernel
theorem d_X12_waterOf_44 : decode cX12_waterOf 44 = .ok (.iload_n 1, 1) := by decide +kernel
theorem d_X12_waterOf_45 : decode cX12_waterOf 45 = .ok (.iaload, 1) := by decide +kernel
theorem d_X12_waterOf_46 : decode cX12_waterOf 46 = .ok (.aload_n 0, 1) := by decide +kernel
theorem d_X12_waterOf_47 : decode cX12_waterOf 47 = .ok (.iload_n 2, 1) := by decide +kernel
theorem d_X12_waterOf_48 : decode cX12_waterOf 48 = .ok (.invokevirtual 208, 3) := by decide +kernel
theorem d_X12_waterOf_51 : decode cX12_waterOf 51 = .ok (.iadd, 1) := by decide +kernel
theorem d_X12_waterOf_52 : decode cX12_waterOf 52 = .ok (.aload_n 0, 1) := by decide +kernel
theorem d_X12_waterOf_53 : decode cX12_waterOf 53 = .ok (.iload_n 1, 1) := by decide +kernel
theorem d_X12_waterOf_54 : decode cX12_waterOf 54 = .ok (.iload_n 2, 1) := by decide +kernel
theorem d_X12_waterOf_55 : decode cX12_waterOf 55 = .ok (.invokevirtual 211, 3) := by decide +kernel
theorem d_X12_waterOf_58 : decode cX12_waterOf 58 = .ok (.isub, 1) := by decide +kernel
theorem d_X12_waterOf_59 : decode cX12_waterOf 59 = .ok (.ireturn, 1) := by decide +kernel
theorem d_X12_water_0 : decode cX12_water 0 = .ok (.aload_n 0, 1) := by decide +kernel
theorem d_X12_water_1 : decode cX12_water 1 = .ok (.iload_n 1, 1) := by decide +kernel
theorem d_X12_water_2 : decode cX12_water 2 = .ok (.invokevirtual 202, 3) := by decide +kernel
theorem d_X12_water_5 : decode cX12_water 5 = .ok (.ifCond .eq 19, 3) := by decide +kernel
theorem d_X12_water_8 : decode cX12_water 8 = .ok (.iload_n 2, 1) := by decide +kernel
theorem d_X12_water_9 : decode cX12_water 9 = .ok (.invokestatic 194, 3) := by decide +kernel
theorem d_X12_water_12 : decode cX12_water 12 = .ok (.ifCond .eq 12, 3) := by decide +kernel
theorem d_X12_water_15 : decode cX12_water 15 = .ok (.aload_n 0, 1) := by decide +kernel
theorem d_X12_water_16 : decode cX12_water 16 = .ok (.iload_n 1, 1) := by decide +kernel
theorem d_X12_water_17 : decode cX12_water 17 = .ok (.iload_n 2, 1) := by decide +kernel
theorem d_X12_water_18 : decode cX12_water 18 = .ok (.invokevirtual 215, 3) := by decide +kernel
theorem d_X12_water_21 : decode cX12_water 21 = .ok (.goto 6, 3) := by decide +kernel
theorem d_X12_water_24 : decode cX12_water 24 = .ok (.sipush (-1000), 3) := by decide +kernel
theorem d_X12_water_27 : decode cX12_water 27 = .ok (.ireturn, 1) := by decide +kernel
theorem d_X12_longOf_0 : decode cX12_longOf 0 = .ok (.aload_n 0, 1) := by decide +kernel
theorem d_X12_longOf_1 : decode cX12_longOf 1 = .ok (.getfield 13, 3) := by decide +kernel
theorem d_X12_longOf_4 : decode cX12_longOf 4 = .ok (.iload_n 1, 1) := by decide +kernel
theorem d_X12_longOf_5 : decode cX12_longOf 5 = .ok (.iaload, 1) := by decide +kernel
theorem d_X12_longOf_6 : decode cX12_longOf 6 = .ok (.istore_n 3, 1) := by decide +kernel
theorem d_X12_longOf_7 : decode cX12_longOf 7 = .ok (.aload_n 0, 1) := by decide +kernel
theorem d_X12_longOf_8 : decode cX12_longOf 8 = .ok (.getfield 7, 3) := by decide +kernel
theorem d_X12_longOf_11 : decode cX12_longOf 11 = .ok (.iload_n 1, 1) := by decide +kernel
theorem d_X12_longOf_12 : decode cX12_longOf 12 = .ok (.iaload, 1) := by decide +kernel
theorem d_X12_longOf_13 : decode cX12_longOf 13 = .ok (.iconst 2, 1) := by decide +kernel
theorem d_X12_longOf_14 : decode cX12_longOf 14 = .ok (.if_icmp .ne 22, 3) := by decide +kernel
theorem d_X12_longOf_17 : decode cX12_longOf 17 = .ok (.aload_n 0, 1) := by decide +kernel
theorem d_X12_longOf_18 : decode cX12_longOf 18 = .ok (.aload_n 0, 1) := by decide +kernel
theorem d_X12_longOf_19 : decode cX12_longOf 19 = .ok (.invokevirtual 218, 3) := by decide +kernel
theorem d_X12_longOf_22 : decode cX12_longOf 22 = .ok (.invokevirtual 208, 3) := by decide +kernel
theorem d_X12_longOf_25 : decode cX12_longOf 25 = .ok (.bipush 20, 2) := by decide +kernel
theorem d_X12_longOf_27 : decode cX12_longOf 27 = .ok (.if_icmp .lt 9, 3) := by decide +kernel
theorem d_X12_longOf_30 : decode cX12_longOf 30 = .ok (.iload_n 3, 1) := by decide +kernel
theorem d_X12_longOf_31 : decode cX12_longOf 31 = .ok (.iconst 1, 1) := by decide +kernel
theorem d_X12_longOf_32 : decode cX12_longOf 32 = .ok (.iadd, 1) := by decide +kernel
theorem d_X12_longOf_33 : decode cX12_longOf 33 = .ok (.iconst 2, 1) := by decide +kernel
theorem d_X12_longOf_34 : decode cX12_longOf 34 = .ok (.idiv, 1) := by decide +kernel
theorem d_X12_longOf_35 : decode cX12_longOf 35 = .ok (.istore_n 3, 1) := by decide +kernel
theorem d_X12_longOf_36 : decode cX12_longOf 36 = .ok (.iload_n 3, 1) := by decide +kernel
theorem d_X12_longOf_37 : decode cX12_longOf 37 = .ok (.aload_n 0, 1) := by decide +kernel
theorem d_X12_longOf_38 : decode cX12_longOf 38 = .ok (.getfield 7, 3) := by decide +kernel
theorem d_X12_longOf_41 : decode cX12_longOf 41 = .ok (.iload_n 1, 1) := by decide +kernel
theorem d_X12_longOf_42 : decode cX12_longOf 42 = .ok (.iaload, 1) := by decide +kernel
theorem d_X12_longOf_43 : decode cX12_longOf 43 = .ok (.iconst 4, 1) := by decide +kernel
theorem d_X12_longOf_44 : decode cX12_longOf 44 = .ok (.if_icmp .ne 7, 3) := by decide +kernel
theorem d_X12_longOf_47 : decode cX12_longOf 47 = .ok (.iconst 4, 1) := by decide +kernel
theorem d_X12_longOf_48 : decode cX12_longOf 48 = .ok (.goto 4, 3) := by decide +kernel
theorem d_X12_longOf_51 : decode cX12_longOf 51 = .ok (.iconst 0, 1) := by decide +kernel
theorem d_X12_longOf_52 : decode cX12_longOf 52 = .ok (.iadd, 1) := by decide +kernel
theorem d_X12_longOf_53 : decode cX12_longOf 53 = .ok (.aload_n 0, 1) := by decide +kernel
theorem d_X12_longOf_54 : decode cX12_longOf 54 = .ok (.getfield 7, 3) := by decide +kernel
theorem d_X12_longOf_57 : decode cX12_longOf 57 = .ok (.iload_n 1, 1) := by decide +kernel
theorem d_X12_longOf_58 : decode cX12_longOf 58 = .ok (.iaload, 1) := by decide +kernel
theorem d_X12_longOf_59 : decode cX12_longOf 59 = .ok (.iconst 3, 1) := by decide +kernel
theorem d_X12_longOf_60 : decode cX12_longOf 60 = .ok (.if_icmp .ne 21, 3) := by decide +kernel
theorem d_X12_longOf_63 : decode cX12_longOf 63 = .ok (.iload_n 2, 1) := by decide +kernel
theorem d_X12_longOf_64 : decode cX12_longOf 64 = .ok (.ifCond .eq 17, 3) := by decide +kernel
theorem d_X12_longOf_67 : decode cX12_longOf 67 = .ok (.aload_n 0, 1) := by decide +kernel
theorem d_X12_longOf_68 : decode cX12_longOf 68 = .ok (.getfield 19, 3) := by decide +kernel
theorem d_X12_longOf_71 : decode cX12_longOf 71 = .ok (.iload_n 1, 1) := by decide +kernel
theorem d_X12_longOf_72 : decode cX12_longOf 72 = .ok (.baload, 1) := by decide +kernel
theorem d_X12_longOf_73 : decode cX12_longOf 73 = .ok (.ifCond .ne 8, 3) := by decide +kernel
theorem d_X12_longOf_76 : decode cX12_longOf 76 = .ok (.bipush 8, 2) := by decide +kernel
theorem d_X12_longOf_78 : decode cX12_longOf 78 = .ok (.goto 4, 3) := by decide +kernel
theorem d_X12_longOf_81 : decode cX12_longOf 81 = .ok (.iconst 0, 1) := by decide +kernel
theorem d_X12_longOf_82 : decode cX12_longOf 82 = .ok (.iadd, 1) := by decide +kernel
theorem d_X12_longOf_83 : decode cX12_longOf 83 = .ok (.ireturn, 1) := by decide +kernel
theorem d_X12_stretchTold_0 : decode cX12_stretchTold 0 = .ok (.aload_n 0, 1) := by decide +kernel
theorem d_X12_stretchTold_1 : decode cX12_stretchTold 1 = .ok (.iload_n 1, 1) := by decide +kernel
theorem d_X12_stretchTold_2 : decode cX12_stretchTold 2 = .ok (.invokevirtual 202, 3) := by decide +kernel
theorem d_X12_stretchTold_5 : decode cX12_stretchTold 5 = .ok (.ifCond .ne 7, 3) := by decide +kernel
theorem d_X12_stretchTold_8 : decode cX12_stretchTold 8 = .ok (.sipush (-1000), 3) := by decide +kernel
theorem d_X12_stretchTold_11 : decode cX12_stretchTold 11 = .ok (.ireturn, 1) := by decide +kernel
theorem d_X12_stretchTold_12 : decode cX12_stretchTold 12 = .ok (.iload_n 2, 1) := by decide +kernel
theorem d_X12_stretchTold_13 : decode cX12_stretchTold 13 = .ok (.tableswitch 95 0 5 #[39, 46, 53, 60, 75, 85], 39) := by decide +kernel
theorem d_X12_stretchTold_52 : decode cX12_stretchTold 52 = .ok (.aload_n 0, 1) := by decide +kernel
theorem d_X12_stretchTold_53 : decode cX12_stretchTold 53 = .ok (.getfield 7, 3) := by decide +kernel
theorem d_X12_stretchTold_56 : decode cX12_stretchTold 56 = .ok (.iload_n 1, 1) := by decide +kernel
theorem d_X12_stretchTold_57 : decode cX12_stretchTold 57 = .ok (.iaload, 1) := by decide +kernel
theorem d_X12_stretchTold_58 : decode cX12_stretchTold 58 = .ok (.ireturn, 1) := by decide +kernel
theorem d_X12_stretchTold_59 : decode cX12_stretchTold 59 = .ok (.aload_n 0, 1) := by decide +kernel
theorem d_X12_stretchTold_60 : decode cX12_stretchTold 60 = .ok (.getfield 13, 3) := by decide +kernel
theorem d_X12_stretchTold_63 : decode cX12_stretchTold 63 = .ok (.iload_n 1, 1) := by decide +kernel
theorem d_X12_stretchTold_64 : decode cX12_stretchTold 64 = .ok (.iaload, 1) := by decide +kernel
theorem d_X12_stretchTold_65 : decode cX12_stretchTold 65 = .ok (.ireturn, 1) := by decide +kernel
theorem d_X12_stretchTold_66 : decode cX12_stretchTold 66 = .ok (.aload_n 0, 1) := by decide +kernel
theorem d_X12_stretchTold_67 : decode cX12_stretchTold 67 = .ok (.getfield 16, 3) := by decide +kernel
theorem d_X12_stretchTold_70 : decode cX12_stretchTold 70 = .ok (.iload_n 1, 1) := by decide +kernel
theorem d_X12_stretchTold_71 : decode cX12_stretchTold 71 = .ok (.iaload, 1) := by decide +kernel
theorem d_X12_stretchTold_72 : decode cX12_stretchTold 72 = .ok (.ireturn, 1) := by decide +kernel
theorem d_X12_stretchTold_73 : decode cX12_stretchTold 73 = .ok (.aload_n 0, 1) := by decide +kernel
theorem d_X12_stretchTold_74 : decode cX12_stretchTold 74 = .ok (.getfield 19, 3) := by decide +kernel
theorem d_X12_stretchTold_77 : decode cX12_stretchTold 77 = .ok (.iload_n 1, 1) := by decide +kernel
theorem d_X12_stretchTold_78 : decode cX12_stretchTold 78 = .ok (.baload, 1) := by decide +kernel
theorem d_X12_stretchTold_79 : decode cX12_stretchTold 79 = .ok (.ifCond .eq 7, 3) := by decide +kernel
theorem d_X12_stretchTold_82 : decode cX12_stretchTold 82 = .ok (.iconst 1, 1) := by decide +kernel
theorem d_X12_stretchTold_83 : decode cX12_stretchTold 83 = .ok (.goto 4, 3) := by decide +kernel
theorem d_X12_stretchTold_86 : decode cX12_stretchTold 86 = .ok (.iconst 0, 1) := by decide +kernel
theorem d_X12_stretchTold_87 : decode cX12_stretchTold 87 = .ok (.ireturn, 1) := by decide +kernel
theorem d_X12_stretchTold_88 : decode cX12_stretchTold 88 = .ok (.aload_n 0, 1) := by decide +kernel
theorem d_X12_stretchTold_89 : decode cX12_stretchTold 89 = .ok (.iload_n 1, 1) := by decide +kernel
theorem d_X12_stretchTold_90 : decode cX12_stretchTold 90 = .ok (.aload_n 0, 1) := by decide +kernel
theorem d_X12_stretchTold_91 : decode cX12_stretchTold 91 = .ok (.invokevirtual 218, 3) := by decide +kernel
theorem d_X12_stretchTold_94 : decode cX12_stretchTold 94 = .ok (.invokevirtual 211, 3) := by decide +kernel
theorem d_X12_stretchTold_97 : decode cX12_stretchTold 97 = .ok (.ireturn, 1) := by decide +kernel
theorem d_X12_stretchTold_98 : decode cX12_stretchTold 98 = .ok (.aload_n 0, 1) := by decide +kernel
theorem d_X12_stretchTold_99 : decode cX12_stretchTold 99 = .ok (.iload_n 1, 1) := by decide +kernel
theorem d_X12_stretchTold_100 : decode cX12_stretchTold 100 = .ok (.aload_n 0, 1) := by decide +kernel
theorem d_X12_stretchTold_101 : decode cX12_stretchTold 101 = .ok (.invokevirtual 221, 3) := by decide +kernel
theorem d_X12_stretchTold_104 : decode cX12_stretchTold 104 = .ok (.invokevirtual 225, 3) := by decide +kernel
theorem d_X12_stretchTold_107 : decode cX12_stretchTold 107 = .ok (.ireturn, 1) := by decide +kernel
theorem d_X12_stretchTold_108 : decode cX12_stretchTold 108 = .ok (.sipush (-1000), 3) := by decide +kernel
theorem d_X12_stretchTold_111 : decode cX12_stretchTold 111 = .ok (.ireturn, 1) := by decide +kernel
theorem d_X12_boat_0 : decode cX12_boat 0 = .ok (.aload_n 0, 1) := by decide +kernel
theorem d_X12_boat_1 : decode cX12_boat 1 = .ok (.iload_n 1, 1) := by decide +kernel
theorem d_X12_boat_2 : decode cX12_boat 2 = .ok (.invokevirtual 229, 3) := by decide +kernel
theorem d_X12_boat_5 : decode cX12_boat 5 = .ok (.ifCond .eq 35, 3) := by decide +kernel
theorem d_X12_boat_8 : decode cX12_boat 8 = .ok (.iload_n 2, 1) := by decide +kernel
theorem d_X12_boat_9 : decode cX12_boat 9 = .ok (.iconst 1, 1) := by decide +kernel
theorem d_X12_boat_10 : decode cX12_boat 10 = .ok (.bipush 30, 2) := by decide +kernel
theorem d_X12_boat_12 : decode cX12_boat 12 = .ok (.invokestatic 174, 3) := by decide +kernel
theorem d_X12_boat_15 : decode cX12_boat 15 = .ok (.ifCond .eq 25, 3) := by decide +kernel
theorem d_X12_boat_18 : decode cX12_boat 18 = .ok (.iload_n 3, 1) := by decide +kernel
theorem d_X12_boat_19 : decode cX12_boat 19 = .ok (.iconst 1, 1) := by decide +kernel
theorem d_X12_boat_20 : decode cX12_boat 20 = .ok (.sipush 999, 3) := by decide +kernel
theorem d_X12_boat_23 : decode cX12_boat 23 = .ok (.invokestatic 174, 3) := by decide +kernel
theorem d_X12_boat_26 : decode cX12_boat 26 = .ok (.ifCond .eq 14, 3) := by decide +kernel
theorem d_X12_boat_29 : decode cX12_boat 29 = .ok (.iload 4, 2) := by decide +kernel
theorem d_X12_boat_31 : decode cX12_boat 31 = .ok (.iconst 1, 1) := by decide +kernel
theorem d_X12_boat_32 : decode cX12_boat 32 = .ok (.bipush 99, 2) := by decide +kernel
theorem d_X12_boat_34 : decode cX12_boat 34 = .ok (.invokestatic 174, 3) := by decide +kernel
theorem d_X12_boat_37 : decode cX12_boat 37 = .ok (.ifCond .ne 9, 3) := by decide +kernel
theorem d_X12_boat_40 : decode cX12_boat 40 = .ok (.aload_n 0, 1) := by decide +kernel
theorem d_X12_boat_41 : decode cX12_boat 41 = .ok (.iconst 1, 1) := by decide +kernel
theorem d_X12_boat_42 : decode cX12_boat 42 = .ok (.invokevirtual 187, 3) := by decide +kernel
theorem d_X12_boat_45 : decode cX12_boat 45 = .ok (.ireturn, 1) := by decide +kernel
theorem d_X12_boat_46 : decode cX12_boat 46 = .ok (.aload_n 0, 1) := by decide +kernel
theorem d_X12_boat_47 : decode cX12_boat 47 = .ok (.getfield 178, 3) := by decide +kernel
theorem d_X12_boat_50 : decode cX12_boat 50 = .ok (.iconst 5, 1) := by decide +kernel
theorem d_X12_boat_51 : decode cX12_boat 51 = .ok (.if_icmp .ne 9, 3) := by decide +kernel
theorem d_X12_boat_54 : decode cX12_boat 54 = .ok (.aload_n 0, 1) := by decide +kernel
theorem d_X12_boat_55 : decode cX12_boat 55 = .ok (.iconst 2, 1) := by decide +kernel
theorem d_X12_boat_56 : decode cX12_boat 56 = .ok (.invokevirtual 187, 3) := by decide +kernel
theorem d_X12_boat_59 : decode cX12_boat 59 = .ok (.ireturn, 1) := by decide +kernel
theorem d_X12_boat_60 : decode cX12_boat 60 = .ok (.aload_n 0, 1) := by decide +kernel
theorem d_X12_boat_61 : decode cX12_boat 61 = .ok (.getfield 38, 3) := by decide +kernel
theorem d_X12_boat_64 : decode cX12_boat 64 = .ok (.aload_n 0, 1) := by decide +kernel
theorem d_X12_boat_65 : decode cX12_boat 65 = .ok (.getfield 178, 3) := by decide +kernel
theorem d_X12_boat_68 : decode cX12_boat 68 = .ok (.iload_n 2, 1) := by decide +kernel
theorem d_X12_boat_69 : decode cX12_boat 69 = .ok (.iastore, 1) := by decide +kernel
theorem d_X12_boat_70 : decode cX12_boat 70 = .ok (.aload_n 0, 1) := by decide +kernel
theorem d_X12_boat_71 : decode cX12_boat 71 = .ok (.getfield 41, 3) := by decide +kernel
theorem d_X12_boat_74 : decode cX12_boat 74 = .ok (.aload_n 0, 1) := by decide +kernel
theorem d_X12_boat_75 : decode cX12_boat 75 = .ok (.getfield 178, 3) := by decide +kernel
theorem d_X12_boat_78 : decode cX12_boat 78 = .ok (.iload_n 3, 1) := by decide +kernel
theorem d_X12_boat_79 : decode cX12_boat 79 = .ok (.iastore, 1) := by decide +kernel
theorem d_X12_boat_80 : decode cX12_boat 80 = .ok (.aload_n 0, 1) := by decide +kernel
theorem d_X12_boat_81 : decode cX12_boat 81 = .ok (.getfield 44, 3) := by decide +kernel
theorem d_X12_boat_84 : decode cX12_boat 84 = .ok (.aload_n 0, 1) := by decide +kernel
theorem d_X12_boat_85 : decode cX12_boat 85 = .ok (.getfield 178, 3) := by decide +kernel
theorem d_X12_boat_88 : decode cX12_boat 88 = .ok (.iload 4, 2) := by decide +kernel
theorem d_X12_boat_90 : decode cX12_boat 90 = .ok (.iastore, 1) := by decide +kernel
theorem d_X12_boat_91 : decode cX12_boat 91 = .ok (.aload_n 0, 1) := by decide +kernel
theorem d_X12_boat_92 : decode cX12_boat 92 = .ok (.getfield 47, 3) := by decide +kernel
theorem d_X12_boat_95 : decode cX12_boat 95 = .ok (.aload_n 0, 1) := by decide +kernel
theorem d_X12_boat_96 : decode cX12_boat 96 = .ok (.getfield 178, 3) := by decide +kernel
theorem d_X12_boat_99 : decode cX12_boat 99 = .ok (.iconst 0, 1) := by decide +kernel
theorem d_X12_boat_100 : decode cX12_boat 100 = .ok (.iastore, 1) := by decide +kernel
theorem d_X12_boat_101 : decode cX12_boat 101 = .ok (.aload_n 0, 1) := by decide +kernel
theorem d_X12_boat_102 : decode cX12_boat 102 = .ok (.getfield 50, 3) := by decide +kernel
theorem d_X12_boat_105 : decode cX12_boat 105 = .ok (.aload_n 0, 1) := by decide +kernel
theorem d_X12_boat_106 : decode cX12_boat 106 = .ok (.getfield 178, 3) := by decide +kernel
theorem d_X12_boat_109 : decode cX12_boat 109 = .ok (.iload_n 1, 1) := by decide +kernel
theorem d_X12_boat_110 : decode cX12_boat 110 = .ok (.iastore, 1) := by decide +kernel
theorem d_X12_boat_111 : decode cX12_boat 111 = .ok (.aload_n 0, 1) := by decide +kernel
theorem d_X12_boat_112 : decode cX12_boat 112 = .ok (.getfield 53, 3) := by decide +kernel
theorem d_X12_boat_115 : decode cX12_boat 115 = .ok (.aload_n 0, 1) := by decide +kernel
theorem d_X12_boat_116 : decode cX12_boat 116 = .ok (.getfield 178, 3) := by decide +kernel
theorem d_X12_boat_119 : decode cX12_boat 119 = .ok (.iload_n 1, 1) := by decide +kernel
theorem d_X12_boat_120 : decode cX12_boat 120 = .ok (.iastore, 1) := by decide +kernel
theorem d_X12_boat_121 : decode cX12_boat 121 = .ok (.aload_n 0, 1) := by decide +kernel
theorem d_X12_boat_122 : decode cX12_boat 122 = .ok (.getfield 56, 3) := by decide +kernel
theorem d_X12_boat_125 : decode cX12_boat 125 = .ok (.aload_n 0, 1) := by decide +kernel
theorem d_X12_boat_126 : decode cX12_boat 126 = .ok (.getfield 178, 3) := by decide +kernel
theorem d_X12_boat_129 : decode cX12_boat 129 = .ok (.iconst 0, 1) := by decide +kernel
theorem d_X12_boat_130 : decode cX12_boat 130 = .ok (.iastore, 1) := by decide +kernel
theorem d_X12_boat_131 : decode cX12_boat 131 = .ok (.aload_n 0, 1) := by decide +kernel
theorem d_X12_boat_132 : decode cX12_boat 132 = .ok (.getfield 59, 3) := by decide +kernel
theorem d_X12_boat_135 : decode cX12_boat 135 = .ok (.aload_n 0, 1) := by decide +kernel
theorem d_X12_boat_136 : decode cX12_boat 136 = .ok (.getfield 178, 3) := by decide +kernel
theorem d_X12_boat_139 : decode cX12_boat 139 = .ok (.iload 4, 2) := by decide +kernel
theorem d_X12_boat_141 : decode cX12_boat 141 = .ok (.iastore, 1) := by decide +kernel
theorem d_X12_boat_142 : decode cX12_boat 142 = .ok (.iconst 0, 1) := by decide +kernel
theorem d_X12_boat_143 : decode cX12_boat 143 = .ok (.istore 5, 2) := by decide +kernel
theorem d_X12_boat_145 : decode cX12_boat 145 = .ok (.iload 5, 2) := by decide +kernel
theorem d_X12_boat_147 : decode cX12_boat 147 = .ok (.bipush 10, 2) := by decide +kernel
theorem d_X12_boat_149 : decode cX12_boat 149 = .ok (.if_icmp .ge 25, 3) := by decide +kernel
theorem d_X12_boat_152 : decode cX12_boat 152 = .ok (.aload_n 0, 1) := by decide +kernel
theorem d_X12_boat_153 : decode cX12_boat 153 = .ok (.getfield 65, 3) := by decide +kernel
theorem d_X12_boat_156 : decode cX12_boat 156 = .ok (.bipush 10, 2) := by decide +kernel
theorem d_X12_boat_158 : decode cX12_boat 158 = .ok (.aload_n 0, 1) := by decide +kernel
theorem d_X12_boat_159 : decode cX12_boat 159 = .ok (.getfield 178, 3) := by decide +kernel
theorem d_X12_boat_162 : decode cX12_boat 162 = .ok (.imul, 1) := by decide +kernel
theorem d_X12_boat_163 : decode cX12_boat 163 = .ok (.iload 5, 2) := by decide +kernel
theorem d_X12_boat_165 : decode cX12_boat 165 = .ok (.iadd, 1) := by decide +kernel
theorem d_X12_boat_166 : decode cX12_boat 166 = .ok (.iconst (-1), 1) := by decide +kernel
theorem d_X12_boat_167 : decode cX12_boat 167 = .ok (.iastore, 1) := by decide +kernel
theorem d_X12_boat_168 : decode cX12_boat 168 = .ok (.iinc 5 1, 3) := by decide +kernel
theorem d_X12_boat_171 : decode cX12_boat 171 = .ok (.goto (-26), 3) := by decide +kernel
theorem d_X12_boat_174 : decode cX12_boat 174 = .ok (.aload_n 0, 1) := by decide +kernel
theorem d_X12_boat_175 : decode cX12_boat 175 = .ok (.dup, 1) := by decide +kernel
theorem d_X12_boat_176 : decode cX12_boat 176 = .ok (.getfield 178, 3) := by decide +kernel
theorem d_X12_boat_179 : decode cX12_boat 179 = .ok (.iconst 1, 1) := by decide +kernel
theorem d_X12_boat_180 : decode cX12_boat 180 = .ok (.iadd, 1) := by decide +kernel
theorem d_X12_boat_181 : decode cX12_boat 181 = .ok (.putfield 178, 3) := by decide +kernel
theorem d_X12_boat_184 : decode cX12_boat 184 = .ok (.aload_n 0, 1) := by decide +kernel
theorem d_X12_boat_185 : decode cX12_boat 185 = .ok (.aload_n 0, 1) := by decide +kernel
theorem d_X12_boat_186 : decode cX12_boat 186 = .ok (.getfield 178, 3) := by decide +kernel
theorem d_X12_boat_189 : decode cX12_boat 189 = .ok (.iconst 1, 1) := by decide +kernel
theorem d_X12_boat_190 : decode cX12_boat 190 = .ok (.isub, 1) := by decide +kernel
theorem d_X12_boat_191 : decode cX12_boat 191 = .ok (.invokevirtual 191, 3) := by decide +kernel
theorem d_X12_boat_194 : decode cX12_boat 194 = .ok (.ireturn, 1) := by decide +kernel
theorem d_X12_aboard_0 : decode cX12_aboard 0 = .ok (.iconst 0, 1) := by decide +kernel
theorem d_X12_aboard_1 : decode cX12_aboard 1 = .ok (.istore_n 2, 1) := by decide +kernel
theorem d_X12_aboard_2 : decode cX12_aboard 2 = .ok (.iconst 0, 1) := by decide +kernel
theorem d_X12_aboard_3 : decode cX12_aboard 3 = .ok (.istore_n 3, 1) := by decide +kernel
theorem d_X12_aboard_4 : decode cX12_aboard 4 = .ok (.iload_n 3, 1) := by decide +kernel
theorem d_X12_aboard_5 : decode cX12_aboard 5 = .ok (.aload_n 0, 1) := by decide +kernel
theorem d_X12_aboard_6 : decode cX12_aboard 6 = .ok (.getfield 181, 3) := by decide +kernel
theorem d_X12_aboard_9 : decode cX12_aboard 9 = .ok (.if_icmp .ge 42, 3) := by decide +kernel
theorem d_X12_aboard_12 : decode cX12_aboard 12 = .ok (.iload_n 2, 1) := by decide +kernel
theorem d_X12_aboard_13 : decode cX12_aboard 13 = .ok (.aload_n 0, 1) := by decide +kernel
theorem d_X12_aboard_14 : decode cX12_aboard 14 = .ok (.getfield 80, 3) := by decide +kernel
theorem d_X12_aboard_17 : decode cX12_aboard 17 = .ok (.iload_n 3, 1) := by decide +kernel
theorem d_X12_aboard_18 : decode cX12_aboard 18 = .ok (.iaload, 1) := by decide +kernel
theorem d_X12_aboard_19 : decode cX12_aboard 19 = .ok (.iconst 1, 1) := by decide +kernel
theorem d_X12_aboard_20 : decode cX12_aboard 20 = .ok (.if_icmp .ne 22, 3) := by decide +kernel
theorem d_X12_aboard_23 : decode cX12_aboard 23 = .ok (.aload_n 0, 1) := by decide +kernel
theorem d_X12_aboard_24 : decode cX12_aboard 24 = .ok (.getfield 83, 3) := by decide +kernel
theorem d_X12_aboard_27 : decode cX12_aboard 27 = .ok (.iload_n 3, 1) := by decide +kernel
theorem d_X12_aboard_28 : decode cX12_aboard 28 = .ok (.iaload, 1) := by decide +kernel
theorem d_X12_aboard_29 : decode cX12_aboard 29 = .ok (.iload_n 1, 1) := by decide +kernel
theorem d_X12_aboard_30 : decode cX12_aboard 30 = .ok (.if_icmp .ne 12, 3) := by decide +kernel
theorem d_X12_aboard_33 : decode cX12_aboard 33 = .ok (.aload_n 0, 1) := by decide +kernel
theorem d_X12_aboard_34 : decode cX12_aboard 34 = .ok (.getfield 74, 3) := by decide +kernel
theorem d_X12_aboard_37 : decode cX12_aboard 37 = .ok (.iload_n 3, 1) := by decide +kernel
theorem d_X12_aboard_38 : decode cX12_aboard 38 = .ok (.iaload, 1) := by decide +kernel
theorem d_X12_aboard_39 : decode cX12_aboard 39 = .ok (.goto 4, 3) := by decide +kernel
theorem d_X12_aboard_42 : decode cX12_aboard 42 = .ok (.iconst 0, 1) := by decide +kernel
theorem d_X12_aboard_43 : decode cX12_aboard 43 = .ok (.iadd, 1) := by decide +kernel
theorem d_X12_aboard_44 : decode cX12_aboard 44 = .ok (.istore_n 2, 1) := by decide +kernel
theorem d_X12_aboard_45 : decode cX12_aboard 45 = .ok (.iinc 3 1, 3) := by decide +kernel
theorem d_X12_aboard_48 : decode cX12_aboard 48 = .ok (.goto (-44), 3) := by decide +kernel
theorem d_X12_aboard_51 : decode cX12_aboard 51 = .ok (.iload_n 2, 1) := by decide +kernel
theorem d_X12_aboard_52 : decode cX12_aboard 52 = .ok (.ireturn, 1) := by decide +kernel
theorem d_X12_draught_0 : decode cX12_draught 0 = .ok (.aload_n 0, 1) := by decide +kernel
theorem d_X12_draught_1 : decode cX12_draught 1 = .ok (.getfield 38, 3) := by decide +kernel
theorem d_X12_draught_4 : decode cX12_draught 4 = .ok (.iload_n 1, 1) := by decide +kernel
theorem d_X12_draught_5 : decode cX12_draught 5 = .ok (.iaload, 1) := by decide +kernel
theorem d_X12_draught_6 : decode cX12_draught 6 = .ok (.aload_n 0, 1) := by decide +kernel
theorem d_X12_draught_7 : decode cX12_draught 7 = .ok (.iload_n 1, 1) := by decide +kernel
theorem d_X12_draught_8 : decode cX12_draught 8 = .ok (.invokevirtual 232, 3) := by decide +kernel
theorem d_X12_draught_11 : decode cX12_draught 11 = .ok (.bipush 10, 2) := by decide +kernel
theorem d_X12_draught_13 : decode cX12_draught 13 = .ok (.idiv, 1) := by decide +kernel
theorem d_X12_draught_14 : decode cX12_draught 14 = .ok (.iadd, 1) := by decide +kernel
theorem d_X12_draught_15 : decode cX12_draught 15 = .ok (.ireturn, 1) := by decide +kernel
theorem d_X12_bale_0 : decode cX12_bale 0 = .ok (.aload_n 0, 1) := by decide +kernel
theorem d_X12_bale_1 : decode cX12_bale 1 = .ok (.iload_n 1, 1) := by decide +kernel
theorem d_X12_bale_2 : decode cX12_bale 2 = .ok (.invokevirtual 229, 3) := by decide +kernel
theorem d_X12_bale_5 : decode cX12_bale 5 = .ok (.ifCond .eq 39, 3) := by decide +kernel
theorem d_X12_bale_8 : decode cX12_bale 8 = .ok (.aload_n 0, 1) := by decide +kernel
theorem d_X12_bale_9 : decode cX12_bale 9 = .ok (.iload_n 2, 1) := by decide +kernel
theorem d_X12_bale_10 : decode cX12_bale 10 = .ok (.invokevirtual 229, 3) := by decide +kernel
theorem d_X12_bale_13 : decode cX12_bale 13 = .ok (.ifCond .eq 31, 3) := by decide +kernel
theorem d_X12_bale_16 : decode cX12_bale 16 = .ok (.iload_n 1, 1) := by decide +kernel
theorem d_X12_bale_17 : decode cX12_bale 17 = .ok (.iload_n 2, 1) := by decide +kernel
theorem d_X12_bale_18 : decode cX12_bale 18 = .ok (.if_icmp .eq 26, 3) := by decide +kernel
theorem d_X12_bale_21 : decode cX12_bale 21 = .ok (.iload_n 3, 1) := by decide +kernel
theorem d_X12_bale_22 : decode cX12_bale 22 = .ok (.iconst 1, 1) := by decide +kernel
theorem d_X12_bale_23 : decode cX12_bale 23 = .ok (.sipush 200, 3) := by decide +kernel
theorem d_X12_bale_26 : decode cX12_bale 26 = .ok (.invokestatic 174, 3) := by decide +kernel
theorem d_X12_bale_29 : decode cX12_bale 29 = .ok (.ifCond .eq 15, 3) := by decide +kernel
theorem d_X12_bale_32 : decode cX12_bale 32 = .ok (.iload 4, 2) := by decide +kernel
theorem d_X12_bale_34 : decode cX12_bale 34 = .ok (.iconst 0, 1) := by decide +kernel
theorem d_X12_bale_35 : decode cX12_bale 35 = .ok (.sipush 999, 3) := by decide +kernel
theorem d_X12_bale_38 : decode cX12_bale 38 = .ok (.invokestatic 174, 3) := by decide +kernel
theorem d_X12_bale_41 : decode cX12_bale 41 = .ok (.ifCond .ne 9, 3) := by decide +kernel
theorem d_X12_bale_44 : decode cX12_bale 44 = .ok (.aload_n 0, 1) := by decide +kernel
theorem d_X12_bale_45 : decode cX12_bale 45 = .ok (.iconst 1, 1) := by decide +kernel
theorem d_X12_bale_46 : decode cX12_bale 46 = .ok (.invokevirtual 187, 3) := by decide +kernel
theorem d_X12_bale_49 : decode cX12_bale 49 = .ok (.ireturn, 1) := by decide +kernel
theorem d_X12_bale_50 : decode cX12_bale 50 = .ok (.aload_n 0, 1) := by decide +kernel
theorem d_X12_bale_51 : decode cX12_bale 51 = .ok (.getfield 181, 3) := by decide +kernel
theorem d_X12_bale_54 : decode cX12_bale 54 = .ok (.bipush 12, 2) := by decide +kernel
theorem d_X12_bale_56 : decode cX12_bale 56 = .ok (.if_icmp .ne 9, 3) := by decide +kernel
theorem d_X12_bale_59 : decode cX12_bale 59 = .ok (.aload_n 0, 1) := by decide +kernel
theorem d_X12_bale_60 : decode cX12_bale 60 = .ok (.iconst 2, 1) := by decide +kernel
theorem d_X12_bale_61 : decode cX12_bale 61 = .ok (.invokevirtual 187, 3) := by decide +kernel
theorem d_X12_bale_64 : decode cX12_bale 64 = .ok (.ireturn, 1) := by decide +kernel
theorem d_X12_bale_65 : decode cX12_bale 65 = .ok (.aload_n 0, 1) := by decide +kernel
theorem d_X12_bale_66 : decode cX12_bale 66 = .ok (.getfield 71, 3) := by decide +kernel
theorem d_X12_bale_69 : decode cX12_bale 69 = .ok (.aload_n 0, 1) := by decide +kernel
theorem d_X12_bale_70 : decode cX12_bale 70 = .ok (.getfield 181, 3) := by decide +kernel
theorem d_X12_bale_73 : decode cX12_bale 73 = .ok (.iload_n 2, 1) := by decide +kernel
theorem d_X12_bale_74 : decode cX12_bale 74 = .ok (.iastore, 1) := by decide +kernel
theorem d_X12_bale_75 : decode cX12_bale 75 = .ok (.aload_n 0, 1) := by decide +kernel
theorem d_X12_bale_76 : decode cX12_bale 76 = .ok (.getfield 74, 3) := by decide +kernel
theorem d_X12_bale_79 : decode cX12_bale 79 = .ok (.aload_n 0, 1) := by decide +kernel
theorem d_X12_bale_80 : decode cX12_bale 80 = .ok (.getfield 181, 3) := by decide +kernel
theorem d_X12_bale_83 : decode cX12_bale 83 = .ok (.iload_n 3, 1) := by decide +kernel
theorem d_X12_bale_84 : decode cX12_bale 84 = .ok (.iastore, 1) := by decide +kernel
theorem d_X12_bale_85 : decode cX12_bale 85 = .ok (.aload_n 0, 1) := by decide +kernel
theorem d_X12_bale_86 : decode cX12_bale 86 = .ok (.getfield 77, 3) := by decide +kernel
theorem d_X12_bale_89 : decode cX12_bale 89 = .ok (.aload_n 0, 1) := by decide +kernel
theorem d_X12_bale_90 : decode cX12_bale 90 = .ok (.getfield 181, 3) := by decide +kernel
theorem d_X12_bale_93 : decode cX12_bale 93 = .ok (.iload 4, 2) := by decide +kernel
theorem d_X12_bale_95 : decode cX12_bale 95 = .ok (.iastore, 1) := by decide +kernel
theorem d_X12_bale_96 : decode cX12_bale 96 = .ok (.aload_n 0, 1) := by decide +kernel
theorem d_X12_bale_97 : decode cX12_bale 97 = .ok (.getfield 80, 3) := by decide +kernel
theorem d_X12_bale_100 : decode cX12_bale 100 = .ok (.aload_n 0, 1) := by decide +kernel
theorem d_X12_bale_101 : decode cX12_bale 101 = .ok (.getfield 181, 3) := by decide +kernel
theorem d_X12_bale_104 : decode cX12_bale 104 = .ok (.iconst 0, 1) := by decide +kernel
theorem d_X12_bale_105 : decode cX12_bale 105 = .ok (.iastore, 1) := by decide +kernel
theorem d_X12_bale_106 : decode cX12_bale 106 = .ok (.aload_n 0, 1) := by decide +kernel
theorem d_X12_bale_107 : decode cX12_bale 107 = .ok (.getfield 83, 3) := by decide +kernel
theorem d_X12_bale_110 : decode cX12_bale 110 = .ok (.aload_n 0, 1) := by decide +kernel
theorem d_X12_bale_111 : decode cX12_bale 111 = .ok (.getfield 181, 3) := by decide +kernel
theorem d_X12_bale_114 : decode cX12_bale 114 = .ok (.iload_n 1, 1) := by decide +kernel
theorem d_X12_bale_115 : decode cX12_bale 115 = .ok (.iastore, 1) := by decide +kernel
theorem d_X12_bale_116 : decode cX12_bale 116 = .ok (.aload_n 0, 1) := by decide +kernel
theorem d_X12_bale_117 : decode cX12_bale 117 = .ok (.dup, 1) := by decide +kernel
theorem d_X12_bale_118 : decode cX12_bale 118 = .ok (.getfield 181, 3) := by decide +kernel
theorem d_X12_bale_121 : decode cX12_bale 121 = .ok (.iconst 1, 1) := by decide +kernel
theorem d_X12_bale_122 : decode cX12_bale 122 = .ok (.iadd, 1) := by decide +kernel
theorem d_X12_bale_123 : decode cX12_bale 123 = .ok (.putfield 181, 3) := by decide +kernel
theorem d_X12_bale_126 : decode cX12_bale 126 = .ok (.aload_n 0, 1) := by decide +kernel
theorem d_X12_bale_127 : decode cX12_bale 127 = .ok (.aload_n 0, 1) := by decide +kernel
theorem d_X12_bale_128 : decode cX12_bale 128 = .ok (.getfield 181, 3) := by decide +kernel
theorem d_X12_bale_131 : decode cX12_bale 131 = .ok (.iconst 1, 1) := by decide +kernel
theorem d_X12_bale_132 : decode cX12_bale 132 = .ok (.isub, 1) := by decide +kernel
theorem d_X12_bale_133 : decode cX12_bale 133 = .ok (.invokevirtual 191, 3) := by decide +kernel
theorem d_X12_bale_136 : decode cX12_bale 136 = .ok (.ireturn, 1) := by decide +kernel
theorem d_X12_lade_0 : decode cX12_lade 0 = .ok (.aload_n 0, 1) := by decide +kernel
theorem d_X12_lade_1 : decode cX12_lade 1 = .ok (.iload_n 1, 1) := by decide +kernel
theorem d_X12_lade_2 : decode cX12_lade 2 = .ok (.invokevirtual 235, 3) := by decide +kernel
theorem d_X12_lade_5 : decode cX12_lade 5 = .ok (.ifCond .eq 11, 3) := by decide +kernel
theorem d_X12_lade_8 : decode cX12_lade 8 = .ok (.aload_n 0, 1) := by decide +kernel
theorem d_X12_lade_9 : decode cX12_lade 9 = .ok (.iload_n 2, 1) := by decide +kernel
theorem d_X12_lade_10 : decode cX12_lade 10 = .ok (.invokevirtual 238, 3) := by decide +kernel
theorem d_X12_lade_13 : decode cX12_lade 13 = .ok (.ifCond .ne 9, 3) := by decide +kernel
theorem d_X12_lade_16 : decode cX12_lade 16 = .ok (.aload_n 0, 1) := by decide +kernel
theorem d_X12_lade_17 : decode cX12_lade 17 = .ok (.iconst 1, 1) := by decide +kernel
theorem d_X12_lade_18 : decode cX12_lade 18 = .ok (.invokevirtual 187, 3) := by decide +kernel
theorem d_X12_lade_21 : decode cX12_lade 21 = .ok (.ireturn, 1) := by decide +kernel
theorem d_X12_lade_22 : decode cX12_lade 22 = .ok (.aload_n 0, 1) := by decide +kernel
theorem d_X12_lade_23 : decode cX12_lade 23 = .ok (.getfield 80, 3) := by decide +kernel
theorem d_X12_lade_26 : decode cX12_lade 26 = .ok (.iload_n 1, 1) := by decide +kernel
theorem d_X12_lade_27 : decode cX12_lade 27 = .ok (.iaload, 1) := by decide +kernel
theorem d_X12_lade_28 : decode cX12_lade 28 = .ok (.ifCond .ne 48, 3) := by decide +kernel
theorem d_X12_lade_31 : decode cX12_lade 31 = .ok (.aload_n 0, 1) := by decide +kernel
theorem d_X12_lade_32 : decode cX12_lade 32 = .ok (.getfield 47, 3) := by decide +kernel
theorem d_X12_lade_35 : decode cX12_lade 35 = .ok (.iload_n 2, 1) := by decide +kernel
theorem d_X12_lade_36 : decode cX12_lade 36 = .ok (.iaload, 1) := by decide +kernel
theorem d_X12_lade_37 : decode cX12_lade 37 = .ok (.ifCond .ne 39, 3) := by decide +kernel
theorem d_X12_lade_40 : decode cX12_lade 40 = .ok (.aload_n 0, 1) := by decide +kernel
theorem d_X12_lade_41 : decode cX12_lade 41 = .ok (.getfield 83, 3) := by decide +kernel
theorem d_X12_lade_44 : decode cX12_lade 44 = .ok (.iload_n 1, 1) := by decide +kernel
theorem d_X12_lade_45 : decode cX12_lade 45 = .ok (.iaload, 1) := by decide +kernel
theorem d_X12_lade_46 : decode cX12_lade 46 = .ok (.aload_n 0, 1) := by decide +kernel
theorem d_X12_lade_47 : decode cX12_lade 47 = .ok (.getfield 50, 3) := by decide +kernel
theorem d_X12_lade_50 : decode cX12_lade 50 = .ok (.iload_n 2, 1) := by decide +kernel
theorem d_X12_lade_51 : decode cX12_lade 51 = .ok (.iaload, 1) := by decide +kernel
theorem d_X12_lade_52 : decode cX12_lade 52 = .ok (.if_icmp .ne 24, 3) := by decide +kernel
theorem d_X12_lade_55 : decode cX12_lade 55 = .ok (.aload_n 0, 1) := by decide +kernel
theorem d_X12_lade_56 : decode cX12_lade 56 = .ok (.iload_n 2, 1) := by decide +kernel
theorem d_X12_lade_57 : decode cX12_lade 57 = .ok (.invokevirtual 232, 3) := by decide +kernel
theorem d_X12_lade_60 : decode cX12_lade 60 = .ok (.aload_n 0, 1) := by decide +kernel
theorem d_X12_lade_61 : decode cX12_lade 61 = .ok (.getfield 74, 3) := by decide +kernel
theorem d_X12_lade_64 : decode cX12_lade 64 = .ok (.iload_n 1, 1) := by decide +kernel
theorem d_X12_lade_65 : decode cX12_lade 65 = .ok (.iaload, 1) := by decide +kernel
theorem d_X12_lade_66 : decode cX12_lade 66 = .ok (.iadd, 1) := by decide +kernel
theorem d_X12_lade_67 : decode cX12_lade 67 = .ok (.aload_n 0, 1) := by decide +kernel
theorem d_X12_lade_68 : decode cX12_lade 68 = .ok (.getfield 41, 3) := by decide +kernel
theorem d_X12_lade_71 : decode cX12_lade 71 = .ok (.iload_n 2, 1) := by decide +kernel
theorem d_X12_lade_72 : decode cX12_lade 72 = .ok (.iaload, 1) := by decide +kernel
theorem d_X12_lade_73 : decode cX12_lade 73 = .ok (.if_icmp .le 9, 3) := by decide +kernel
theorem d_X12_lade_76 : decode cX12_lade 76 = .ok (.aload_n 0, 1) := by decide +kernel
theorem d_X12_lade_77 : decode cX12_lade 77 = .ok (.iconst 3, 1) := by decide +kernel
theorem d_X12_lade_78 : decode cX12_lade 78 = .ok (.invokevirtual 187, 3) := by decide +kernel
theorem d_X12_lade_81 : decode cX12_lade 81 = .ok (.ireturn, 1) := by decide +kernel
theorem d_X12_lade_82 : decode cX12_lade 82 = .ok (.aload_n 0, 1) := by decide +kernel
theorem d_X12_lade_83 : decode cX12_lade 83 = .ok (.getfield 80, 3) := by decide +kernel
theorem d_X12_lade_86 : decode cX12_lade 86 = .ok (.iload_n 1, 1) := by decide +kernel
theorem d_X12_lade_87 : decode cX12_lade 87 = .ok (.iconst 1, 1) := by decide +kernel
theorem d_X12_lade_88 : decode cX12_lade 88 = .ok (.iastore, 1) := by decide +kernel
theorem d_X12_lade_89 : decode cX12_lade 89 = .ok (.aload_n 0, 1) := by decide +kernel
theorem d_X12_lade_90 : decode cX12_lade 90 = .ok (.getfield 83, 3) := by decide +kernel
theorem d_X12_lade_93 : decode cX12_lade 93 = .ok (.iload_n 1, 1) := by decide +kernel
theorem d_X12_lade_94 : decode cX12_lade 94 = .ok (.iload_n 2, 1) := by decide +kernel
theorem d_X12_lade_95 : decode cX12_lade 95 = .ok (.iastore, 1) := by decide +kernel
theorem d_X12_lade_96 : decode cX12_lade 96 = .ok (.aload_n 0, 1) := by decide +kernel
theorem d_X12_lade_97 : decode cX12_lade 97 = .ok (.aload_n 0, 1) := by decide +kernel
theorem d_X12_lade_98 : decode cX12_lade 98 = .ok (.iload_n 2, 1) := by decide +kernel
theorem d_X12_lade_99 : decode cX12_lade 99 = .ok (.invokevirtual 241, 3) := by decide +kernel
theorem d_X12_lade_102 : decode cX12_lade 102 = .ok (.invokevirtual 191, 3) := by decide +kernel
theorem d_X12_lade_105 : decode cX12_lade 105 = .ok (.ireturn, 1) := by decide +kernel
theorem d_X12_land_0 : decode cX12_land 0 = .ok (.aload_n 0, 1) := by decide +kernel
theorem d_X12_land_1 : decode cX12_land 1 = .ok (.iload_n 1, 1) := by decide +kernel
theorem d_X12_land_2 : decode cX12_land 2 = .ok (.invokevirtual 235, 3) := by decide +kernel
theorem d_X12_land_5 : decode cX12_land 5 = .ok (.ifCond .ne 9, 3) := by decide +kernel
theorem d_X12_land_8 : decode cX12_land 8 = .ok (.aload_n 0, 1) := by decide +kernel
theorem d_X12_land_9 : decode cX12_land 9 = .ok (.iconst 1, 1) := by decide +kernel
theorem d_X12_land_10 : decode cX12_land 10 = .ok (.invokevirtual 187, 3) := by decide +kernel
theorem d_X12_land_13 : decode cX12_land 13 = .ok (.ireturn, 1) := by decide +kernel
theorem d_X12_land_14 : decode cX12_land 14 = .ok (.aload_n 0, 1) := by decide +kernel
theorem d_X12_land_15 : decode cX12_land 15 = .ok (.getfield 80, 3) := by decide +kernel
theorem d_X12_land_18 : decode cX12_land 18 = .ok (.iload_n 1, 1) := by decide +kernel
theorem d_X12_land_19 : decode cX12_land 19 = .ok (.iaload, 1) := by decide +kernel
theorem d_X12_land_20 : decode cX12_land 20 = .ok (.iconst 1, 1) := by decide +kernel
theorem d_X12_land_21 : decode cX12_land 21 = .ok (.if_icmp .ne 17, 3) := by decide +kernel
theorem d_X12_land_24 : decode cX12_land 24 = .ok (.aload_n 0, 1) := by decide +kernel
theorem d_X12_land_25 : decode cX12_land 25 = .ok (.getfield 47, 3) := by decide +kernel
theorem d_X12_land_28 : decode cX12_land 28 = .ok (.aload_n 0, 1) := by decide +kernel
theorem d_X12_land_29 : decode cX12_land 29 = .ok (.getfield 83, 3) := by decide +kernel
theorem d_X12_land_32 : decode cX12_land 32 = .ok (.iload_n 1, 1) := by decide +kernel
theorem d_X12_land_33 : decode cX12_land 33 = .ok (.iaload, 1) := by decide +kernel
theorem d_X12_land_34 : decode cX12_land 34 = .ok (.iaload, 1) := by decide +kernel
theorem d_X12_land_35 : decode cX12_land 35 = .ok (.ifCond .eq 9, 3) := by decide +kernel
theorem d_X12_land_38 : decode cX12_land 38 = .ok (.aload_n 0, 1) := by decide +kernel
theorem d_X12_land_39 : decode cX12_land 39 = .ok (.iconst 3, 1) := by decide +kernel
theorem d_X12_land_40 : decode cX12_land 40 = .ok (.invokevirtual 187, 3) := by decide +kernel
theorem d_X12_land_43 : decode cX12_land 43 = .ok (.ireturn, 1) := by decide +kernel
theorem d_X12_land_44 : decode cX12_land 44 = .ok (.aload_n 0, 1) := by decide +kernel
theorem d_X12_land_45 : decode cX12_land 45 = .ok (.getfield 50, 3) := by decide +kernel
theorem d_X12_land_48 : decode cX12_land 48 = .ok (.aload_n 0, 1) := by decide +kernel
theorem d_X12_land_49 : decode cX12_land 49 = .ok (.getfield 83, 3) := by decide +kernel
theorem d_X12_land_52 : decode cX12_land 52 = .ok (.iload_n 1, 1) := by decide +kernel
theorem d_X12_land_53 : decode cX12_land 53 = .ok (.iaload, 1) := by decide +kernel
theorem d_X12_land_54 : decode cX12_land 54 = .ok (.iaload, 1) := by decide +kernel
theorem d_X12_land_55 : decode cX12_land 55 = .ok (.istore_n 2, 1) := by decide +kernel
theorem d_X12_land_56 : decode cX12_land 56 = .ok (.aload_n 0, 1) := by decide +kernel
theorem d_X12_land_57 : decode cX12_land 57 = .ok (.getfield 83, 3) := by decide +kernel
theorem d_X12_land_60 : decode cX12_land 60 = .ok (.iload_n 1, 1) := by decide +kernel
theorem d_X12_land_61 : decode cX12_land 61 = .ok (.iload_n 2, 1) := by decide +kernel
theorem d_X12_land_62 : decode cX12_land 62 = .ok (.iastore, 1) := by decide +kernel
theorem d_X12_land_63 : decode cX12_land 63 = .ok (.aload_n 0, 1) := by decide +kernel
theorem d_X12_land_64 : decode cX12_land 64 = .ok (.getfield 80, 3) := by decide +kernel
theorem d_X12_land_67 : decode cX12_land 67 = .ok (.iload_n 1, 1) := by decide +kernel
theorem d_X12_land_68 : decode cX12_land 68 = .ok (.iload_n 2, 1) := by decide +kernel
theorem d_X12_land_69 : decode cX12_land 69 = .ok (.aload_n 0, 1) := by decide +kernel
theorem d_X12_land_70 : decode cX12_land 70 = .ok (.getfield 71, 3) := by decide +kernel
theorem d_X12_land_73 : decode cX12_land 73 = .ok (.iload_n 1, 1) := by decide +kernel
theorem d_X12_land_74 : decode cX12_land 74 = .ok (.iaload, 1) := by decide +kernel
theorem d_X12_land_75 : decode cX12_land 75 = .ok (.if_icmp .ne 7, 3) := by decide +kernel
theorem d_X12_land_78 : decode cX12_land 78 = .ok (.iconst 2, 1) := by decide +kernel
theorem d_X12_land_79 : decode cX12_land 79 = .ok (.goto 4, 3) := by decide +kernel
theorem d_X12_land_82 : decode cX12_land 82 = .ok (.iconst 0, 1) := by decide +kernel
theorem d_X12_land_83 : decode cX12_land 83 = .ok (.iastore, 1) := by decide +kernel
theorem d_X12_land_84 : decode cX12_land 84 = .ok (.aload_n 0, 1) := by decide +kernel
theorem d_X12_land_85 : decode cX12_land 85 = .ok (.dup, 1) := by decide +kernel
theorem d_X12_land_86 : decode cX12_land 86 = .ok (.getfield 244, 3) := by decide +kernel
theorem d_X12_land_89 : decode cX12_land 89 = .ok (.iload_n 2, 1) := by decide +kernel
theorem d_X12_land_90 : decode cX12_land 90 = .ok (.aload_n 0, 1) := by decide +kernel
theorem d_X12_land_91 : decode cX12_land 91 = .ok (.getfield 71, 3) := by decide +kernel
theorem d_X12_land_94 : decode cX12_land 94 = .ok (.iload_n 1, 1) := by decide +kernel
theorem d_X12_land_95 : decode cX12_land 95 = .ok (.iaload, 1) := by decide +kernel
theorem d_X12_land_96 : decode cX12_land 96 = .ok (.if_icmp .ne 12, 3) := by decide +kernel
theorem d_X12_land_99 : decode cX12_land 99 = .ok (.aload_n 0, 1) := by decide +kernel
theorem d_X12_land_100 : decode cX12_land 100 = .ok (.getfield 77, 3) := by decide +kernel
theorem d_X12_land_103 : decode cX12_land 103 = .ok (.iload_n 1, 1) := by decide +kernel
theorem d_X12_land_104 : decode cX12_land 104 = .ok (.iaload, 1) := by decide +kernel
theorem d_X12_land_105 : decode cX12_land 105 = .ok (.goto 4, 3) := by decide +kernel
theorem d_X12_land_108 : decode cX12_land 108 = .ok (.iconst 0, 1) := by decide +kernel
theorem d_X12_land_109 : decode cX12_land 109 = .ok (.iadd, 1) := by decide +kernel
theorem d_X12_land_110 : decode cX12_land 110 = .ok (.putfield 244, 3) := by decide +kernel
theorem d_X12_land_113 : decode cX12_land 113 = .ok (.aload_n 0, 1) := by decide +kernel
theorem d_X12_land_114 : decode cX12_land 114 = .ok (.iload_n 2, 1) := by decide +kernel
theorem d_X12_land_115 : decode cX12_land 115 = .ok (.invokevirtual 191, 3) := by decide +kernel
theorem d_X12_land_118 : decode cX12_land 118 = .ok (.ireturn, 1) := by decide +kernel
theorem d_X12_lose_0 : decode cX12_lose 0 = .ok (.aload_n 0, 1) := by decide +kernel
theorem d_X12_lose_1 : decode cX12_lose 1 = .ok (.iload_n 1, 1) := by decide +kernel
theorem d_X12_lose_2 : decode cX12_lose 2 = .ok (.invokevirtual 235, 3) := by decide +kernel
theorem d_X12_lose_5 : decode cX12_lose 5 = .ok (.ifCond .ne 9, 3) := by decide +kernel
theorem d_X12_lose_8 : decode cX12_lose 8 = .ok (.aload_n 0, 1) := by decide +kernel
theorem d_X12_lose_9 : decode cX12_lose 9 = .ok (.iconst 1, 1) := by decide +kernel
theorem d_X12_lose_10 : decode cX12_lose 10 = .ok (.invokevirtual 187, 3) := by decide +kernel
theorem d_X12_lose_13 : decode cX12_lose 13 = .ok (.ireturn, 1) := by decide +kernel
theorem d_X12_lose_14 : decode cX12_lose 14 = .ok (.aload_n 0, 1) := by decide +kernel
theorem d_X12_lose_15 : decode cX12_lose 15 = .ok (.getfield 80, 3) := by decide +kernel
theorem d_X12_lose_18 : decode cX12_lose 18 = .ok (.iload_n 1, 1) := by decide +kernel
theorem d_X12_lose_19 : decode cX12_lose 19 = .ok (.iaload, 1) := by decide +kernel
theorem d_X12_lose_20 : decode cX12_lose 20 = .ok (.iconst 1, 1) := by decide +kernel
theorem d_X12_lose_21 : decode cX12_lose 21 = .ok (.if_icmp .eq 9, 3) := by decide +kernel
theorem d_X12_lose_24 : decode cX12_lose 24 = .ok (.aload_n 0, 1) := by decide +kernel
theorem d_X12_lose_25 : decode cX12_lose 25 = .ok (.iconst 3, 1) := by decide +kernel
theorem d_X12_lose_26 : decode cX12_lose 26 = .ok (.invokevirtual 187, 3) := by decide +kernel
theorem d_X12_lose_29 : decode cX12_lose 29 = .ok (.ireturn, 1) := by decide +kernel
theorem d_X12_lose_30 : decode cX12_lose 30 = .ok (.aload_n 0, 1) := by decide +kernel
theorem d_X12_lose_31 : decode cX12_lose 31 = .ok (.getfield 80, 3) := by decide +kernel
theorem d_X12_lose_34 : decode cX12_lose 34 = .ok (.iload_n 1, 1) := by decide +kernel
theorem d_X12_lose_35 : decode cX12_lose 35 = .ok (.iconst 3, 1) := by decide +kernel
theorem d_X12_lose_36 : decode cX12_lose 36 = .ok (.iastore, 1) := by decide +kernel
theorem d_X12_lose_37 : decode cX12_lose 37 = .ok (.aload_n 0, 1) := by decide +kernel
theorem d_X12_lose_38 : decode cX12_lose 38 = .ok (.getfield 83, 3) := by decide +kernel
theorem d_X12_lose_41 : decode cX12_lose 41 = .ok (.iload_n 1, 1) := by decide +kernel
theorem d_X12_lose_42 : decode cX12_lose 42 = .ok (.iconst (-1), 1) := by decide +kernel
theorem d_X12_lose_43 : decode cX12_lose 43 = .ok (.iastore, 1) := by decide +kernel
theorem d_X12_lose_44 : decode cX12_lose 44 = .ok (.aload_n 0, 1) := by decide +kernel
theorem d_X12_lose_45 : decode cX12_lose 45 = .ok (.iconst 1, 1) := by decide +kernel
theorem d_X12_lose_46 : decode cX12_lose 46 = .ok (.invokevirtual 191, 3) := by decide +kernel
theorem d_X12_lose_49 : decode cX12_lose 49 = .ok (.ireturn, 1) := by decide +kernel
theorem d_X12_hears_0 : decode cX12_hears 0 = .ok (.aload_n 0, 1) := by decide +kernel
theorem d_X12_hears_1 : decode cX12_hears 1 = .ok (.getfield 65, 3) := by decide +kernel
theorem d_X12_hears_4 : decode cX12_hears 4 = .ok (.iload_n 2, 1) := by decide +kernel
theorem d_X12_hears_5 : decode cX12_hears 5 = .ok (.iaload, 1) := by decide +kernel
theorem d_X12_hears_6 : decode cX12_hears 6 = .ok (.aload_n 0, 1) := by decide +kernel
theorem d_X12_hears_7 : decode cX12_hears 7 = .ok (.getfield 65, 3) := by decide +kernel
theorem d_X12_hears_10 : decode cX12_hears 10 = .ok (.iload_n 1, 1) := by decide +kernel
theorem d_X12_hears_11 : decode cX12_hears 11 = .ok (.iaload, 1) := by decide +kernel
theorem d_X12_hears_12 : decode cX12_hears 12 = .ok (.if_icmp .le 27, 3) := by decide +kernel
theorem d_X12_hears_15 : decode cX12_hears 15 = .ok (.aload_n 0, 1) := by decide +kernel
theorem d_X12_hears_16 : decode cX12_hears 16 = .ok (.getfield 65, 3) := by decide +kernel
theorem d_X12_hears_19 : decode cX12_hears 19 = .ok (.iload_n 1, 1) := by decide +kernel
theorem d_X12_hears_20 : decode cX12_hears 20 = .ok (.aload_n 0, 1) := by decide +kernel
theorem d_X12_hears_21 : decode cX12_hears 21 = .ok (.getfield 65, 3) := by decide +kernel
theorem d_X12_hears_24 : decode cX12_hears 24 = .ok (.iload_n 2, 1) := by decide +kernel
theorem d_X12_hears_25 : decode cX12_hears 25 = .ok (.iaload, 1) := by decide +kernel
theorem d_X12_hears_26 : decode cX12_hears 26 = .ok (.iastore, 1) := by decide +kernel
theorem d_X12_hears_27 : decode cX12_hears 27 = .ok (.aload_n 0, 1) := by decide +kernel
theorem d_X12_hears_28 : decode cX12_hears 28 = .ok (.getfield 62, 3) := by decide +kernel
theorem d_X12_hears_31 : decode cX12_hears 31 = .ok (.iload_n 1, 1) := by decide +kernel
theorem d_X12_hears_32 : decode cX12_hears 32 = .ok (.aload_n 0, 1) := by decide +kernel
theorem d_X12_hears_33 : decode cX12_hears 33 = .ok (.getfield 62, 3) := by decide +kernel
theorem d_X12_hears_36 : decode cX12_hears 36 = .ok (.iload_n 2, 1) := by decide +kernel
theorem d_X12_hears_37 : decode cX12_hears 37 = .ok (.iaload, 1) := by decide +kernel
theorem d_X12_hears_38 : decode cX12_hears 38 = .ok (.iastore, 1) := by decide +kernel
theorem d_X12_hears_39 : decode cX12_hears 39 = .ok (.return_, 1) := by decide +kernel
theorem d_X12_comes_0 : decode cX12_comes 0 = .ok (.aload_n 0, 1) := by decide +kernel
theorem d_X12_comes_1 : decode cX12_comes 1 = .ok (.getfield 47, 3) := by decide +kernel
theorem d_X12_comes_4 : decode cX12_comes 4 = .ok (.iload_n 1, 1) := by decide +kernel
theorem d_X12_comes_5 : decode cX12_comes 5 = .ok (.iconst 0, 1) := by decide +kernel
theorem d_X12_comes_6 : decode cX12_comes 6 = .ok (.iastore, 1) := by decide +kernel
theorem d_X12_comes_7 : decode cX12_comes 7 = .ok (.aload_n 0, 1) := by decide +kernel
theorem d_X12_comes_8 : decode cX12_comes 8 = .ok (.getfield 50, 3) := by decide +kernel
theorem d_X12_comes_11 : decode cX12_comes 11 = .ok (.iload_n 1, 1) := by decide +kernel
theorem d_X12_comes_12 : decode cX12_comes 12 = .ok (.iload_n 2, 1) := by decide +kernel
theorem d_X12_comes_13 : decode cX12_comes 13 = .ok (.iastore, 1) := by decide +kernel
theorem d_X12_comes_14 : decode cX12_comes 14 = .ok (.aload_n 0, 1) := by decide +kernel
theorem d_X12_comes_15 : decode cX12_comes 15 = .ok (.getfield 56, 3) := by decide +kernel
theorem d_X12_comes_18 : decode cX12_comes 18 = .ok (.iload_n 1, 1) := by decide +kernel
theorem d_X12_comes_19 : decode cX12_comes 19 = .ok (.iconst 0, 1) := by decide +kernel
theorem d_X12_comes_20 : decode cX12_comes 20 = .ok (.iastore, 1) := by decide +kernel
theorem d_X12_comes_21 : decode cX12_comes 21 = .ok (.iconst 0, 1) := by decide +kernel
theorem d_X12_comes_22 : decode cX12_comes 22 = .ok (.istore_n 3, 1) := by decide +kernel
theorem d_X12_comes_23 : decode cX12_comes 23 = .ok (.iload_n 3, 1) := by decide +kernel
theorem d_X12_comes_24 : decode cX12_comes 24 = .ok (.aload_n 0, 1) := by decide +kernel
theorem d_X12_comes_25 : decode cX12_comes 25 = .ok (.getfield 171, 3) := by decide +kernel
theorem d_X12_comes_28 : decode cX12_comes 28 = .ok (.if_icmp .ge 43, 3) := by decide +kernel
theorem d_X12_comes_31 : decode cX12_comes 31 = .ok (.bipush 10, 2) := by decide +kernel
theorem d_X12_comes_33 : decode cX12_comes 33 = .ok (.iload_n 1, 1) := by decide +kernel
theorem d_X12_comes_34 : decode cX12_comes 34 = .ok (.imul, 1) := by decide +kernel
theorem d_X12_comes_35 : decode cX12_comes 35 = .ok (.iload_n 3, 1) := by decide +kernel
theorem d_X12_comes_36 : decode cX12_comes 36 = .ok (.iadd, 1) := by decide +kernel
theorem d_X12_comes_37 : decode cX12_comes 37 = .ok (.istore 4, 2) := by decide +kernel
theorem d_X12_comes_39 : decode cX12_comes 39 = .ok (.bipush 10, 2) := by decide +kernel
theorem d_X12_comes_41 : decode cX12_comes 41 = .ok (.iconst 5, 1) := by decide +kernel
theorem d_X12_comes_42 : decode cX12_comes 42 = .ok (.iload_n 2, 1) := by decide +kernel
theorem d_X12_comes_43 : decode cX12_comes 43 = .ok (.iadd, 1) := by decide +kernel
theorem d_X12_comes_44 : decode cX12_comes 44 = .ok (.imul, 1) := by decide +kernel
theorem d_X12_comes_45 : decode cX12_comes 45 = .ok (.iload_n 3, 1) := by decide +kernel
theorem d_X12_comes_46 : decode cX12_comes 46 = .ok (.iadd, 1) := by decide +kernel
theorem d_X12_comes_47 : decode cX12_comes 47 = .ok (.istore 5, 2) := by decide +kernel
theorem d_X12_comes_49 : decode cX12_comes 49 = .ok (.aload_n 0, 1) := by decide +kernel
theorem d_X12_comes_50 : decode cX12_comes 50 = .ok (.iload 4, 2) := by decide +kernel
theorem d_X12_comes_52 : decode cX12_comes 52 = .ok (.iload 5, 2) := by decide +kernel
theorem d_X12_comes_54 : decode cX12_comes 54 = .ok (.invokevirtual 247, 3) := by decide +kernel
theorem d_X12_comes_57 : decode cX12_comes 57 = .ok (.aload_n 0, 1) := by decide +kernel
theorem d_X12_comes_58 : decode cX12_comes 58 = .ok (.iload 5, 2) := by decide +kernel
theorem d_X12_comes_60 : decode cX12_comes 60 = .ok (.iload 4, 2) := by decide +kernel
theorem d_X12_comes_62 : decode cX12_comes 62 = .ok (.invokevirtual 247, 3) := by decide +kernel
theorem d_X12_comes_65 : decode cX12_comes 65 = .ok (.iinc 3 1, 3) := by decide +kernel
theorem d_X12_comes_68 : decode cX12_comes 68 = .ok (.goto (-45), 3) := by decide +kernel
theorem d_X12_comes_71 : decode cX12_comes 71 = .ok (.return_, 1) := by decide +kernel
theorem d_X12_ahead_0 : decode cX12_ahead 0 = .ok (.iload_n 2, 1) := by decide +kernel
theorem d_X12_ahead_1 : decode cX12_ahead 1 = .ok (.ifCond .eq 12, 3) := by decide +kernel
theorem d_X12_ahead_4 : decode cX12_ahead 4 = .ok (.aload_n 0, 1) := by decide +kernel
theorem d_X12_ahead_5 : decode cX12_ahead 5 = .ok (.getfield 50, 3) := by decide +kernel
theorem d_X12_ahead_8 : decode cX12_ahead 8 = .ok (.iload_n 1, 1) := by decide +kernel
theorem d_X12_ahead_9 : decode cX12_ahead 9 = .ok (.iaload, 1) := by decide +kernel
theorem d_X12_ahead_10 : decode cX12_ahead 10 = .ok (.goto 11, 3) := by decide +kernel
theorem d_X12_ahead_13 : decode cX12_ahead 13 = .ok (.aload_n 0, 1) := by decide +kernel
theorem d_X12_ahead_14 : decode cX12_ahead 14 = .ok (.getfield 50, 3) := by decide +kernel
theorem d_X12_ahead_17 : decode cX12_ahead 17 = .ok (.iload_n 1, 1) := by decide +kernel
theorem d_X12_ahead_18 : decode cX12_ahead 18 = .ok (.iaload, 1) := by decide +kernel
theorem d_X12_ahead_19 : decode cX12_ahead 19 = .ok (.iconst 1, 1) := by decide +kernel
theorem d_X12_ahead_20 : decode cX12_ahead 20 = .ok (.isub, 1) := by decide +kernel
theorem d_X12_ahead_21 : decode cX12_ahead 21 = .ok (.istore_n 3, 1) := by decide +kernel
theorem d_X12_ahead_22 : decode cX12_ahead 22 = .ok (.aload_n 0, 1) := by decide +kernel
theorem d_X12_ahead_23 : decode cX12_ahead 23 = .ok (.iload_n 3, 1) := by decide +kernel
theorem d_X12_ahead_24 : decode cX12_ahead 24 = .ok (.invokevirtual 202, 3) := by decide +kernel
theorem d_X12_ahead_27 : decode cX12_ahead 27 = .ok (.ifCond .eq 7, 3) := by decide +kernel
theorem d_X12_ahead_30 : decode cX12_ahead 30 = .ok (.iload_n 3, 1) := by decide +kernel
theorem d_X12_ahead_31 : decode cX12_ahead 31 = .ok (.goto 4, 3) := by decide +kernel
theorem d_X12_ahead_34 : decode cX12_ahead 34 = .ok (.iconst (-1), 1) := by decide +kernel
theorem d_X12_ahead_35 : decode cX12_ahead 35 = .ok (.ireturn, 1) := by decide +kernel
theorem d_X12_whyNot_0 : decode cX12_whyNot 0 = .ok (.aload_n 0, 1) := by decide +kernel
theorem d_X12_whyNot_1 : decode cX12_whyNot 1 = .ok (.getfield 47, 3) := by decide +kernel
theorem d_X12_whyNot_4 : decode cX12_whyNot 4 = .ok (.iload_n 1, 1) := by decide +kernel
theorem d_X12_whyNot_5 : decode cX12_whyNot 5 = .ok (.iaload, 1) := by decide +kernel
theorem d_X12_whyNot_6 : decode cX12_whyNot 6 = .ok (.ifCond .eq 5, 3) := by decide +kernel
theorem d_X12_whyNot_9 : decode cX12_whyNot 9 = .ok (.iconst 1, 1) := by decide +kernel
theorem d_X12_whyNot_10 : decode cX12_whyNot 10 = .ok (.ireturn, 1) := by decide +kernel
theorem d_X12_whyNot_11 : decode cX12_whyNot 11 = .ok (.aload_n 0, 1) := by decide +kernel
theorem d_X12_whyNot_12 : decode cX12_whyNot 12 = .ok (.iload_n 1, 1) := by decide +kernel
theorem d_X12_whyNot_13 : decode cX12_whyNot 13 = .ok (.iload_n 2, 1) := by decide +kernel
theorem d_X12_whyNot_14 : decode cX12_whyNot 14 = .ok (.invokevirtual 251, 3) := by decide +kernel
theorem d_X12_whyNot_17 : decode cX12_whyNot 17 = .ok (.istore_n 3, 1) := by decide +kernel
theorem d_X12_whyNot_18 : decode cX12_whyNot 18 = .ok (.iload_n 3, 1) := by decide +kernel
theorem d_X12_whyNot_19 : decode cX12_whyNot 19 = .ok (.iconst (-1), 1) := by decide +kernel
theorem d_X12_whyNot_20 : decode cX12_whyNot 20 = .ok (.if_icmp .ne 5, 3) := by decide +kernel
theorem d_X12_whyNot_23 : decode cX12_whyNot 23 = .ok (.iconst 2, 1) := by decide +kernel
theorem d_X12_whyNot_24 : decode cX12_whyNot 24 = .ok (.ireturn, 1) := by decide +kernel
theorem d_X12_whyNot_25 : decode cX12_whyNot 25 = .ok (.bipush 10, 2) := by decide +kernel
theorem d_X12_whyNot_27 : decode cX12_whyNot 27 = .ok (.iload_n 1, 1) := by decide +kernel
theorem d_X12_whyNot_28 : decode cX12_whyNot 28 = .ok (.imul, 1) := by decide +kernel
theorem d_X12_whyNot_29 : decode cX12_whyNot 29 = .ok (.iload_n 3, 1) := by decide +kernel
theorem d_X12_whyNot_30 : decode cX12_whyNot 30 = .ok (.iadd, 1) := by decide +kernel
theorem d_X12_whyNot_31 : decode cX12_whyNot 31 = .ok (.istore 4, 2) := by decide +kernel
theorem d_X12_whyNot_33 : decode cX12_whyNot 33 = .ok (.aload_n 0, 1) := by decide +kernel
theorem d_X12_whyNot_34 : decode cX12_whyNot 34 = .ok (.getfield 65, 3) := by decide +kernel
theorem d_X12_whyNot_37 : decode cX12_whyNot 37 = .ok (.iload 4, 2) := by decide +kernel
theorem d_X12_whyNot_39 : decode cX12_whyNot 39 = .ok (.iaload, 1) := by decide +kernel
theorem d_X12_whyNot_40 : decode cX12_whyNot 40 = .ok (.iconst (-1), 1) := by decide +kernel
theorem d_X12_whyNot_41 : decode cX12_whyNot 41 = .ok (.if_icmp .eq 20, 3) := by decide +kernel
theorem d_X12_whyNot_44 : decode cX12_whyNot 44 = .ok (.aload_n 0, 1) := by decide +kernel
theorem d_X12_whyNot_45 : decode cX12_whyNot 45 = .ok (.getfield 62, 3) := by decide +kernel
theorem d_X12_whyNot_48 : decode cX12_whyNot 48 = .ok (.iload 4, 2) := by decide +kernel
theorem d_X12_whyNot_50 : decode cX12_whyNot 50 = .ok (.iaload, 1) := by decide +kernel
theorem d_X12_whyNot_51 : decode cX12_whyNot 51 = .ok (.aload_n 0, 1) := by decide +kernel
theorem d_X12_whyNot_52 : decode cX12_whyNot 52 = .ok (.iload_n 1, 1) := by decide +kernel
theorem d_X12_whyNot_53 : decode cX12_whyNot 53 = .ok (.invokevirtual 241, 3) := by decide +kernel
theorem d_X12_whyNot_56 : decode cX12_whyNot 56 = .ok (.if_icmp .ge 5, 3) := by decide +kernel
theorem d_X12_whyNot_59 : decode cX12_whyNot 59 = .ok (.iconst 3, 1) := by decide +kernel
theorem d_X12_whyNot_60 : decode cX12_whyNot 60 = .ok (.ireturn, 1) := by decide +kernel
theorem d_X12_whyNot_61 : decode cX12_whyNot 61 = .ok (.aload_n 0, 1) := by decide +kernel
theorem d_X12_whyNot_62 : decode cX12_whyNot 62 = .ok (.getfield 59, 3) := by decide +kernel
theorem d_X12_whyNot_65 : decode cX12_whyNot 65 = .ok (.iload_n 1, 1) := by decide +kernel
theorem d_X12_whyNot_66 : decode cX12_whyNot 66 = .ok (.iaload, 1) := by decide +kernel
theorem d_X12_whyNot_67 : decode cX12_whyNot 67 = .ok (.aload_n 0, 1) := by decide +kernel
theorem d_X12_whyNot_68 : decode cX12_whyNot 68 = .ok (.iload_n 3, 1) := by decide +kernel
theorem d_X12_whyNot_69 : decode cX12_whyNot 69 = .ok (.aload_n 0, 1) := by decide +kernel
theorem d_X12_whyNot_70 : decode cX12_whyNot 70 = .ok (.invokevirtual 221, 3) := by decide +kernel
theorem d_X12_whyNot_73 : decode cX12_whyNot 73 = .ok (.invokevirtual 225, 3) := by decide +kernel
theorem d_X12_whyNot_76 : decode cX12_whyNot 76 = .ok (.if_icmp .ge 7, 3) := by decide +kernel
theorem d_X12_whyNot_79 : decode cX12_whyNot 79 = .ok (.iconst 4, 1) := by decide +kernel
theorem d_X12_whyNot_80 : decode cX12_whyNot 80 = .ok (.goto 4, 3) := by decide +kernel
theorem d_X12_whyNot_83 : decode cX12_whyNot 83 = .ok (.iconst 0, 1) := by decide +kernel
theorem d_X12_whyNot_84 : decode cX12_whyNot 84 = .ok (.ireturn, 1) := by decide +kernel
theorem d_X12_why_0 : decode cX12_why 0 = .ok (.aload_n 0, 1) := by decide +kernel
theorem d_X12_why_1 : decode cX12_why 1 = .ok (.iload_n 1, 1) := by decide +kernel
theorem d_X12_why_2 : decode cX12_why 2 = .ok (.invokevirtual 238, 3) := by decide +kernel
theorem d_X12_why_5 : decode cX12_why 5 = .ok (.ifCond .eq 12, 3) := by decide +kernel
theorem d_X12_why_8 : decode cX12_why 8 = .ok (.aload_n 0, 1) := by decide +kernel
theorem d_X12_why_9 : decode cX12_why 9 = .ok (.iload_n 1, 1) := by decide +kernel
theorem d_X12_why_10 : decode cX12_why 10 = .ok (.iload_n 2, 1) := by decide +kernel
theorem d_X12_why_11 : decode cX12_why 11 = .ok (.invokevirtual 254, 3) := by decide +kernel
theorem d_X12_why_14 : decode cX12_why 14 = .ok (.goto 4, 3) := by decide +kernel
theorem d_X12_why_17 : decode cX12_why 17 = .ok (.iconst (-1), 1) := by decide +kernel
theorem d_X12_why_18 : decode cX12_why 18 = .ok (.ireturn, 1) := by decide +kernel
theorem d_X12_leave_0 : decode cX12_leave 0 = .ok (.aload_n 0, 1) := by decide +kernel
theorem d_X12_leave_1 : decode cX12_leave 1 = .ok (.iload_n 1, 1) := by decide +kernel
theorem d_X12_leave_2 : decode cX12_leave 2 = .ok (.invokevirtual 238, 3) := by decide +kernel
theorem d_X12_leave_5 : decode cX12_leave 5 = .ok (.ifCond .ne 9, 3) := by decide +kernel
theorem d_X12_leave_8 : decode cX12_leave 8 = .ok (.aload_n 0, 1) := by decide +kernel
theorem d_X12_leave_9 : decode cX12_leave 9 = .ok (.iconst 1, 1) := by decide +kernel
theorem d_X12_leave_10 : decode cX12_leave 10 = .ok (.invokevirtual 187, 3) := by decide +kernel
theorem d_X12_leave_13 : decode cX12_leave 13 = .ok (.ireturn, 1) := by decide +kernel
theorem d_X12_leave_14 : decode cX12_leave 14 = .ok (.aload_n 0, 1) := by decide +kernel
theorem d_X12_leave_15 : decode cX12_leave 15 = .ok (.iload_n 1, 1) := by decide +kernel
theorem d_X12_leave_16 : decode cX12_leave 16 = .ok (.iload_n 2, 1) := by decide +kernel
theorem d_X12_leave_17 : decode cX12_leave 17 = .ok (.invokevirtual 254, 3) := by decide +kernel
theorem d_X12_leave_20 : decode cX12_leave 20 = .ok (.istore_n 3, 1) := by decide +kernel
theorem d_X12_leave_21 : decode cX12_leave 21 = .ok (.iload_n 3, 1) := by decide +kernel
theorem d_X12_leave_22 : decode cX12_leave 22 = .ok (.ifCond .eq 12, 3) := by decide +kernel
theorem d_X12_leave_25 : decode cX12_leave 25 = .ok (.aload_n 0, 1) := by decide +kernel
theorem d_X12_leave_26 : decode cX12_leave 26 = .ok (.bipush 20, 2) := by decide +kernel
theorem d_X12_leave_28 : decode cX12_leave 28 = .ok (.iload_n 3, 1) := by decide +kernel
theorem d_X12_leave_29 : decode cX12_leave 29 = .ok (.iadd, 1) := by decide +kernel
theorem d_X12_leave_30 : decode cX12_leave 30 = .ok (.invokevirtual 187, 3) := by decide +kernel
theorem d_X12_leave_33 : decode cX12_leave 33 = .ok (.ireturn, 1) := by decide +kernel
theorem d_X12_leave_34 : decode cX12_leave 34 = .ok (.aload_n 0, 1) := by decide +kernel
theorem d_X12_leave_35 : decode cX12_leave 35 = .ok (.iload_n 1, 1) := by decide +kernel
theorem d_X12_leave_36 : decode cX12_leave 36 = .ok (.iload_n 2, 1) := by decide +kernel
theorem d_X12_leave_37 : decode cX12_leave 37 = .ok (.invokevirtual 251, 3) := by decide +kernel
theorem d_X12_leave_40 : decode cX12_leave 40 = .ok (.istore 4, 2) := by decide +kernel
theorem d_X12_leave_42 : decode cX12_leave 42 = .ok (.aload_n 0, 1) := by decide +kernel
theorem d_X12_leave_43 : decode cX12_leave 43 = .ok (.iload 4, 2) := by decide +kernel
theorem d_X12_leave_45 : decode cX12_leave 45 = .ok (.aload_n 0, 1) := by decide +kernel
theorem d_X12_leave_46 : decode cX12_leave 46 = .ok (.invokevirtual 221, 3) := by decide +kernel
theorem d_X12_leave_49 : decode cX12_leave 49 = .ok (.invokevirtual 225, 3) := by decide +kernel
theorem d_X12_leave_52 : decode cX12_leave 52 = .ok (.istore 5, 2) := by decide +kernel
theorem d_X12_leave_54 : decode cX12_leave 54 = .ok (.aload_n 0, 1) := by decide +kernel
theorem d_X12_leave_55 : decode cX12_leave 55 = .ok (.iload 4, 2) := by decide +kernel
theorem d_X12_leave_57 : decode cX12_leave 57 = .ok (.aload_n 0, 1) := by decide +kernel
theorem d_X12_leave_58 : decode cX12_leave 58 = .ok (.invokevirtual 218, 3) := by decide +kernel
theorem d_X12_leave_61 : decode cX12_leave 61 = .ok (.invokevirtual 215, 3) := by decide +kernel
theorem d_X12_leave_64 : decode cX12_leave 64 = .ok (.istore 6, 2) := by decide +kernel
theorem d_X12_leave_66 : decode cX12_leave 66 = .ok (.aload_n 0, 1) := by decide +kernel
theorem d_X12_leave_67 : decode cX12_leave 67 = .ok (.getfield 62, 3) := by decide +kernel
theorem d_X12_leave_70 : decode cX12_leave 70 = .ok (.bipush 10, 2) := by decide +kernel
theorem d_X12_leave_72 : decode cX12_leave 72 = .ok (.iload_n 1, 1) := by decide +kernel
theorem d_X12_leave_73 : decode cX12_leave 73 = .ok (.imul, 1) := by decide +kernel
theorem d_X12_leave_74 : decode cX12_leave 74 = .ok (.iload 4, 2) := by decide +kernel
theorem d_X12_leave_76 : decode cX12_leave 76 = .ok (.iadd, 1) := by decide +kernel
theorem d_X12_leave_77 : decode cX12_leave 77 = .ok (.iload 6, 2) := by decide +kernel
theorem d_X12_leave_79 : decode cX12_leave 79 = .ok (.iastore, 1) := by decide +kernel
theorem d_X12_leave_80 : decode cX12_leave 80 = .ok (.aload_n 0, 1) := by decide +kernel
theorem d_X12_leave_81 : decode cX12_leave 81 = .ok (.getfield 65, 3) := by decide +kernel
theorem d_X12_leave_84 : decode cX12_leave 84 = .ok (.bipush 10, 2) := by decide +kernel
theorem d_X12_leave_86 : decode cX12_leave 86 = .ok (.iload_n 1, 1) := by decide +kernel
theorem d_X12_leave_87 : decode cX12_leave 87 = .ok (.imul, 1) := by decide +kernel
theorem d_X12_leave_88 : decode cX12_leave 88 = .ok (.iload 4, 2) := by decide +kernel
theorem d_X12_leave_90 : decode cX12_leave 90 = .ok (.iadd, 1) := by decide +kernel
theorem d_X12_leave_91 : decode cX12_leave 91 = .ok (.aload_n 0, 1) := by decide +kernel
theorem d_X12_leave_92 : decode cX12_leave 92 = .ok (.getfield 184, 3) := by decide +kernel
theorem d_X12_leave_95 : decode cX12_leave 95 = .ok (.iastore, 1) := by decide +kernel
theorem d_X12_leave_96 : decode cX12_leave 96 = .ok (.aload_n 0, 1) := by decide +kernel
theorem d_X12_leave_97 : decode cX12_leave 97 = .ok (.getfield 53, 3) := by decide +kernel
theorem d_X12_leave_100 : decode cX12_leave 100 = .ok (.iload_n 1, 1) := by decide +kernel
theorem d_X12_leave_101 : decode cX12_leave 101 = .ok (.aload_n 0, 1) := by decide +kernel
theorem d_X12_leave_102 : decode cX12_leave 102 = .ok (.getfield 50, 3) := by decide +kernel
theorem d_X12_leave_105 : decode cX12_leave 105 = .ok (.iload_n 1, 1) := by decide +kernel
theorem d_X12_leave_106 : decode cX12_leave 106 = .ok (.iaload, 1) := by decide +kernel
theorem d_X12_leave_107 : decode cX12_leave 107 = .ok (.iastore, 1) := by decide +kernel
theorem d_X12_leave_108 : decode cX12_leave 108 = .ok (.aload_n 0, 1) := by decide +kernel
theorem d_X12_leave_109 : decode cX12_leave 109 = .ok (.getfield 50, 3) := by decide +kernel
theorem d_X12_leave_112 : decode cX12_leave 112 = .ok (.iload_n 1, 1) := by decide +kernel
theorem d_X12_leave_113 : decode cX12_leave 113 = .ok (.iload 4, 2) := by decide +kernel
theorem d_X12_leave_115 : decode cX12_leave 115 = .ok (.iastore, 1) := by decide +kernel
theorem d_X12_leave_116 : decode cX12_leave 116 = .ok (.aload_n 0, 1) := by decide +kernel
theorem d_X12_leave_117 : decode cX12_leave 117 = .ok (.iload_n 1, 1) := by decide +kernel
theorem d_X12_leave_118 : decode cX12_leave 118 = .ok (.invokevirtual 241, 3) := by decide +kernel
theorem d_X12_leave_121 : decode cX12_leave 121 = .ok (.iload 6, 2) := by decide +kernel
theorem d_X12_leave_123 : decode cX12_leave 123 = .ok (.if_icmp .le 16, 3) := by decide +kernel
theorem d_X12_leave_126 : decode cX12_leave 126 = .ok (.aload_n 0, 1) := by decide +kernel
theorem d_X12_leave_127 : decode cX12_leave 127 = .ok (.getfield 47, 3) := by decide +kernel
theorem d_X12_leave_130 : decode cX12_leave 130 = .ok (.iload_n 1, 1) := by decide +kernel
theorem d_X12_leave_131 : decode cX12_leave 131 = .ok (.iconst 3, 1) := by decide +kernel
theorem d_X12_leave_132 : decode cX12_leave 132 = .ok (.iastore, 1) := by decide +kernel
theorem d_X12_leave_133 : decode cX12_leave 133 = .ok (.aload_n 0, 1) := by decide +kernel
theorem d_X12_leave_134 : decode cX12_leave 134 = .ok (.iconst 0, 1) := by decide +kernel
theorem d_X12_leave_135 : decode cX12_leave 135 = .ok (.invokevirtual 191, 3) := by decide +kernel
theorem d_X12_leave_138 : decode cX12_leave 138 = .ok (.ireturn, 1) := by decide +kernel
theorem d_X12_leave_139 : decode cX12_leave 139 = .ok (.aload_n 0, 1) := by decide +kernel
theorem d_X12_leave_140 : decode cX12_leave 140 = .ok (.getfield 47, 3) := by decide +kernel
theorem d_X12_leave_143 : decode cX12_leave 143 = .ok (.iload_n 1, 1) := by decide +kernel
theorem d_X12_leave_144 : decode cX12_leave 144 = .ok (.iload_n 2, 1) := by decide +kernel
theorem d_X12_leave_145 : decode cX12_leave 145 = .ok (.ifCond .eq 7, 3) := by decide +kernel
theorem d_X12_leave_148 : decode cX12_leave 148 = .ok (.iconst 1, 1) := by decide +kernel
theorem d_X12_leave_149 : decode cX12_leave 149 = .ok (.goto 4, 3) := by decide +kernel
theorem d_X12_leave_152 : decode cX12_leave 152 = .ok (.iconst 2, 1) := by decide +kernel
theorem d_X12_leave_153 : decode cX12_leave 153 = .ok (.iastore, 1) := by decide +kernel
theorem d_X12_leave_154 : decode cX12_leave 154 = .ok (.aload_n 0, 1) := by decide +kernel
theorem d_X12_leave_155 : decode cX12_leave 155 = .ok (.getfield 56, 3) := by decide +kernel
theorem d_X12_leave_158 : decode cX12_leave 158 = .ok (.iload_n 1, 1) := by decide +kernel
theorem d_X12_leave_159 : decode cX12_leave 159 = .ok (.aload_n 0, 1) := by decide +kernel
theorem d_X12_leave_160 : decode cX12_leave 160 = .ok (.getfield 184, 3) := by decide +kernel
theorem d_X12_leave_163 : decode cX12_leave 163 = .ok (.iload 5, 2) := by decide +kernel
theorem d_X12_leave_165 : decode cX12_leave 165 = .ok (.iadd, 1) := by decide +kernel
theorem d_X12_leave_166 : decode cX12_leave 166 = .ok (.iastore, 1) := by decide +kernel
theorem d_X12_leave_167 : decode cX12_leave 167 = .ok (.aload_n 0, 1) := by decide +kernel
theorem d_X12_leave_168 : decode cX12_leave 168 = .ok (.getfield 59, 3) := by decide +kernel
theorem d_X12_leave_171 : decode cX12_leave 171 = .ok (.iload_n 1, 1) := by decide +kernel
theorem d_X12_leave_172 : decode cX12_leave 172 = .ok (.dup2, 1) := by decide +kernel
theorem d_X12_leave_173 : decode cX12_leave 173 = .ok (.iaload, 1) := by decide +kernel
theorem d_X12_leave_174 : decode cX12_leave 174 = .ok (.iload 5, 2) := by decide +kernel
theorem d_X12_leave_176 : decode cX12_leave 176 = .ok (.isub, 1) := by decide +kernel
theorem d_X12_leave_177 : decode cX12_leave 177 = .ok (.iastore, 1) := by decide +kernel
theorem d_X12_leave_178 : decode cX12_leave 178 = .ok (.aload_n 0, 1) := by decide +kernel
theorem d_X12_leave_179 : decode cX12_leave 179 = .ok (.iload 5, 2) := by decide +kernel
theorem d_X12_leave_181 : decode cX12_leave 181 = .ok (.invokevirtual 191, 3) := by decide +kernel
theorem d_X12_leave_184 : decode cX12_leave 184 = .ok (.ireturn, 1) := by decide +kernel
theorem d_X12_off_0 : decode cX12_off 0 = .ok (.aload_n 0, 1) := by decide +kernel
theorem d_X12_off_1 : decode cX12_off 1 = .ok (.iload_n 1, 1) := by decide +kernel
theorem d_X12_off_2 : decode cX12_off 2 = .ok (.invokevirtual 238, 3) := by decide +kernel
theorem d_X12_off_5 : decode cX12_off 5 = .ok (.ifCond .ne 9, 3) := by decide +kernel
theorem d_X12_off_8 : decode cX12_off 8 = .ok (.aload_n 0, 1) := by decide +kernel
theorem d_X12_off_9 : decode cX12_off 9 = .ok (.iconst 1, 1) := by decide +kernel
theorem d_X12_off_10 : decode cX12_off 10 = .ok (.invokevirtual 187, 3) := by decide +kernel
theorem d_X12_off_13 : decode cX12_off 13 = .ok (.ireturn, 1) := by decide +kernel
theorem d_X12_off_14 : decode cX12_off 14 = .ok (.aload_n 0, 1) := by decide +kernel
theorem d_X12_off_15 : decode cX12_off 15 = .ok (.getfield 47, 3) := by decide +kernel
theorem d_X12_off_18 : decode cX12_off 18 = .ok (.iload_n 1, 1) := by decide +kernel
theorem d_X12_off_19 : decode cX12_off 19 = .ok (.iaload, 1) := by decide +kernel
theorem d_X12_off_20 : decode cX12_off 20 = .ok (.iconst 3, 1) := by decide +kernel
theorem d_X12_off_21 : decode cX12_off 21 = .ok (.if_icmp .ne 25, 3) := by decide +kernel
theorem d_X12_off_24 : decode cX12_off 24 = .ok (.aload_n 0, 1) := by decide +kernel
theorem d_X12_off_25 : decode cX12_off 25 = .ok (.iload_n 1, 1) := by decide +kernel
theorem d_X12_off_26 : decode cX12_off 26 = .ok (.invokevirtual 241, 3) := by decide +kernel
theorem d_X12_off_29 : decode cX12_off 29 = .ok (.aload_n 0, 1) := by decide +kernel
theorem d_X12_off_30 : decode cX12_off 30 = .ok (.aload_n 0, 1) := by decide +kernel
theorem d_X12_off_31 : decode cX12_off 31 = .ok (.getfield 50, 3) := by decide +kernel
theorem d_X12_off_34 : decode cX12_off 34 = .ok (.iload_n 1, 1) := by decide +kernel
theorem d_X12_off_35 : decode cX12_off 35 = .ok (.iaload, 1) := by decide +kernel
theorem d_X12_off_36 : decode cX12_off 36 = .ok (.aload_n 0, 1) := by decide +kernel
theorem d_X12_off_37 : decode cX12_off 37 = .ok (.invokevirtual 218, 3) := by decide +kernel
theorem d_X12_off_40 : decode cX12_off 40 = .ok (.invokevirtual 215, 3) := by decide +kernel
theorem d_X12_off_43 : decode cX12_off 43 = .ok (.if_icmp .le 9, 3) := by decide +kernel
theorem d_X12_off_46 : decode cX12_off 46 = .ok (.aload_n 0, 1) := by decide +kernel
theorem d_X12_off_47 : decode cX12_off 47 = .ok (.iconst 3, 1) := by decide +kernel
theorem d_X12_off_48 : decode cX12_off 48 = .ok (.invokevirtual 187, 3) := by decide +kernel
theorem d_X12_off_51 : decode cX12_off 51 = .ok (.ireturn, 1) := by decide +kernel
theorem d_X12_off_52 : decode cX12_off 52 = .ok (.aload_n 0, 1) := by decide +kernel
theorem d_X12_off_53 : decode cX12_off 53 = .ok (.iload_n 1, 1) := by decide +kernel
theorem d_X12_off_54 : decode cX12_off 54 = .ok (.aload_n 0, 1) := by decide +kernel
theorem d_X12_off_55 : decode cX12_off 55 = .ok (.getfield 53, 3) := by decide +kernel
theorem d_X12_off_58 : decode cX12_off 58 = .ok (.iload_n 1, 1) := by decide +kernel
theorem d_X12_off_59 : decode cX12_off 59 = .ok (.iaload, 1) := by decide +kernel
theorem d_X12_off_60 : decode cX12_off 60 = .ok (.invokevirtual 257, 3) := by decide +kernel
theorem d_X12_off_63 : decode cX12_off 63 = .ok (.aload_n 0, 1) := by decide +kernel
theorem d_X12_off_64 : decode cX12_off 64 = .ok (.aload_n 0, 1) := by decide +kernel
theorem d_X12_off_65 : decode cX12_off 65 = .ok (.getfield 50, 3) := by decide +kernel
theorem d_X12_off_68 : decode cX12_off 68 = .ok (.iload_n 1, 1) := by decide +kernel
theorem d_X12_off_69 : decode cX12_off 69 = .ok (.iaload, 1) := by decide +kernel
theorem d_X12_off_70 : decode cX12_off 70 = .ok (.invokevirtual 191, 3) := by decide +kernel
theorem d_X12_off_73 : decode cX12_off 73 = .ok (.ireturn, 1) := by decide +kernel
theorem d_X12_go_0 : decode cX12_go 0 = .ok (.iload_n 1, 1) := by decide +kernel
theorem d_X12_go_1 : decode cX12_go 1 = .ok (.iconst 1, 1) := by decide +kernel
theorem d_X12_go_2 : decode cX12_go 2 = .ok (.sipush 200, 3) := by decide +kernel
theorem d_X12_go_5 : decode cX12_go 5 = .ok (.invokestatic 174, 3) := by decide +kernel
theorem d_X12_go_8 : decode cX12_go 8 = .ok (.ifCond .ne 9, 3) := by decide +kernel
theorem d_X12_go_11 : decode cX12_go 11 = .ok (.aload_n 0, 1) := by decide +kernel
theorem d_X12_go_12 : decode cX12_go 12 = .ok (.iconst 1, 1) := by decide +kernel
theorem d_X12_go_13 : decode cX12_go 13 = .ok (.invokevirtual 187, 3) := by decide +kernel
theorem d_X12_go_16 : decode cX12_go 16 = .ok (.ireturn, 1) := by decide +kernel
theorem d_X12_go_17 : decode cX12_go 17 = .ok (.aload_n 0, 1) := by decide +kernel
theorem d_X12_go_18 : decode cX12_go 18 = .ok (.getfield 184, 3) := by decide +kernel
theorem d_X12_go_21 : decode cX12_go 21 = .ok (.iload_n 1, 1) := by decide +kernel
theorem d_X12_go_22 : decode cX12_go 22 = .ok (.iadd, 1) := by decide +kernel
theorem d_X12_go_23 : decode cX12_go 23 = .ok (.sipush 9599, 3) := by decide +kernel
theorem d_X12_go_26 : decode cX12_go 26 = .ok (.if_icmp .le 9, 3) := by decide +kernel
theorem d_X12_go_29 : decode cX12_go 29 = .ok (.aload_n 0, 1) := by decide +kernel
theorem d_X12_go_30 : decode cX12_go 30 = .ok (.iconst 2, 1) := by decide +kernel
theorem d_X12_go_31 : decode cX12_go 31 = .ok (.invokevirtual 187, 3) := by decide +kernel
theorem d_X12_go_34 : decode cX12_go 34 = .ok (.ireturn, 1) := by decide +kernel
theorem d_X12_go_35 : decode cX12_go 35 = .ok (.iconst 0, 1) := by decide +kernel
theorem d_X12_go_36 : decode cX12_go 36 = .ok (.istore_n 2, 1) := by decide +kernel
theorem d_X12_go_37 : decode cX12_go 37 = .ok (.iload_n 2, 1) := by decide +kernel
theorem d_X12_go_38 : decode cX12_go 38 = .ok (.iload_n 1, 1) := by decide +kernel
theorem d_X12_go_39 : decode cX12_go 39 = .ok (.if_icmp .ge 100, 3) := by decide +kernel
theorem d_X12_go_42 : decode cX12_go 42 = .ok (.aload_n 0, 1) := by decide +kernel
theorem d_X12_go_43 : decode cX12_go 43 = .ok (.dup, 1) := by decide +kernel
theorem d_X12_go_44 : decode cX12_go 44 = .ok (.getfield 184, 3) := by decide +kernel
theorem d_X12_go_47 : decode cX12_go 47 = .ok (.iconst 1, 1) := by decide +kernel
theorem d_X12_go_48 : decode cX12_go 48 = .ok (.iadd, 1) := by decide +kernel
theorem d_X12_go_49 : decode cX12_go 49 = .ok (.putfield 184, 3) := by decide +kernel
theorem d_X12_go_52 : decode cX12_go 52 = .ok (.iconst 0, 1) := by decide +kernel
theorem d_X12_go_53 : decode cX12_go 53 = .ok (.istore_n 3, 1) := by decide +kernel
theorem d_X12_go_54 : decode cX12_go 54 = .ok (.iload_n 3, 1) := by decide +kernel
theorem d_X12_go_55 : decode cX12_go 55 = .ok (.aload_n 0, 1) := by decide +kernel
theorem d_X12_go_56 : decode cX12_go 56 = .ok (.getfield 178, 3) := by decide +kernel
theorem d_X12_go_59 : decode cX12_go 59 = .ok (.if_icmp .ge 74, 3) := by decide +kernel
theorem d_X12_go_62 : decode cX12_go 62 = .ok (.aload_n 0, 1) := by decide +kernel
theorem d_X12_go_63 : decode cX12_go 63 = .ok (.getfield 47, 3) := by decide +kernel
theorem d_X12_go_66 : decode cX12_go 66 = .ok (.iload_n 3, 1) := by decide +kernel
theorem d_X12_go_67 : decode cX12_go 67 = .ok (.iaload, 1) := by decide +kernel
theorem d_X12_go_68 : decode cX12_go 68 = .ok (.iconst 1, 1) := by decide +kernel
theorem d_X12_go_69 : decode cX12_go 69 = .ok (.if_icmp .eq 13, 3) := by decide +kernel
theorem d_X12_go_72 : decode cX12_go 72 = .ok (.aload_n 0, 1) := by decide +kernel
theorem d_X12_go_73 : decode cX12_go 73 = .ok (.getfield 47, 3) := by decide +kernel
theorem d_X12_go_76 : decode cX12_go 76 = .ok (.iload_n 3, 1) := by decide +kernel
theorem d_X12_go_77 : decode cX12_go 77 = .ok (.iaload, 1) := by decide +kernel
theorem d_X12_go_78 : decode cX12_go 78 = .ok (.iconst 2, 1) := by decide +kernel
theorem d_X12_go_79 : decode cX12_go 79 = .ok (.if_icmp .ne 48, 3) := by decide +kernel
theorem d_X12_go_82 : decode cX12_go 82 = .ok (.aload_n 0, 1) := by decide +kernel
theorem d_X12_go_83 : decode cX12_go 83 = .ok (.getfield 56, 3) := by decide +kernel
theorem d_X12_go_86 : decode cX12_go 86 = .ok (.iload_n 3, 1) := by decide +kernel
theorem d_X12_go_87 : decode cX12_go 87 = .ok (.iaload, 1) := by decide +kernel
theorem d_X12_go_88 : decode cX12_go 88 = .ok (.aload_n 0, 1) := by decide +kernel
theorem d_X12_go_89 : decode cX12_go 89 = .ok (.getfield 184, 3) := by decide +kernel
theorem d_X12_go_92 : decode cX12_go 92 = .ok (.if_icmp .ne 35, 3) := by decide +kernel
theorem d_X12_go_95 : decode cX12_go 95 = .ok (.aload_n 0, 1) := by decide +kernel
theorem d_X12_go_96 : decode cX12_go 96 = .ok (.iload_n 3, 1) := by decide +kernel
theorem d_X12_go_97 : decode cX12_go 97 = .ok (.aload_n 0, 1) := by decide +kernel
theorem d_X12_go_98 : decode cX12_go 98 = .ok (.getfield 47, 3) := by decide +kernel
theorem d_X12_go_101 : decode cX12_go 101 = .ok (.iload_n 3, 1) := by decide +kernel
theorem d_X12_go_102 : decode cX12_go 102 = .ok (.iaload, 1) := by decide +kernel
theorem d_X12_go_103 : decode cX12_go 103 = .ok (.iconst 1, 1) := by decide +kernel
theorem d_X12_go_104 : decode cX12_go 104 = .ok (.if_icmp .ne 14, 3) := by decide +kernel
theorem d_X12_go_107 : decode cX12_go 107 = .ok (.aload_n 0, 1) := by decide +kernel
theorem d_X12_go_108 : decode cX12_go 108 = .ok (.getfield 50, 3) := by decide +kernel
theorem d_X12_go_111 : decode cX12_go 111 = .ok (.iload_n 3, 1) := by decide +kernel
theorem d_X12_go_112 : decode cX12_go 112 = .ok (.iaload, 1) := by decide +kernel
theorem d_X12_go_113 : decode cX12_go 113 = .ok (.iconst 1, 1) := by decide +kernel
theorem d_X12_go_114 : decode cX12_go 114 = .ok (.iadd, 1) := by decide +kernel
theorem d_X12_go_115 : decode cX12_go 115 = .ok (.goto 9, 3) := by decide +kernel
theorem d_X12_go_118 : decode cX12_go 118 = .ok (.aload_n 0, 1) := by decide +kernel
theorem d_X12_go_119 : decode cX12_go 119 = .ok (.getfield 50, 3) := by decide +kernel
theorem d_X12_go_122 : decode cX12_go 122 = .ok (.iload_n 3, 1) := by decide +kernel
theorem d_X12_go_123 : decode cX12_go 123 = .ok (.iaload, 1) := by decide +kernel
theorem d_X12_go_124 : decode cX12_go 124 = .ok (.invokevirtual 257, 3) := by decide +kernel
theorem d_X12_go_127 : decode cX12_go 127 = .ok (.iinc 3 1, 3) := by decide +kernel
theorem d_X12_go_130 : decode cX12_go 130 = .ok (.goto (-76), 3) := by decide +kernel
theorem d_X12_go_133 : decode cX12_go 133 = .ok (.iinc 2 1, 3) := by decide +kernel
theorem d_X12_go_136 : decode cX12_go 136 = .ok (.goto (-99), 3) := by decide +kernel
theorem d_X12_go_139 : decode cX12_go 139 = .ok (.aload_n 0, 1) := by decide +kernel
theorem d_X12_go_140 : decode cX12_go 140 = .ok (.aload_n 0, 1) := by decide +kernel
theorem d_X12_go_141 : decode cX12_go 141 = .ok (.getfield 184, 3) := by decide +kernel
theorem d_X12_go_144 : decode cX12_go 144 = .ok (.invokevirtual 191, 3) := by decide +kernel
theorem d_X12_go_147 : decode cX12_go 147 = .ok (.ireturn, 1) := by decide +kernel
theorem d_X12_knows_0 : decode cX12_knows 0 = .ok (.aload_n 0, 1) := by decide +kernel
theorem d_X12_knows_1 : decode cX12_knows 1 = .ok (.iload_n 1, 1) := by decide +kernel
theorem d_X12_knows_2 : decode cX12_knows 2 = .ok (.invokevirtual 238, 3) := by decide +kernel
theorem d_X12_knows_5 : decode cX12_knows 5 = .ok (.ifCond .eq 34, 3) := by decide +kernel
theorem d_X12_knows_8 : decode cX12_knows 8 = .ok (.aload_n 0, 1) := by decide +kernel
theorem d_X12_knows_9 : decode cX12_knows 9 = .ok (.iload_n 2, 1) := by decide +kernel
theorem d_X12_knows_10 : decode cX12_knows 10 = .ok (.invokevirtual 202, 3) := by decide +kernel
theorem d_X12_knows_13 : decode cX12_knows 13 = .ok (.ifCond .eq 26, 3) := by decide +kernel
theorem d_X12_knows_16 : decode cX12_knows 16 = .ok (.iload_n 3, 1) := by decide +kernel
theorem d_X12_knows_17 : decode cX12_knows 17 = .ok (.iconst 0, 1) := by decide +kernel
theorem d_X12_knows_18 : decode cX12_knows 18 = .ok (.iconst 1, 1) := by decide +kernel
theorem d_X12_knows_19 : decode cX12_knows 19 = .ok (.invokestatic 174, 3) := by decide +kernel
theorem d_X12_knows_22 : decode cX12_knows 22 = .ok (.ifCond .eq 17, 3) := by decide +kernel
theorem d_X12_knows_25 : decode cX12_knows 25 = .ok (.aload_n 0, 1) := by decide +kernel
theorem d_X12_knows_26 : decode cX12_knows 26 = .ok (.bipush 10, 2) := by decide +kernel
theorem d_X12_knows_28 : decode cX12_knows 28 = .ok (.iload_n 1, 1) := by decide +kernel
theorem d_X12_knows_29 : decode cX12_knows 29 = .ok (.imul, 1) := by decide +kernel
theorem d_X12_knows_30 : decode cX12_knows 30 = .ok (.iload_n 2, 1) := by decide +kernel
theorem d_X12_knows_31 : decode cX12_knows 31 = .ok (.iadd, 1) := by decide +kernel
theorem d_X12_knows_32 : decode cX12_knows 32 = .ok (.iload_n 3, 1) := by decide +kernel
theorem d_X12_knows_33 : decode cX12_knows 33 = .ok (.invokevirtual 260, 3) := by decide +kernel
theorem d_X12_knows_36 : decode cX12_knows 36 = .ok (.goto 6, 3) := by decide +kernel
theorem d_X12_knows_39 : decode cX12_knows 39 = .ok (.sipush (-1000), 3) := by decide +kernel
theorem d_X12_knows_42 : decode cX12_knows 42 = .ok (.ireturn, 1) := by decide +kernel
theorem d_X12_box_0 : decode cX12_box 0 = .ok (.aload_n 0, 1) := by decide +kernel
theorem d_X12_box_1 : decode cX12_box 1 = .ok (.iload_n 1, 1) := by decide +kernel
theorem d_X12_box_2 : decode cX12_box 2 = .ok (.invokevirtual 229, 3) := by decide +kernel
theorem d_X12_box_5 : decode cX12_box 5 = .ok (.ifCond .eq 36, 3) := by decide +kernel
theorem d_X12_box_8 : decode cX12_box 8 = .ok (.aload_n 0, 1) := by decide +kernel
theorem d_X12_box_9 : decode cX12_box 9 = .ok (.iload_n 2, 1) := by decide +kernel
theorem d_X12_box_10 : decode cX12_box 10 = .ok (.invokevirtual 202, 3) := by decide +kernel
theorem d_X12_box_13 : decode cX12_box 13 = .ok (.ifCond .eq 28, 3) := by decide +kernel
theorem d_X12_box_16 : decode cX12_box 16 = .ok (.iload_n 3, 1) := by decide +kernel
theorem d_X12_box_17 : decode cX12_box 17 = .ok (.iconst 0, 1) := by decide +kernel
theorem d_X12_box_18 : decode cX12_box 18 = .ok (.iconst 1, 1) := by decide +kernel
theorem d_X12_box_19 : decode cX12_box 19 = .ok (.invokestatic 174, 3) := by decide +kernel
theorem d_X12_box_22 : decode cX12_box 22 = .ok (.ifCond .eq 19, 3) := by decide +kernel
theorem d_X12_box_25 : decode cX12_box 25 = .ok (.aload_n 0, 1) := by decide +kernel
theorem d_X12_box_26 : decode cX12_box 26 = .ok (.bipush 10, 2) := by decide +kernel
theorem d_X12_box_28 : decode cX12_box 28 = .ok (.iconst 5, 1) := by decide +kernel
theorem d_X12_box_29 : decode cX12_box 29 = .ok (.iload_n 1, 1) := by decide +kernel
theorem d_X12_box_30 : decode cX12_box 30 = .ok (.iadd, 1) := by decide +kernel
theorem d_X12_box_31 : decode cX12_box 31 = .ok (.imul, 1) := by decide +kernel
theorem d_X12_box_32 : decode cX12_box 32 = .ok (.iload_n 2, 1) := by decide +kernel
theorem d_X12_box_33 : decode cX12_box 33 = .ok (.iadd, 1) := by decide +kernel
theorem d_X12_box_34 : decode cX12_box 34 = .ok (.iload_n 3, 1) := by decide +kernel
theorem d_X12_box_35 : decode cX12_box 35 = .ok (.invokevirtual 260, 3) := by decide +kernel
theorem d_X12_box_38 : decode cX12_box 38 = .ok (.goto 6, 3) := by decide +kernel
theorem d_X12_box_41 : decode cX12_box 41 = .ok (.sipush (-1000), 3) := by decide +kernel
theorem d_X12_box_44 : decode cX12_box 44 = .ok (.ireturn, 1) := by decide +kernel
theorem d_X12_word_0 : decode cX12_word 0 = .ok (.aload_n 0, 1) := by decide +kernel
theorem d_X12_word_1 : decode cX12_word 1 = .ok (.getfield 65, 3) := by decide +kernel
theorem d_X12_word_4 : decode cX12_word 4 = .ok (.iload_n 1, 1) := by decide +kernel
theorem d_X12_word_5 : decode cX12_word 5 = .ok (.iaload, 1) := by decide +kernel
theorem d_X12_word_6 : decode cX12_word 6 = .ok (.iconst (-1), 1) := by decide +kernel
theorem d_X12_word_7 : decode cX12_word 7 = .ok (.if_icmp .ne 9, 3) := by decide +kernel
theorem d_X12_word_10 : decode cX12_word 10 = .ok (.sipush (-1000), 3) := by decide +kernel
theorem d_X12_word_13 : decode cX12_word 13 = .ok (.goto 22, 3) := by decide +kernel
theorem d_X12_word_16 : decode cX12_word 16 = .ok (.iload_n 2, 1) := by decide +kernel
theorem d_X12_word_17 : decode cX12_word 17 = .ok (.ifCond .ne 12, 3) := by decide +kernel
theorem d_X12_word_20 : decode cX12_word 20 = .ok (.aload_n 0, 1) := by decide +kernel
theorem d_X12_word_21 : decode cX12_word 21 = .ok (.getfield 62, 3) := by decide +kernel
theorem d_X12_word_24 : decode cX12_word 24 = .ok (.iload_n 1, 1) := by decide +kernel
theorem d_X12_word_25 : decode cX12_word 25 = .ok (.iaload, 1) := by decide +kernel
theorem d_X12_word_26 : decode cX12_word 26 = .ok (.goto 9, 3) := by decide +kernel
theorem d_X12_word_29 : decode cX12_word 29 = .ok (.aload_n 0, 1) := by decide +kernel
theorem d_X12_word_30 : decode cX12_word 30 = .ok (.getfield 65, 3) := by decide +kernel
theorem d_X12_word_33 : decode cX12_word 33 = .ok (.iload_n 1, 1) := by decide +kernel
theorem d_X12_word_34 : decode cX12_word 34 = .ok (.iaload, 1) := by decide +kernel
theorem d_X12_word_35 : decode cX12_word 35 = .ok (.ireturn, 1) := by decide +kernel
theorem d_X12_boatTold_0 : decode cX12_boatTold 0 = .ok (.aload_n 0, 1) := by decide +kernel
theorem d_X12_boatTold_1 : decode cX12_boatTold 1 = .ok (.iload_n 1, 1) := by decide +kernel
theorem d_X12_boatTold_2 : decode cX12_boatTold 2 = .ok (.invokevirtual 238, 3) := by decide +kernel
theorem d_X12_boatTold_5 : decode cX12_boatTold 5 = .ok (.ifCond .eq 12, 3) := by decide +kernel
theorem d_X12_boatTold_8 : decode cX12_boatTold 8 = .ok (.iload_n 2, 1) := by decide +kernel
theorem d_X12_boatTold_9 : decode cX12_boatTold 9 = .ok (.iconst 0, 1) := by decide +kernel
theorem d_X12_boatTold_10 : decode cX12_boatTold 10 = .ok (.iconst 5, 1) := by decide +kernel
theorem d_X12_boatTold_11 : decode cX12_boatTold 11 = .ok (.invokestatic 174, 3) := by decide +kernel
theorem d_X12_boatTold_14 : decode cX12_boatTold 14 = .ok (.ifCond .ne 5, 3) := by decide +kernel
theorem d_X12_boatTold_17 : decode cX12_boatTold 17 = .ok (.iconst (-1), 1) := by decide +kernel
theorem d_X12_boatTold_18 : decode cX12_boatTold 18 = .ok (.ireturn, 1) := by decide +kernel
theorem d_X12_boatTold_19 : decode cX12_boatTold 19 = .ok (.iload_n 2, 1) := by decide +kernel
theorem d_X12_boatTold_20 : decode cX12_boatTold 20 = .ok (.ifCond .ne 12, 3) := by decide +kernel
theorem d_X12_boatTold_23 : decode cX12_boatTold 23 = .ok (.aload_n 0, 1) := by decide +kernel
theorem d_X12_boatTold_24 : decode cX12_boatTold 24 = .ok (.getfield 47, 3) := by decide +kernel
theorem d_X12_boatTold_27 : decode cX12_boatTold 27 = .ok (.iload_n 1, 1) := by decide +kernel
theorem d_X12_boatTold_28 : decode cX12_boatTold 28 = .ok (.iaload, 1) := by decide +kernel
theorem d_X12_boatTold_29 : decode cX12_boatTold 29 = .ok (.goto 63, 3) := by decide +kernel
theorem d_X12_boatTold_32 : decode cX12_boatTold 32 = .ok (.iload_n 2, 1) := by decide +kernel
theorem d_X12_boatTold_33 : decode cX12_boatTold 33 = .ok (.iconst 1, 1) := by decide +kernel
theorem d_X12_boatTold_34 : decode cX12_boatTold 34 = .ok (.if_icmp .ne 12, 3) := by decide +kernel
theorem d_X12_boatTold_37 : decode cX12_boatTold 37 = .ok (.aload_n 0, 1) := by decide +kernel
theorem d_X12_boatTold_38 : decode cX12_boatTold 38 = .ok (.getfield 50, 3) := by decide +kernel
theorem d_X12_boatTold_41 : decode cX12_boatTold 41 = .ok (.iload_n 1, 1) := by decide +kernel
theorem d_X12_boatTold_42 : decode cX12_boatTold 42 = .ok (.iaload, 1) := by decide +kernel
theorem d_X12_boatTold_43 : decode cX12_boatTold 43 = .ok (.goto 49, 3) := by decide +kernel
theorem d_X12_boatTold_46 : decode cX12_boatTold 46 = .ok (.iload_n 2, 1) := by decide +kernel
theorem d_X12_boatTold_47 : decode cX12_boatTold 47 = .ok (.iconst 2, 1) := by decide +kernel
theorem d_X12_boatTold_48 : decode cX12_boatTold 48 = .ok (.if_icmp .ne 12, 3) := by decide +kernel
theorem d_X12_boatTold_51 : decode cX12_boatTold 51 = .ok (.aload_n 0, 1) := by decide +kernel
theorem d_X12_boatTold_52 : decode cX12_boatTold 52 = .ok (.getfield 56, 3) := by decide +kernel
theorem d_X12_boatTold_55 : decode cX12_boatTold 55 = .ok (.iload_n 1, 1) := by decide +kernel
theorem d_X12_boatTold_56 : decode cX12_boatTold 56 = .ok (.iaload, 1) := by decide +kernel
theorem d_X12_boatTold_57 : decode cX12_boatTold 57 = .ok (.goto 35, 3) := by decide +kernel
theorem d_X12_boatTold_60 : decode cX12_boatTold 60 = .ok (.iload_n 2, 1) := by decide +kernel
theorem d_X12_boatTold_61 : decode cX12_boatTold 61 = .ok (.iconst 3, 1) := by decide +kernel
theorem d_X12_boatTold_62 : decode cX12_boatTold 62 = .ok (.if_icmp .ne 11, 3) := by decide +kernel
theorem d_X12_boatTold_65 : decode cX12_boatTold 65 = .ok (.aload_n 0, 1) := by decide +kernel
theorem d_X12_boatTold_66 : decode cX12_boatTold 66 = .ok (.iload_n 1, 1) := by decide +kernel
theorem d_X12_boatTold_67 : decode cX12_boatTold 67 = .ok (.invokevirtual 232, 3) := by decide +kernel
theorem d_X12_boatTold_70 : decode cX12_boatTold 70 = .ok (.goto 22, 3) := by decide +kernel
theorem d_X12_boatTold_73 : decode cX12_boatTold 73 = .ok (.iload_n 2, 1) := by decide +kernel
theorem d_X12_boatTold_74 : decode cX12_boatTold 74 = .ok (.iconst 4, 1) := by decide +kernel
theorem d_X12_boatTold_75 : decode cX12_boatTold 75 = .ok (.if_icmp .ne 11, 3) := by decide +kernel
theorem d_X12_boatTold_78 : decode cX12_boatTold 78 = .ok (.aload_n 0, 1) := by decide +kernel
theorem d_X12_boatTold_79 : decode cX12_boatTold 79 = .ok (.iload_n 1, 1) := by decide +kernel
theorem d_X12_boatTold_80 : decode cX12_boatTold 80 = .ok (.invokevirtual 241, 3) := by decide +kernel
theorem d_X12_boatTold_83 : decode cX12_boatTold 83 = .ok (.goto 9, 3) := by decide +kernel
theorem d_X12_boatTold_86 : decode cX12_boatTold 86 = .ok (.aload_n 0, 1) := by decide +kernel
theorem d_X12_boatTold_87 : decode cX12_boatTold 87 = .ok (.getfield 59, 3) := by decide +kernel
theorem d_X12_boatTold_90 : decode cX12_boatTold 90 = .ok (.iload_n 1, 1) := by decide +kernel
theorem d_X12_boatTold_91 : decode cX12_boatTold 91 = .ok (.iaload, 1) := by decide +kernel
theorem d_X12_boatTold_92 : decode cX12_boatTold 92 = .ok (.ireturn, 1) := by decide +kernel
