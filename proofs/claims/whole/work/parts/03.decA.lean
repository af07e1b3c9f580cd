def yJ_fill : MethodName := ⟨"java/util/Arrays", "fill", "([II)V"⟩
abbrev cJ_fill : ByteArray := prog_18_method_103_code
abbrev mJ_fill : MI := (yJ_fill, cJ_fill, 4, none)
def yJ_abs : MethodName := ⟨"java/lang/Math", "abs", "(I)I"⟩
abbrev cJ_abs : ByteArray := prog_16_method_59_code
abbrev mJ_abs : MI := (yJ_abs, cJ_abs, 1, (some .int))
def yJ_min : MethodName := ⟨"java/lang/Math", "min", "(II)I"⟩
abbrev cJ_min : ByteArray := prog_16_method_69_code
abbrev mJ_min : MI := (yJ_min, cJ_min, 2, (some .int))
def yJ_max : MethodName := ⟨"java/lang/Math", "max", "(II)I"⟩
abbrev cJ_max : ByteArray := prog_16_method_65_code
abbrev mJ_max : MI := (yJ_max, cJ_max, 2, (some .int))
def yJ_floorMod : MethodName := ⟨"java/lang/Math", "floorMod", "(II)I"⟩
abbrev cJ_floorMod : ByteArray := prog_16_method_50_code
abbrev mJ_floorMod : MI := (yJ_floorMod, cJ_floorMod, 3, (some .int))
def yJ_bitCount : MethodName := ⟨"java/lang/Integer", "bitCount", "(I)I"⟩
abbrev cJ_bitCount : ByteArray := prog_15_method_49_code
abbrev mJ_bitCount : MI := (yJ_bitCount, cJ_bitCount, 1, (some .int))
theorem d_X0_init_0 : decode cX0_init 0 = .ok (.aload_n 0, 1) := by decide +kernel
theorem d_X0_init_1 : decode cX0_init 1 = .ok (.invokespecial 3, 3) := by decide +kernel
theorem d_X0_init_4 : decode cX0_init 4 = .ok (.aload_n 0, 1) := by decide +kernel
theorem d_X0_init_5 : decode cX0_init 5 = .ok (.iconst 0, 1) := by decide +kernel
theorem d_X0_init_6 : decode cX0_init 6 = .ok (.putfield 9, 3) := by decide +kernel
theorem d_X0_init_9 : decode cX0_init 9 = .ok (.aload_n 0, 1) := by decide +kernel
theorem d_X0_init_10 : decode cX0_init 10 = .ok (.bipush 50, 2) := by decide +kernel
theorem d_X0_init_12 : decode cX0_init 12 = .ok (.newarray .int, 2) := by decide +kernel
theorem d_X0_init_14 : decode cX0_init 14 = .ok (.putfield 15, 3) := by decide +kernel
theorem d_X0_init_17 : decode cX0_init 17 = .ok (.return_, 1) := by decide +kernel
theorem d_X0_begin_0 : decode cX0_begin 0 = .ok (.aload_n 0, 1) := by decide +kernel
theorem d_X0_begin_1 : decode cX0_begin 1 = .ok (.iconst 0, 1) := by decide +kernel
theorem d_X0_begin_2 : decode cX0_begin 2 = .ok (.putfield 9, 3) := by decide +kernel
theorem d_X0_begin_5 : decode cX0_begin 5 = .ok (.aload_n 0, 1) := by decide +kernel
theorem d_X0_begin_6 : decode cX0_begin 6 = .ok (.aload_n 1, 1) := by decide +kernel
theorem d_X0_begin_7 : decode cX0_begin 7 = .ok (.aload_n 1, 1) := by decide +kernel
theorem d_X0_begin_8 : decode cX0_begin 8 = .ok (.getfield 19, 3) := by decide +kernel
theorem d_X0_begin_11 : decode cX0_begin 11 = .ok (.iload_n 2, 1) := by decide +kernel
theorem d_X0_begin_12 : decode cX0_begin 12 = .ok (.iload_n 3, 1) := by decide +kernel
theorem d_X0_begin_13 : decode cX0_begin 13 = .ok (.iconst 0, 1) := by decide +kernel
theorem d_X0_begin_14 : decode cX0_begin 14 = .ok (.invokestatic 24, 3) := by decide +kernel
theorem d_X0_begin_17 : decode cX0_begin 17 = .ok (.ireturn, 1) := by decide +kernel
theorem d_X0_kindWithBody_0 : decode cX0_kindWithBody 0 = .ok (.iload_n 0, 1) := by decide +kernel
theorem d_X0_kindWithBody_1 : decode cX0_kindWithBody 1 = .ok (.istore_n 2, 1) := by decide +kernel
theorem d_X0_kindWithBody_2 : decode cX0_kindWithBody 2 = .ok (.iconst 0, 1) := by decide +kernel
theorem d_X0_kindWithBody_3 : decode cX0_kindWithBody 3 = .ok (.istore_n 3, 1) := by decide +kernel
theorem d_X0_kindWithBody_4 : decode cX0_kindWithBody 4 = .ok (.iload_n 3, 1) := by decide +kernel
theorem d_X0_kindWithBody_5 : decode cX0_kindWithBody 5 = .ok (.bipush 6, 2) := by decide +kernel
theorem d_X0_kindWithBody_7 : decode cX0_kindWithBody 7 = .ok (.if_icmp .ge 32, 3) := by decide +kernel
theorem d_X0_kindWithBody_10 : decode cX0_kindWithBody 10 = .ok (.iload_n 2, 1) := by decide +kernel
theorem d_X0_kindWithBody_11 : decode cX0_kindWithBody 11 = .ok (.iconst (-1), 1) := by decide +kernel
theorem d_X0_kindWithBody_12 : decode cX0_kindWithBody 12 = .ok (.if_icmp .eq 27, 3) := by decide +kernel
theorem d_X0_kindWithBody_15 : decode cX0_kindWithBody 15 = .ok (.getstatic 28, 3) := by decide +kernel
theorem d_X0_kindWithBody_18 : decode cX0_kindWithBody 18 = .ok (.iload_n 2, 1) := by decide +kernel
theorem d_X0_kindWithBody_19 : decode cX0_kindWithBody 19 = .ok (.iconst 4, 1) := by decide +kernel
theorem d_X0_kindWithBody_20 : decode cX0_kindWithBody 20 = .ok (.imul, 1) := by decide +kernel
theorem d_X0_kindWithBody_21 : decode cX0_kindWithBody 21 = .ok (.iload_n 1, 1) := by decide +kernel
theorem d_X0_kindWithBody_22 : decode cX0_kindWithBody 22 = .ok (.iadd, 1) := by decide +kernel
theorem d_X0_kindWithBody_23 : decode cX0_kindWithBody 23 = .ok (.iaload, 1) := by decide +kernel
theorem d_X0_kindWithBody_24 : decode cX0_kindWithBody 24 = .ok (.ifCond .ne 15, 3) := by decide +kernel
theorem d_X0_kindWithBody_27 : decode cX0_kindWithBody 27 = .ok (.getstatic 31, 3) := by decide +kernel
theorem d_X0_kindWithBody_30 : decode cX0_kindWithBody 30 = .ok (.iload_n 2, 1) := by decide +kernel
theorem d_X0_kindWithBody_31 : decode cX0_kindWithBody 31 = .ok (.iaload, 1) := by decide +kernel
theorem d_X0_kindWithBody_32 : decode cX0_kindWithBody 32 = .ok (.istore_n 2, 1) := by decide +kernel
theorem d_X0_kindWithBody_33 : decode cX0_kindWithBody 33 = .ok (.iinc 3 1, 3) := by decide +kernel
theorem d_X0_kindWithBody_36 : decode cX0_kindWithBody 36 = .ok (.goto (-32), 3) := by decide +kernel
theorem d_X0_kindWithBody_39 : decode cX0_kindWithBody 39 = .ok (.iload_n 2, 1) := by decide +kernel
theorem d_X0_kindWithBody_40 : decode cX0_kindWithBody 40 = .ok (.ireturn, 1) := by decide +kernel
theorem d_X0_note_0 : decode cX0_note 0 = .ok (.aload_n 0, 1) := by decide +kernel
theorem d_X0_note_1 : decode cX0_note 1 = .ok (.getfield 9, 3) := by decide +kernel
theorem d_X0_note_4 : decode cX0_note 4 = .ok (.bipush 50, 2) := by decide +kernel
theorem d_X0_note_6 : decode cX0_note 6 = .ok (.if_icmp .ge 23, 3) := by decide +kernel
theorem d_X0_note_9 : decode cX0_note 9 = .ok (.aload_n 0, 1) := by decide +kernel
theorem d_X0_note_10 : decode cX0_note 10 = .ok (.getfield 15, 3) := by decide +kernel
theorem d_X0_note_13 : decode cX0_note 13 = .ok (.aload_n 0, 1) := by decide +kernel
theorem d_X0_note_14 : decode cX0_note 14 = .ok (.getfield 9, 3) := by decide +kernel
theorem d_X0_note_17 : decode cX0_note 17 = .ok (.iload_n 1, 1) := by decide +kernel
theorem d_X0_note_18 : decode cX0_note 18 = .ok (.iastore, 1) := by decide +kernel
theorem d_X0_note_19 : decode cX0_note 19 = .ok (.aload_n 0, 1) := by decide +kernel
theorem d_X0_note_20 : decode cX0_note 20 = .ok (.dup, 1) := by decide +kernel
theorem d_X0_note_21 : decode cX0_note 21 = .ok (.getfield 9, 3) := by decide +kernel
theorem d_X0_note_24 : decode cX0_note 24 = .ok (.iconst 1, 1) := by decide +kernel
theorem d_X0_note_25 : decode cX0_note 25 = .ok (.iadd, 1) := by decide +kernel
theorem d_X0_note_26 : decode cX0_note 26 = .ok (.putfield 9, 3) := by decide +kernel
theorem d_X0_note_29 : decode cX0_note 29 = .ok (.return_, 1) := by decide +kernel
theorem d_X0_run_0 : decode cX0_run 0 = .ok (.iload_n 2, 1) := by decide +kernel
theorem d_X0_run_1 : decode cX0_run 1 = .ok (.iload_n 3, 1) := by decide +kernel
theorem d_X0_run_2 : decode cX0_run 2 = .ok (.invokestatic 34, 3) := by decide +kernel
theorem d_X0_run_5 : decode cX0_run 5 = .ok (.istore 6, 2) := by decide +kernel
theorem d_X0_run_7 : decode cX0_run 7 = .ok (.iload 6, 2) := by decide +kernel
theorem d_X0_run_9 : decode cX0_run 9 = .ok (.iconst (-1), 1) := by decide +kernel
theorem d_X0_run_10 : decode cX0_run 10 = .ok (.if_icmp .eq 10, 3) := by decide +kernel
theorem d_X0_run_13 : decode cX0_run 13 = .ok (.iload 5, 2) := by decide +kernel
theorem d_X0_run_15 : decode cX0_run 15 = .ok (.bipush 24, 2) := by decide +kernel
theorem d_X0_run_17 : decode cX0_run 17 = .ok (.if_icmp .le 5, 3) := by decide +kernel
theorem d_X0_run_20 : decode cX0_run 20 = .ok (.iconst 0, 1) := by decide +kernel
theorem d_X0_run_21 : decode cX0_run 21 = .ok (.ireturn, 1) := by decide +kernel
theorem d_X0_run_22 : decode cX0_run 22 = .ok (.getstatic 28, 3) := by decide +kernel
theorem d_X0_run_25 : decode cX0_run 25 = .ok (.iload 6, 2) := by decide +kernel
theorem d_X0_run_27 : decode cX0_run 27 = .ok (.iconst 4, 1) := by decide +kernel
theorem d_X0_run_28 : decode cX0_run 28 = .ok (.imul, 1) := by decide +kernel
theorem d_X0_run_29 : decode cX0_run 29 = .ok (.iload_n 3, 1) := by decide +kernel
theorem d_X0_run_30 : decode cX0_run 30 = .ok (.iadd, 1) := by decide +kernel
theorem d_X0_run_31 : decode cX0_run 31 = .ok (.iaload, 1) := by decide +kernel
theorem d_X0_run_32 : decode cX0_run 32 = .ok (.istore 7, 2) := by decide +kernel
theorem d_X0_run_34 : decode cX0_run 34 = .ok (.getstatic 31, 3) := by decide +kernel
theorem d_X0_run_37 : decode cX0_run 37 = .ok (.iload 6, 2) := by decide +kernel
theorem d_X0_run_39 : decode cX0_run 39 = .ok (.iaload, 1) := by decide +kernel
theorem d_X0_run_40 : decode cX0_run 40 = .ok (.istore 8, 2) := by decide +kernel
theorem d_X0_run_42 : decode cX0_run 42 = .ok (.iload 5, 2) := by decide +kernel
theorem d_X0_run_44 : decode cX0_run 44 = .ok (.iconst 1, 1) := by decide +kernel
theorem d_X0_run_45 : decode cX0_run 45 = .ok (.iadd, 1) := by decide +kernel
theorem d_X0_run_46 : decode cX0_run 46 = .ok (.istore 9, 2) := by decide +kernel
theorem d_X0_run_48 : decode cX0_run 48 = .ok (.aload_n 0, 1) := by decide +kernel
theorem d_X0_run_49 : decode cX0_run 49 = .ok (.iload 7, 2) := by decide +kernel
theorem d_X0_run_51 : decode cX0_run 51 = .ok (.invokevirtual 38, 3) := by decide +kernel
theorem d_X0_run_54 : decode cX0_run 54 = .ok (.iload 7, 2) := by decide +kernel
theorem d_X0_run_56 : decode cX0_run 56 = .ok (.lookupswitch 331 #[(10, 108), (11, 116), (12, 133), (13, 141), (20, 171), (21, 189), (30, 204), (40, 234), (41, 249), (50, 267), (51, 285), (60, 303)], 108) := by decide +kernel
theorem d_X0_run_164 : decode cX0_run 164 = .ok (.iload 4, 2) := by decide +kernel
theorem d_X0_run_166 : decode cX0_run 166 = .ok (.aload_n 1, 1) := by decide +kernel
theorem d_X0_run_167 : decode cX0_run 167 = .ok (.getfield 42, 3) := by decide +kernel
theorem d_X0_run_170 : decode cX0_run 170 = .ok (.iadd, 1) := by decide +kernel
theorem d_X0_run_171 : decode cX0_run 171 = .ok (.ireturn, 1) := by decide +kernel
theorem d_X0_run_172 : decode cX0_run 172 = .ok (.aload_n 0, 1) := by decide +kernel
theorem d_X0_run_173 : decode cX0_run 173 = .ok (.aload_n 1, 1) := by decide +kernel
theorem d_X0_run_174 : decode cX0_run 174 = .ok (.aload_n 1, 1) := by decide +kernel
theorem d_X0_run_175 : decode cX0_run 175 = .ok (.getfield 19, 3) := by decide +kernel
theorem d_X0_run_178 : decode cX0_run 178 = .ok (.iconst 0, 1) := by decide +kernel
theorem d_X0_run_179 : decode cX0_run 179 = .ok (.iload 4, 2) := by decide +kernel
theorem d_X0_run_181 : decode cX0_run 181 = .ok (.iload 9, 2) := by decide +kernel
theorem d_X0_run_183 : decode cX0_run 183 = .ok (.invokestatic 24, 3) := by decide +kernel
theorem d_X0_run_186 : decode cX0_run 186 = .ok (.iconst 2, 1) := by decide +kernel
theorem d_X0_run_187 : decode cX0_run 187 = .ok (.imul, 1) := by decide +kernel
theorem d_X0_run_188 : decode cX0_run 188 = .ok (.ireturn, 1) := by decide +kernel
theorem d_X0_run_189 : decode cX0_run 189 = .ok (.iload 4, 2) := by decide +kernel
theorem d_X0_run_191 : decode cX0_run 191 = .ok (.aload_n 1, 1) := by decide +kernel
theorem d_X0_run_192 : decode cX0_run 192 = .ok (.getfield 45, 3) := by decide +kernel
theorem d_X0_run_195 : decode cX0_run 195 = .ok (.isub, 1) := by decide +kernel
theorem d_X0_run_196 : decode cX0_run 196 = .ok (.ireturn, 1) := by decide +kernel
theorem d_X0_run_197 : decode cX0_run 197 = .ok (.aload_n 0, 1) := by decide +kernel
theorem d_X0_run_198 : decode cX0_run 198 = .ok (.aload_n 1, 1) := by decide +kernel
theorem d_X0_run_199 : decode cX0_run 199 = .ok (.aload_n 1, 1) := by decide +kernel
theorem d_X0_run_200 : decode cX0_run 200 = .ok (.getfield 19, 3) := by decide +kernel
theorem d_X0_run_203 : decode cX0_run 203 = .ok (.iconst 1, 1) := by decide +kernel
theorem d_X0_run_204 : decode cX0_run 204 = .ok (.iload 4, 2) := by decide +kernel
theorem d_X0_run_206 : decode cX0_run 206 = .ok (.iload 9, 2) := by decide +kernel
theorem d_X0_run_208 : decode cX0_run 208 = .ok (.invokestatic 24, 3) := by decide +kernel
theorem d_X0_run_211 : decode cX0_run 211 = .ok (.aload_n 0, 1) := by decide +kernel
theorem d_X0_run_212 : decode cX0_run 212 = .ok (.aload_n 1, 1) := by decide +kernel
theorem d_X0_run_213 : decode cX0_run 213 = .ok (.aload_n 1, 1) := by decide +kernel
theorem d_X0_run_214 : decode cX0_run 214 = .ok (.getfield 19, 3) := by decide +kernel
theorem d_X0_run_217 : decode cX0_run 217 = .ok (.iconst 2, 1) := by decide +kernel
theorem d_X0_run_218 : decode cX0_run 218 = .ok (.iload 4, 2) := by decide +kernel
theorem d_X0_run_220 : decode cX0_run 220 = .ok (.iload 9, 2) := by decide +kernel
theorem d_X0_run_222 : decode cX0_run 222 = .ok (.invokestatic 24, 3) := by decide +kernel
theorem d_X0_run_225 : decode cX0_run 225 = .ok (.ixor, 1) := by decide +kernel
theorem d_X0_run_226 : decode cX0_run 226 = .ok (.ireturn, 1) := by decide +kernel
theorem d_X0_run_227 : decode cX0_run 227 = .ok (.aload_n 0, 1) := by decide +kernel
theorem d_X0_run_228 : decode cX0_run 228 = .ok (.aload_n 1, 1) := by decide +kernel
theorem d_X0_run_229 : decode cX0_run 229 = .ok (.iload 8, 2) := by decide +kernel
theorem d_X0_run_231 : decode cX0_run 231 = .ok (.iconst 0, 1) := by decide +kernel
theorem d_X0_run_232 : decode cX0_run 232 = .ok (.iload 4, 2) := by decide +kernel
theorem d_X0_run_234 : decode cX0_run 234 = .ok (.iload 9, 2) := by decide +kernel
theorem d_X0_run_236 : decode cX0_run 236 = .ok (.invokestatic 24, 3) := by decide +kernel
theorem d_X0_run_239 : decode cX0_run 239 = .ok (.aload_n 1, 1) := by decide +kernel
theorem d_X0_run_240 : decode cX0_run 240 = .ok (.getfield 48, 3) := by decide +kernel
theorem d_X0_run_243 : decode cX0_run 243 = .ok (.isub, 1) := by decide +kernel
theorem d_X0_run_244 : decode cX0_run 244 = .ok (.ireturn, 1) := by decide +kernel
theorem d_X0_run_245 : decode cX0_run 245 = .ok (.aload_n 0, 1) := by decide +kernel
theorem d_X0_run_246 : decode cX0_run 246 = .ok (.aload_n 1, 1) := by decide +kernel
theorem d_X0_run_247 : decode cX0_run 247 = .ok (.iload 8, 2) := by decide +kernel
theorem d_X0_run_249 : decode cX0_run 249 = .ok (.iconst 3, 1) := by decide +kernel
theorem d_X0_run_250 : decode cX0_run 250 = .ok (.iload 4, 2) := by decide +kernel
theorem d_X0_run_252 : decode cX0_run 252 = .ok (.iconst 1, 1) := by decide +kernel
theorem d_X0_run_253 : decode cX0_run 253 = .ok (.iadd, 1) := by decide +kernel
theorem d_X0_run_254 : decode cX0_run 254 = .ok (.iload 9, 2) := by decide +kernel
theorem d_X0_run_256 : decode cX0_run 256 = .ok (.invokestatic 24, 3) := by decide +kernel
theorem d_X0_run_259 : decode cX0_run 259 = .ok (.ireturn, 1) := by decide +kernel
theorem d_X0_run_260 : decode cX0_run 260 = .ok (.aload_n 0, 1) := by decide +kernel
theorem d_X0_run_261 : decode cX0_run 261 = .ok (.aload_n 1, 1) := by decide +kernel
theorem d_X0_run_262 : decode cX0_run 262 = .ok (.iload 8, 2) := by decide +kernel
theorem d_X0_run_264 : decode cX0_run 264 = .ok (.iconst 1, 1) := by decide +kernel
theorem d_X0_run_265 : decode cX0_run 265 = .ok (.iload 4, 2) := by decide +kernel
theorem d_X0_run_267 : decode cX0_run 267 = .ok (.iload 9, 2) := by decide +kernel
theorem d_X0_run_269 : decode cX0_run 269 = .ok (.invokestatic 24, 3) := by decide +kernel
theorem d_X0_run_272 : decode cX0_run 272 = .ok (.aload_n 0, 1) := by decide +kernel
theorem d_X0_run_273 : decode cX0_run 273 = .ok (.aload_n 1, 1) := by decide +kernel
theorem d_X0_run_274 : decode cX0_run 274 = .ok (.aload_n 1, 1) := by decide +kernel
theorem d_X0_run_275 : decode cX0_run 275 = .ok (.getfield 19, 3) := by decide +kernel
theorem d_X0_run_278 : decode cX0_run 278 = .ok (.iconst 2, 1) := by decide +kernel
theorem d_X0_run_279 : decode cX0_run 279 = .ok (.aload_n 1, 1) := by decide +kernel
theorem d_X0_run_280 : decode cX0_run 280 = .ok (.getfield 48, 3) := by decide +kernel
theorem d_X0_run_283 : decode cX0_run 283 = .ok (.iload 9, 2) := by decide +kernel
theorem d_X0_run_285 : decode cX0_run 285 = .ok (.invokestatic 24, 3) := by decide +kernel
theorem d_X0_run_288 : decode cX0_run 288 = .ok (.iadd, 1) := by decide +kernel
theorem d_X0_run_289 : decode cX0_run 289 = .ok (.ireturn, 1) := by decide +kernel
theorem d_X0_run_290 : decode cX0_run 290 = .ok (.aload_n 0, 1) := by decide +kernel
theorem d_X0_run_291 : decode cX0_run 291 = .ok (.aload_n 1, 1) := by decide +kernel
theorem d_X0_run_292 : decode cX0_run 292 = .ok (.iload 8, 2) := by decide +kernel
theorem d_X0_run_294 : decode cX0_run 294 = .ok (.iconst 2, 1) := by decide +kernel
theorem d_X0_run_295 : decode cX0_run 295 = .ok (.iload 4, 2) := by decide +kernel
theorem d_X0_run_297 : decode cX0_run 297 = .ok (.iload 9, 2) := by decide +kernel
theorem d_X0_run_299 : decode cX0_run 299 = .ok (.invokestatic 24, 3) := by decide +kernel
theorem d_X0_run_302 : decode cX0_run 302 = .ok (.iconst 3, 1) := by decide +kernel
theorem d_X0_run_303 : decode cX0_run 303 = .ok (.imul, 1) := by decide +kernel
theorem d_X0_run_304 : decode cX0_run 304 = .ok (.ireturn, 1) := by decide +kernel
theorem d_X0_run_305 : decode cX0_run 305 = .ok (.aload_n 0, 1) := by decide +kernel
theorem d_X0_run_306 : decode cX0_run 306 = .ok (.aload_n 1, 1) := by decide +kernel
theorem d_X0_run_307 : decode cX0_run 307 = .ok (.iload 8, 2) := by decide +kernel
theorem d_X0_run_309 : decode cX0_run 309 = .ok (.iconst 0, 1) := by decide +kernel
theorem d_X0_run_310 : decode cX0_run 310 = .ok (.iload 4, 2) := by decide +kernel
theorem d_X0_run_312 : decode cX0_run 312 = .ok (.aload_n 1, 1) := by decide +kernel
theorem d_X0_run_313 : decode cX0_run 313 = .ok (.getfield 45, 3) := by decide +kernel
theorem d_X0_run_316 : decode cX0_run 316 = .ok (.iadd, 1) := by decide +kernel
theorem d_X0_run_317 : decode cX0_run 317 = .ok (.iload 9, 2) := by decide +kernel
theorem d_X0_run_319 : decode cX0_run 319 = .ok (.invokestatic 24, 3) := by decide +kernel
theorem d_X0_run_322 : decode cX0_run 322 = .ok (.ireturn, 1) := by decide +kernel
theorem d_X0_run_323 : decode cX0_run 323 = .ok (.aload_n 0, 1) := by decide +kernel
theorem d_X0_run_324 : decode cX0_run 324 = .ok (.aload_n 1, 1) := by decide +kernel
theorem d_X0_run_325 : decode cX0_run 325 = .ok (.iload 8, 2) := by decide +kernel
theorem d_X0_run_327 : decode cX0_run 327 = .ok (.iconst 1, 1) := by decide +kernel
theorem d_X0_run_328 : decode cX0_run 328 = .ok (.iload 4, 2) := by decide +kernel
theorem d_X0_run_330 : decode cX0_run 330 = .ok (.iload 9, 2) := by decide +kernel
theorem d_X0_run_332 : decode cX0_run 332 = .ok (.invokestatic 24, 3) := by decide +kernel
theorem d_X0_run_335 : decode cX0_run 335 = .ok (.aload_n 1, 1) := by decide +kernel
theorem d_X0_run_336 : decode cX0_run 336 = .ok (.getfield 42, 3) := by decide +kernel
theorem d_X0_run_339 : decode cX0_run 339 = .ok (.ixor, 1) := by decide +kernel
theorem d_X0_run_340 : decode cX0_run 340 = .ok (.ireturn, 1) := by decide +kernel
theorem d_X0_run_341 : decode cX0_run 341 = .ok (.aload_n 0, 1) := by decide +kernel
theorem d_X0_run_342 : decode cX0_run 342 = .ok (.aload_n 1, 1) := by decide +kernel
theorem d_X0_run_343 : decode cX0_run 343 = .ok (.iload 8, 2) := by decide +kernel
theorem d_X0_run_345 : decode cX0_run 345 = .ok (.iconst 2, 1) := by decide +kernel
theorem d_X0_run_346 : decode cX0_run 346 = .ok (.iload 4, 2) := by decide +kernel
theorem d_X0_run_348 : decode cX0_run 348 = .ok (.aload_n 1, 1) := by decide +kernel
theorem d_X0_run_349 : decode cX0_run 349 = .ok (.getfield 48, 3) := by decide +kernel
theorem d_X0_run_352 : decode cX0_run 352 = .ok (.iadd, 1) := by decide +kernel
theorem d_X0_run_353 : decode cX0_run 353 = .ok (.iload 9, 2) := by decide +kernel
theorem d_X0_run_355 : decode cX0_run 355 = .ok (.invokestatic 24, 3) := by decide +kernel
theorem d_X0_run_358 : decode cX0_run 358 = .ok (.ireturn, 1) := by decide +kernel
theorem d_X0_run_359 : decode cX0_run 359 = .ok (.aload_n 0, 1) := by decide +kernel
theorem d_X0_run_360 : decode cX0_run 360 = .ok (.aload_n 1, 1) := by decide +kernel
theorem d_X0_run_361 : decode cX0_run 361 = .ok (.aload_n 1, 1) := by decide +kernel
theorem d_X0_run_362 : decode cX0_run 362 = .ok (.getfield 19, 3) := by decide +kernel
theorem d_X0_run_365 : decode cX0_run 365 = .ok (.iconst 2, 1) := by decide +kernel
theorem d_X0_run_366 : decode cX0_run 366 = .ok (.iload 4, 2) := by decide +kernel
theorem d_X0_run_368 : decode cX0_run 368 = .ok (.iload 9, 2) := by decide +kernel
theorem d_X0_run_370 : decode cX0_run 370 = .ok (.invokestatic 24, 3) := by decide +kernel
theorem d_X0_run_373 : decode cX0_run 373 = .ok (.aload_n 0, 1) := by decide +kernel
theorem d_X0_run_374 : decode cX0_run 374 = .ok (.aload_n 1, 1) := by decide +kernel
theorem d_X0_run_375 : decode cX0_run 375 = .ok (.iload 8, 2) := by decide +kernel
theorem d_X0_run_377 : decode cX0_run 377 = .ok (.iconst 3, 1) := by decide +kernel
theorem d_X0_run_378 : decode cX0_run 378 = .ok (.iload 4, 2) := by decide +kernel
theorem d_X0_run_380 : decode cX0_run 380 = .ok (.iload 9, 2) := by decide +kernel
theorem d_X0_run_382 : decode cX0_run 382 = .ok (.invokestatic 24, 3) := by decide +kernel
theorem d_X0_run_385 : decode cX0_run 385 = .ok (.isub, 1) := by decide +kernel
theorem d_X0_run_386 : decode cX0_run 386 = .ok (.ireturn, 1) := by decide +kernel
theorem d_X0_run_387 : decode cX0_run 387 = .ok (.iconst 0, 1) := by decide +kernel
theorem d_X0_run_388 : decode cX0_run 388 = .ok (.ireturn, 1) := by decide +kernel
theorem d_X1_init_0 : decode cX1_init 0 = .ok (.aload_n 0, 1) := by decide +kernel
theorem d_X1_init_1 : decode cX1_init 1 = .ok (.invokespecial 3, 3) := by decide +kernel
theorem d_X1_init_4 : decode cX1_init 4 = .ok (.aload_n 0, 1) := by decide +kernel
theorem d_X1_init_5 : decode cX1_init 5 = .ok (.iconst 0, 1) := by decide +kernel
theorem d_X1_init_6 : decode cX1_init 6 = .ok (.putfield 9, 3) := by decide +kernel
theorem d_X1_init_9 : decode cX1_init 9 = .ok (.aload_n 0, 1) := by decide +kernel
theorem d_X1_init_10 : decode cX1_init 10 = .ok (.iconst 0, 1) := by decide +kernel
theorem d_X1_init_11 : decode cX1_init 11 = .ok (.putfield 15, 3) := by decide +kernel
theorem d_X1_init_14 : decode cX1_init 14 = .ok (.aload_n 0, 1) := by decide +kernel
theorem d_X1_init_15 : decode cX1_init 15 = .ok (.iconst 0, 1) := by decide +kernel
theorem d_X1_init_16 : decode cX1_init 16 = .ok (.putfield 18, 3) := by decide +kernel
theorem d_X1_init_19 : decode cX1_init 19 = .ok (.aload_n 0, 1) := by decide +kernel
theorem d_X1_init_20 : decode cX1_init 20 = .ok (.iconst 0, 1) := by decide +kernel
theorem d_X1_init_21 : decode cX1_init 21 = .ok (.putfield 21, 3) := by decide +kernel
theorem d_X1_init_24 : decode cX1_init 24 = .ok (.aload_n 0, 1) := by decide +kernel
theorem d_X1_init_25 : decode cX1_init 25 = .ok (.iconst 0, 1) := by decide +kernel
theorem d_X1_init_26 : decode cX1_init 26 = .ok (.putfield 24, 3) := by decide +kernel
theorem d_X1_init_29 : decode cX1_init 29 = .ok (.return_, 1) := by decide +kernel
theorem d_X1_begin_0 : decode cX1_begin 0 = .ok (.aload_n 0, 1) := by decide +kernel
theorem d_X1_begin_1 : decode cX1_begin 1 = .ok (.iload_n 2, 1) := by decide +kernel
theorem d_X1_begin_2 : decode cX1_begin 2 = .ok (.putfield 9, 3) := by decide +kernel
theorem d_X1_begin_5 : decode cX1_begin 5 = .ok (.aload_n 0, 1) := by decide +kernel
theorem d_X1_begin_6 : decode cX1_begin 6 = .ok (.iload_n 3, 1) := by decide +kernel
theorem d_X1_begin_7 : decode cX1_begin 7 = .ok (.putfield 15, 3) := by decide +kernel
theorem d_X1_begin_10 : decode cX1_begin 10 = .ok (.aload_n 0, 1) := by decide +kernel
theorem d_X1_begin_11 : decode cX1_begin 11 = .ok (.iload 4, 2) := by decide +kernel
theorem d_X1_begin_13 : decode cX1_begin 13 = .ok (.putfield 18, 3) := by decide +kernel
theorem d_X1_begin_16 : decode cX1_begin 16 = .ok (.aload_n 0, 1) := by decide +kernel
theorem d_X1_begin_17 : decode cX1_begin 17 = .ok (.iconst 0, 1) := by decide +kernel
theorem d_X1_begin_18 : decode cX1_begin 18 = .ok (.putfield 21, 3) := by decide +kernel
theorem d_X1_begin_21 : decode cX1_begin 21 = .ok (.aload_n 0, 1) := by decide +kernel
theorem d_X1_begin_22 : decode cX1_begin 22 = .ok (.iload_n 1, 1) := by decide +kernel
theorem d_X1_begin_23 : decode cX1_begin 23 = .ok (.putfield 24, 3) := by decide +kernel
theorem d_X1_begin_26 : decode cX1_begin 26 = .ok (.return_, 1) := by decide +kernel
theorem d_X1_copyFrom_0 : decode cX1_copyFrom 0 = .ok (.aload_n 0, 1) := by decide +kernel
theorem d_X1_copyFrom_1 : decode cX1_copyFrom 1 = .ok (.aload_n 1, 1) := by decide +kernel
theorem d_X1_copyFrom_2 : decode cX1_copyFrom 2 = .ok (.getfield 9, 3) := by decide +kernel
theorem d_X1_copyFrom_5 : decode cX1_copyFrom 5 = .ok (.putfield 9, 3) := by decide +kernel
theorem d_X1_copyFrom_8 : decode cX1_copyFrom 8 = .ok (.aload_n 0, 1) := by decide +kernel
theorem d_X1_copyFrom_9 : decode cX1_copyFrom 9 = .ok (.aload_n 1, 1) := by decide +kernel
theorem d_X1_copyFrom_10 : decode cX1_copyFrom 10 = .ok (.getfield 15, 3) := by decide +kernel
theorem d_X1_copyFrom_13 : decode cX1_copyFrom 13 = .ok (.putfield 15, 3) := by decide +kernel
theorem d_X1_copyFrom_16 : decode cX1_copyFrom 16 = .ok (.aload_n 0, 1) := by decide +kernel
theorem d_X1_copyFrom_17 : decode cX1_copyFrom 17 = .ok (.aload_n 1, 1) := by decide +kernel
theorem d_X1_copyFrom_18 : decode cX1_copyFrom 18 = .ok (.getfield 18, 3) := by decide +kernel
theorem d_X1_copyFrom_21 : decode cX1_copyFrom 21 = .ok (.putfield 18, 3) := by decide +kernel
theorem d_X1_copyFrom_24 : decode cX1_copyFrom 24 = .ok (.aload_n 0, 1) := by decide +kernel
theorem d_X1_copyFrom_25 : decode cX1_copyFrom 25 = .ok (.aload_n 1, 1) := by decide +kernel
theorem d_X1_copyFrom_26 : decode cX1_copyFrom 26 = .ok (.getfield 21, 3) := by decide +kernel
theorem d_X1_copyFrom_29 : decode cX1_copyFrom 29 = .ok (.putfield 21, 3) := by decide +kernel
theorem d_X1_copyFrom_32 : decode cX1_copyFrom 32 = .ok (.aload_n 0, 1) := by decide +kernel
theorem d_X1_copyFrom_33 : decode cX1_copyFrom 33 = .ok (.aload_n 1, 1) := by decide +kernel
theorem d_X1_copyFrom_34 : decode cX1_copyFrom 34 = .ok (.getfield 24, 3) := by decide +kernel
theorem d_X1_copyFrom_37 : decode cX1_copyFrom 37 = .ok (.putfield 24, 3) := by decide +kernel
theorem d_X1_copyFrom_40 : decode cX1_copyFrom 40 = .ok (.return_, 1) := by decide +kernel
theorem d_X2_init_0 : decode cX2_init 0 = .ok (.aload_n 0, 1) := by decide +kernel
theorem d_X2_init_1 : decode cX2_init 1 = .ok (.invokespecial 3, 3) := by decide +kernel
theorem d_X2_init_4 : decode cX2_init 4 = .ok (.aload_n 0, 1) := by decide +kernel
theorem d_X2_init_5 : decode cX2_init 5 = .ok (.iconst 0, 1) := by decide +kernel
theorem d_X2_init_6 : decode cX2_init 6 = .ok (.putfield 9, 3) := by decide +kernel
theorem d_X2_init_9 : decode cX2_init 9 = .ok (.aload_n 0, 1) := by decide +kernel
theorem d_X2_init_10 : decode cX2_init 10 = .ok (.iconst 0, 1) := by decide +kernel
theorem d_X2_init_11 : decode cX2_init 11 = .ok (.putfield 15, 3) := by decide +kernel
theorem d_X2_init_14 : decode cX2_init 14 = .ok (.aload_n 0, 1) := by decide +kernel
theorem d_X2_init_15 : decode cX2_init 15 = .ok (.iconst 0, 1) := by decide +kernel
theorem d_X2_init_16 : decode cX2_init 16 = .ok (.putfield 18, 3) := by decide +kernel
theorem d_X2_init_19 : decode cX2_init 19 = .ok (.aload_n 0, 1) := by decide +kernel
theorem d_X2_init_20 : decode cX2_init 20 = .ok (.iconst 0, 1) := by decide +kernel
theorem d_X2_init_21 : decode cX2_init 21 = .ok (.putfield 21, 3) := by decide +kernel
theorem d_X2_init_24 : decode cX2_init 24 = .ok (.aload_n 0, 1) := by decide +kernel
theorem d_X2_init_25 : decode cX2_init 25 = .ok (.iconst 0, 1) := by decide +kernel
theorem d_X2_init_26 : decode cX2_init 26 = .ok (.putfield 24, 3) := by decide +kernel
theorem d_X2_init_29 : decode cX2_init 29 = .ok (.aload_n 0, 1) := by decide +kernel
theorem d_X2_init_30 : decode cX2_init 30 = .ok (.iconst 0, 1) := by decide +kernel
theorem d_X2_init_31 : decode cX2_init 31 = .ok (.putfield 27, 3) := by decide +kernel
theorem d_X2_init_34 : decode cX2_init 34 = .ok (.aload_n 0, 1) := by decide +kernel
theorem d_X2_init_35 : decode cX2_init 35 = .ok (.iconst 0, 1) := by decide +kernel
theorem d_X2_init_36 : decode cX2_init 36 = .ok (.putfield 30, 3) := by decide +kernel
theorem d_X2_init_39 : decode cX2_init 39 = .ok (.aload_n 0, 1) := by decide +kernel
theorem d_X2_init_40 : decode cX2_init 40 = .ok (.iconst 0, 1) := by decide +kernel
theorem d_X2_init_41 : decode cX2_init 41 = .ok (.putfield 33, 3) := by decide +kernel
theorem d_X2_init_44 : decode cX2_init 44 = .ok (.aload_n 0, 1) := by decide +kernel
theorem d_X2_init_45 : decode cX2_init 45 = .ok (.iconst 0, 1) := by decide +kernel
theorem d_X2_init_46 : decode cX2_init 46 = .ok (.putfield 36, 3) := by decide +kernel
theorem d_X2_init_49 : decode cX2_init 49 = .ok (.aload_n 0, 1) := by decide +kernel
theorem d_X2_init_50 : decode cX2_init 50 = .ok (.new 39, 3) := by decide +kernel
theorem d_X2_init_53 : decode cX2_init 53 = .ok (.dup, 1) := by decide +kernel
theorem d_X2_init_54 : decode cX2_init 54 = .ok (.invokespecial 41, 3) := by decide +kernel
theorem d_X2_init_57 : decode cX2_init 57 = .ok (.putfield 42, 3) := by decide +kernel
theorem d_X2_init_60 : decode cX2_init 60 = .ok (.return_, 1) := by decide +kernel
theorem d_X2_begin_0 : decode cX2_begin 0 = .ok (.aload_n 0, 1) := by decide +kernel
theorem d_X2_begin_1 : decode cX2_begin 1 = .ok (.iload_n 2, 1) := by decide +kernel
theorem d_X2_begin_2 : decode cX2_begin 2 = .ok (.putfield 9, 3) := by decide +kernel
theorem d_X2_begin_5 : decode cX2_begin 5 = .ok (.aload_n 0, 1) := by decide +kernel
theorem d_X2_begin_6 : decode cX2_begin 6 = .ok (.iload_n 3, 1) := by decide +kernel
theorem d_X2_begin_7 : decode cX2_begin 7 = .ok (.putfield 15, 3) := by decide +kernel
theorem d_X2_begin_10 : decode cX2_begin 10 = .ok (.aload_n 0, 1) := by decide +kernel
theorem d_X2_begin_11 : decode cX2_begin 11 = .ok (.iload 4, 2) := by decide +kernel
theorem d_X2_begin_13 : decode cX2_begin 13 = .ok (.putfield 18, 3) := by decide +kernel
theorem d_X2_begin_16 : decode cX2_begin 16 = .ok (.aload_n 0, 1) := by decide +kernel
theorem d_X2_begin_17 : decode cX2_begin 17 = .ok (.iload 4, 2) := by decide +kernel
theorem d_X2_begin_19 : decode cX2_begin 19 = .ok (.putfield 21, 3) := by decide +kernel
theorem d_X2_begin_22 : decode cX2_begin 22 = .ok (.aload_n 0, 1) := by decide +kernel
theorem d_X2_begin_23 : decode cX2_begin 23 = .ok (.iconst 0, 1) := by decide +kernel
theorem d_X2_begin_24 : decode cX2_begin 24 = .ok (.putfield 24, 3) := by decide +kernel
theorem d_X2_begin_27 : decode cX2_begin 27 = .ok (.aload_n 0, 1) := by decide +kernel
theorem d_X2_begin_28 : decode cX2_begin 28 = .ok (.iconst 0, 1) := by decide +kernel
theorem d_X2_begin_29 : decode cX2_begin 29 = .ok (.putfield 27, 3) := by decide +kernel
theorem d_X2_begin_32 : decode cX2_begin 32 = .ok (.aload_n 0, 1) := by decide +kernel
theorem d_X2_begin_33 : decode cX2_begin 33 = .ok (.iload_n 1, 1) := by decide +kernel
theorem d_X2_begin_34 : decode cX2_begin 34 = .ok (.putfield 30, 3) := by decide +kernel
theorem d_X2_begin_37 : decode cX2_begin 37 = .ok (.aload_n 0, 1) := by decide +kernel
theorem d_X2_begin_38 : decode cX2_begin 38 = .ok (.getfield 42, 3) := by decide +kernel
theorem d_X2_begin_41 : decode cX2_begin 41 = .ok (.invokevirtual 46, 3) := by decide +kernel
theorem d_X2_begin_44 : decode cX2_begin 44 = .ok (.return_, 1) := by decide +kernel
theorem d_X2_copyFrom_0 : decode cX2_copyFrom 0 = .ok (.aload_n 0, 1) := by decide +kernel
theorem d_X2_copyFrom_1 : decode cX2_copyFrom 1 = .ok (.aload_n 1, 1) := by decide +kernel
theorem d_X2_copyFrom_2 : decode cX2_copyFrom 2 = .ok (.getfield 9, 3) := by decide +kernel
theorem d_X2_copyFrom_5 : decode cX2_copyFrom 5 = .ok (.putfield 9, 3) := by decide +kernel
theorem d_X2_copyFrom_8 : decode cX2_copyFrom 8 = .ok (.aload_n 0, 1) := by decide +kernel
theorem d_X2_copyFrom_9 : decode cX2_copyFrom 9 = .ok (.aload_n 1, 1) := by decide +kernel
theorem d_X2_copyFrom_10 : decode cX2_copyFrom 10 = .ok (.getfield 15, 3) := by decide +kernel
theorem d_X2_copyFrom_13 : decode cX2_copyFrom 13 = .ok (.putfield 15, 3) := by decide +kernel
theorem d_X2_copyFrom_16 : decode cX2_copyFrom 16 = .ok (.aload_n 0, 1) := by decide +kernel
theorem d_X2_copyFrom_17 : decode cX2_copyFrom 17 = .ok (.aload_n 1, 1) := by decide +kernel
theorem d_X2_copyFrom_18 : decode cX2_copyFrom 18 = .ok (.getfield 18, 3) := by decide +kernel
theorem d_X2_copyFrom_21 : decode cX2_copyFrom 21 = .ok (.putfield 18, 3) := by decide +kernel
theorem d_X2_copyFrom_24 : decode cX2_copyFrom 24 = .ok (.aload_n 0, 1) := by decide +kernel
theorem d_X2_copyFrom_25 : decode cX2_copyFrom 25 = .ok (.aload_n 1, 1) := by decide +kernel
theorem d_X2_copyFrom_26 : decode cX2_copyFrom 26 = .ok (.getfield 21, 3) := by decide +kernel
theorem d_X2_copyFrom_29 : decode cX2_copyFrom 29 = .ok (.putfield 21, 3) := by decide +kernel
theorem d_X2_copyFrom_32 : decode cX2_copyFrom 32 = .ok (.aload_n 0, 1) := by decide +kernel
theorem d_X2_copyFrom_33 : decode cX2_copyFrom 33 = .ok (.aload_n 1, 1) := by decide +kernel
theorem d_X2_copyFrom_34 : decode cX2_copyFrom 34 = .ok (.getfield 24, 3) := by decide +kernel
theorem d_X2_copyFrom_37 : decode cX2_copyFrom 37 = .ok (.putfield 24, 3) := by decide +kernel
theorem d_X2_copyFrom_40 : decode cX2_copyFrom 40 = .ok (.aload_n 0, 1) := by decide +kernel
theorem d_X2_copyFrom_41 : decode cX2_copyFrom 41 = .ok (.aload_n 1, 1) := by decide +kernel
theorem d_X2_copyFrom_42 : decode cX2_copyFrom 42 = .ok (.getfield 27, 3) := by decide +kernel
theorem d_X2_copyFrom_45 : decode cX2_copyFrom 45 = .ok (.putfield 27, 3) := by decide +kernel
theorem d_X2_copyFrom_48 : decode cX2_copyFrom 48 = .ok (.aload_n 0, 1) := by decide +kernel
theorem d_X2_copyFrom_49 : decode cX2_copyFrom 49 = .ok (.aload_n 1, 1) := by decide +kernel
theorem d_X2_copyFrom_50 : decode cX2_copyFrom 50 = .ok (.getfield 30, 3) := by decide +kernel
theorem d_X2_copyFrom_53 : decode cX2_copyFrom 53 = .ok (.putfield 30, 3) := by decide +kernel
theorem d_X2_copyFrom_56 : decode cX2_copyFrom 56 = .ok (.aload_n 0, 1) := by decide +kernel
theorem d_X2_copyFrom_57 : decode cX2_copyFrom 57 = .ok (.aload_n 1, 1) := by decide +kernel
theorem d_X2_copyFrom_58 : decode cX2_copyFrom 58 = .ok (.getfield 33, 3) := by decide +kernel
theorem d_X2_copyFrom_61 : decode cX2_copyFrom 61 = .ok (.putfield 33, 3) := by decide +kernel
theorem d_X2_copyFrom_64 : decode cX2_copyFrom 64 = .ok (.aload_n 0, 1) := by decide +kernel
theorem d_X2_copyFrom_65 : decode cX2_copyFrom 65 = .ok (.aload_n 1, 1) := by decide +kernel
theorem d_X2_copyFrom_66 : decode cX2_copyFrom 66 = .ok (.getfield 36, 3) := by decide +kernel
theorem d_X2_copyFrom_69 : decode cX2_copyFrom 69 = .ok (.putfield 36, 3) := by decide +kernel
theorem d_X2_copyFrom_72 : decode cX2_copyFrom 72 = .ok (.aload_n 0, 1) := by decide +kernel
theorem d_X2_copyFrom_73 : decode cX2_copyFrom 73 = .ok (.getfield 42, 3) := by decide +kernel
theorem d_X2_copyFrom_76 : decode cX2_copyFrom 76 = .ok (.aload_n 1, 1) := by decide +kernel
theorem d_X2_copyFrom_77 : decode cX2_copyFrom 77 = .ok (.getfield 42, 3) := by decide +kernel
theorem d_X2_copyFrom_80 : decode cX2_copyFrom 80 = .ok (.invokevirtual 49, 3) := by decide +kernel
theorem d_X2_copyFrom_83 : decode cX2_copyFrom 83 = .ok (.return_, 1) := by decide +kernel
theorem d_X2_isUnderWay_0 : decode cX2_isUnderWay 0 = .ok (.aload_n 0, 1) := by decide +kernel
theorem d_X2_isUnderWay_1 : decode cX2_isUnderWay 1 = .ok (.getfield 27, 3) := by decide +kernel
theorem d_X2_isUnderWay_4 : decode cX2_isUnderWay 4 = .ok (.iconst 1, 1) := by decide +kernel
theorem d_X2_isUnderWay_5 : decode cX2_isUnderWay 5 = .ok (.if_icmp .eq 11, 3) := by decide +kernel
theorem d_X2_isUnderWay_8 : decode cX2_isUnderWay 8 = .ok (.aload_n 0, 1) := by decide +kernel
theorem d_X2_isUnderWay_9 : decode cX2_isUnderWay 9 = .ok (.getfield 27, 3) := by decide +kernel
theorem d_X2_isUnderWay_12 : decode cX2_isUnderWay 12 = .ok (.iconst 2, 1) := by decide +kernel
theorem d_X2_isUnderWay_13 : decode cX2_isUnderWay 13 = .ok (.if_icmp .ne 7, 3) := by decide +kernel
theorem d_X2_isUnderWay_16 : decode cX2_isUnderWay 16 = .ok (.iconst 1, 1) := by decide +kernel
theorem d_X2_isUnderWay_17 : decode cX2_isUnderWay 17 = .ok (.goto 4, 3) := by decide +kernel
theorem d_X2_isUnderWay_20 : decode cX2_isUnderWay 20 = .ok (.iconst 0, 1) := by decide +kernel
theorem d_X2_isUnderWay_21 : decode cX2_isUnderWay 21 = .ok (.ireturn, 1) := by decide +kernel
theorem d_X2_stretchToward_0 : decode cX2_stretchToward 0 = .ok (.iload_n 1, 1) := by decide +kernel
theorem d_X2_stretchToward_1 : decode cX2_stretchToward 1 = .ok (.ifCond .eq 10, 3) := by decide +kernel
theorem d_X2_stretchToward_4 : decode cX2_stretchToward 4 = .ok (.aload_n 0, 1) := by decide +kernel
theorem d_X2_stretchToward_5 : decode cX2_stretchToward 5 = .ok (.getfield 30, 3) := by decide +kernel
theorem d_X2_stretchToward_8 : decode cX2_stretchToward 8 = .ok (.goto 9, 3) := by decide +kernel
theorem d_X2_stretchToward_11 : decode cX2_stretchToward 11 = .ok (.aload_n 0, 1) := by decide +kernel
theorem d_X2_stretchToward_12 : decode cX2_stretchToward 12 = .ok (.getfield 30, 3) := by decide +kernel
theorem d_X2_stretchToward_15 : decode cX2_stretchToward 15 = .ok (.iconst 1, 1) := by decide +kernel
theorem d_X2_stretchToward_16 : decode cX2_stretchToward 16 = .ok (.isub, 1) := by decide +kernel
theorem d_X2_stretchToward_17 : decode cX2_stretchToward 17 = .ok (.ireturn, 1) := by decide +kernel
theorem d_X2_draught_0 : decode cX2_draught 0 = .ok (.aload_n 0, 1) := by decide +kernel
theorem d_X2_draught_1 : decode cX2_draught 1 = .ok (.iconst 0, 1) := by decide +kernel
theorem d_X2_draught_2 : decode cX2_draught 2 = .ok (.invokevirtual 53, 3) := by decide +kernel
theorem d_X2_draught_5 : decode cX2_draught 5 = .ok (.ireturn, 1) := by decide +kernel
theorem d_X2_draughtWith_0 : decode cX2_draughtWith 0 = .ok (.aload_n 0, 1) := by decide +kernel
theorem d_X2_draughtWith_1 : decode cX2_draughtWith 1 = .ok (.getfield 9, 3) := by decide +kernel
theorem d_X2_draughtWith_4 : decode cX2_draughtWith 4 = .ok (.aload_n 0, 1) := by decide +kernel
theorem d_X2_draughtWith_5 : decode cX2_draughtWith 5 = .ok (.getfield 24, 3) := by decide +kernel
theorem d_X2_draughtWith_8 : decode cX2_draughtWith 8 = .ok (.iload_n 1, 1) := by decide +kernel
theorem d_X2_draughtWith_9 : decode cX2_draughtWith 9 = .ok (.iadd, 1) := by decide +kernel
theorem d_X2_draughtWith_10 : decode cX2_draughtWith 10 = .ok (.bipush 10, 2) := by decide +kernel
theorem d_X2_draughtWith_12 : decode cX2_draughtWith 12 = .ok (.idiv, 1) := by decide +kernel
theorem d_X2_draughtWith_13 : decode cX2_draughtWith 13 = .ok (.iadd, 1) := by decide +kernel
theorem d_X2_draughtWith_14 : decode cX2_draughtWith 14 = .ok (.ireturn, 1) := by decide +kernel
theorem d_X2_canTake_0 : decode cX2_canTake 0 = .ok (.aload_n 0, 1) := by decide +kernel
theorem d_X2_canTake_1 : decode cX2_canTake 1 = .ok (.getfield 24, 3) := by decide +kernel
theorem d_X2_canTake_4 : decode cX2_canTake 4 = .ok (.iload_n 1, 1) := by decide +kernel
theorem d_X2_canTake_5 : decode cX2_canTake 5 = .ok (.iadd, 1) := by decide +kernel
theorem d_X2_canTake_6 : decode cX2_canTake 6 = .ok (.aload_n 0, 1) := by decide +kernel
theorem d_X2_canTake_7 : decode cX2_canTake 7 = .ok (.getfield 15, 3) := by decide +kernel
theorem d_X2_canTake_10 : decode cX2_canTake 10 = .ok (.if_icmp .gt 16, 3) := by decide +kernel
theorem d_X2_canTake_13 : decode cX2_canTake 13 = .ok (.aload_n 0, 1) := by decide +kernel
theorem d_X2_canTake_14 : decode cX2_canTake 14 = .ok (.iload_n 1, 1) := by decide +kernel
theorem d_X2_canTake_15 : decode cX2_canTake 15 = .ok (.invokevirtual 53, 3) := by decide +kernel
theorem d_X2_canTake_18 : decode cX2_canTake 18 = .ok (.iload_n 2, 1) := by decide +kernel
theorem d_X2_canTake_19 : decode cX2_canTake 19 = .ok (.if_icmp .gt 7, 3) := by decide +kernel
theorem d_X2_canTake_22 : decode cX2_canTake 22 = .ok (.iconst 1, 1) := by decide +kernel
theorem d_X2_canTake_23 : decode cX2_canTake 23 = .ok (.goto 4, 3) := by decide +kernel
theorem d_X2_canTake_26 : decode cX2_canTake 26 = .ok (.iconst 0, 1) := by decide +kernel
theorem d_X2_canTake_27 : decode cX2_canTake 27 = .ok (.ireturn, 1) := by decide +kernel
theorem d_X3_init_0 : decode cX3_init 0 = .ok (.aload_n 0, 1) := by decide +kernel
theorem d_X3_init_1 : decode cX3_init 1 = .ok (.invokespecial 1, 3) := by decide +kernel
theorem d_X3_init_4 : decode cX3_init 4 = .ok (.aload_n 0, 1) := by decide +kernel
theorem d_X3_init_5 : decode cX3_init 5 = .ok (.iconst 0, 1) := by decide +kernel
theorem d_X3_init_6 : decode cX3_init 6 = .ok (.putfield 7, 3) := by decide +kernel
theorem d_X3_init_9 : decode cX3_init 9 = .ok (.aload_n 0, 1) := by decide +kernel
theorem d_X3_init_10 : decode cX3_init 10 = .ok (.new 13, 3) := by decide +kernel
theorem d_X3_init_13 : decode cX3_init 13 = .ok (.dup, 1) := by decide +kernel
theorem d_X3_init_14 : decode cX3_init 14 = .ok (.invokespecial 15, 3) := by decide +kernel
theorem d_X3_init_17 : decode cX3_init 17 = .ok (.putfield 16, 3) := by decide +kernel
theorem d_X3_init_20 : decode cX3_init 20 = .ok (.return_, 1) := by decide +kernel
theorem d_X3_copyFrom_0 : decode cX3_copyFrom 0 = .ok (.aload_n 0, 1) := by decide +kernel
theorem d_X3_copyFrom_1 : decode cX3_copyFrom 1 = .ok (.aload_n 1, 1) := by decide +kernel
theorem d_X3_copyFrom_2 : decode cX3_copyFrom 2 = .ok (.getfield 7, 3) := by decide +kernel
theorem d_X3_copyFrom_5 : decode cX3_copyFrom 5 = .ok (.putfield 7, 3) := by decide +kernel
theorem d_X3_copyFrom_8 : decode cX3_copyFrom 8 = .ok (.aload_n 0, 1) := by decide +kernel
theorem d_X3_copyFrom_9 : decode cX3_copyFrom 9 = .ok (.getfield 16, 3) := by decide +kernel
theorem d_X3_copyFrom_12 : decode cX3_copyFrom 12 = .ok (.aload_n 1, 1) := by decide +kernel
theorem d_X3_copyFrom_13 : decode cX3_copyFrom 13 = .ok (.getfield 16, 3) := by decide +kernel
theorem d_X3_copyFrom_16 : decode cX3_copyFrom 16 = .ok (.invokevirtual 20, 3) := by decide +kernel
theorem d_X3_copyFrom_19 : decode cX3_copyFrom 19 = .ok (.return_, 1) := by decide +kernel
theorem d_X4_init_0 : decode cX4_init 0 = .ok (.aload_n 0, 1) := by decide +kernel
theorem d_X4_init_1 : decode cX4_init 1 = .ok (.invokespecial 3, 3) := by decide +kernel
theorem d_X4_init_4 : decode cX4_init 4 = .ok (.aload_n 0, 1) := by decide +kernel
theorem d_X4_init_5 : decode cX4_init 5 = .ok (.iconst 0, 1) := by decide +kernel
theorem d_X4_init_6 : decode cX4_init 6 = .ok (.putfield 9, 3) := by decide +kernel
theorem d_X4_init_9 : decode cX4_init 9 = .ok (.aload_n 0, 1) := by decide +kernel
theorem d_X4_init_10 : decode cX4_init 10 = .ok (.iconst 0, 1) := by decide +kernel
theorem d_X4_init_11 : decode cX4_init 11 = .ok (.putfield 15, 3) := by decide +kernel
theorem d_X4_init_14 : decode cX4_init 14 = .ok (.aload_n 0, 1) := by decide +kernel
theorem d_X4_init_15 : decode cX4_init 15 = .ok (.iconst 0, 1) := by decide +kernel
theorem d_X4_init_16 : decode cX4_init 16 = .ok (.putfield 18, 3) := by decide +kernel
theorem d_X4_init_19 : decode cX4_init 19 = .ok (.aload_n 0, 1) := by decide +kernel
theorem d_X4_init_20 : decode cX4_init 20 = .ok (.iconst 0, 1) := by decide +kernel
theorem d_X4_init_21 : decode cX4_init 21 = .ok (.putfield 21, 3) := by decide +kernel
theorem d_X4_init_24 : decode cX4_init 24 = .ok (.aload_n 0, 1) := by decide +kernel
theorem d_X4_init_25 : decode cX4_init 25 = .ok (.iconst 0, 1) := by decide +kernel
theorem d_X4_init_26 : decode cX4_init 26 = .ok (.putfield 24, 3) := by decide +kernel
theorem d_X4_init_29 : decode cX4_init 29 = .ok (.aload_n 0, 1) := by decide +kernel
theorem d_X4_init_30 : decode cX4_init 30 = .ok (.iconst 0, 1) := by decide +kernel
theorem d_X4_init_31 : decode cX4_init 31 = .ok (.putfield 27, 3) := by decide +kernel
theorem d_X4_init_34 : decode cX4_init 34 = .ok (.aload_n 0, 1) := by decide +kernel
theorem d_X4_init_35 : decode cX4_init 35 = .ok (.iconst 0, 1) := by decide +kernel
theorem d_X4_init_36 : decode cX4_init 36 = .ok (.putfield 30, 3) := by decide +kernel
theorem d_X4_init_39 : decode cX4_init 39 = .ok (.aload_n 0, 1) := by decide +kernel
theorem d_X4_init_40 : decode cX4_init 40 = .ok (.iconst 0, 1) := by decide +kernel
theorem d_X4_init_41 : decode cX4_init 41 = .ok (.putfield 33, 3) := by decide +kernel
theorem d_X4_init_44 : decode cX4_init 44 = .ok (.aload_n 0, 1) := by decide +kernel
theorem d_X4_init_45 : decode cX4_init 45 = .ok (.bipush 100, 2) := by decide +kernel
theorem d_X4_init_47 : decode cX4_init 47 = .ok (.newarray .int, 2) := by decide +kernel
theorem d_X4_init_49 : decode cX4_init 49 = .ok (.putfield 36, 3) := by decide +kernel
theorem d_X4_init_52 : decode cX4_init 52 = .ok (.aload_n 0, 1) := by decide +kernel
theorem d_X4_init_53 : decode cX4_init 53 = .ok (.bipush 100, 2) := by decide +kernel
theorem d_X4_init_55 : decode cX4_init 55 = .ok (.newarray .boolean, 2) := by decide +kernel
theorem d_X4_init_57 : decode cX4_init 57 = .ok (.putfield 40, 3) := by decide +kernel
theorem d_X4_init_60 : decode cX4_init 60 = .ok (.aload_n 0, 1) := by decide +kernel
theorem d_X4_init_61 : decode cX4_init 61 = .ok (.bipush 10, 2) := by decide +kernel
theorem d_X4_init_63 : decode cX4_init 63 = .ok (.anewarray 44, 3) := by decide +kernel
theorem d_X4_init_66 : decode cX4_init 66 = .ok (.putfield 46, 3) := by decide +kernel
theorem d_X4_init_69 : decode cX4_init 69 = .ok (.aload_n 0, 1) := by decide +kernel
theorem d_X4_init_70 : decode cX4_init 70 = .ok (.bipush 11, 2) := by decide +kernel
theorem d_X4_init_72 : decode cX4_init 72 = .ok (.anewarray 50, 3) := by decide +kernel
theorem d_X4_init_75 : decode cX4_init 75 = .ok (.putfield 52, 3) := by decide +kernel
theorem d_X4_init_78 : decode cX4_init 78 = .ok (.aload_n 0, 1) := by decide +kernel
theorem d_X4_init_79 : decode cX4_init 79 = .ok (.iconst 5, 1) := by decide +kernel
theorem d_X4_init_80 : decode cX4_init 80 = .ok (.anewarray 56, 3) := by decide +kernel
theorem d_X4_init_83 : decode cX4_init 83 = .ok (.putfield 58, 3) := by decide +kernel
theorem d_X4_init_86 : decode cX4_init 86 = .ok (.aload_n 0, 1) := by decide +kernel
theorem d_X4_init_87 : decode cX4_init 87 = .ok (.bipush 12, 2) := by decide +kernel
theorem d_X4_init_89 : decode cX4_init 89 = .ok (.anewarray 62, 3) := by decide +kernel
theorem d_X4_init_92 : decode cX4_init 92 = .ok (.putfield 64, 3) := by decide +kernel
theorem d_X4_init_95 : decode cX4_init 95 = .ok (.aload_n 0, 1) := by decide +kernel
theorem d_X4_init_96 : decode cX4_init 96 = .ok (.bipush 6, 2) := by decide +kernel
theorem d_X4_init_98 : decode cX4_init 98 = .ok (.anewarray 68, 3) := by decide +kernel
theorem d_X4_init_101 : decode cX4_init 101 = .ok (.putfield 70, 3) := by decide +kernel
theorem d_X4_init_104 : decode cX4_init 104 = .ok (.aload_n 0, 1) := by decide +kernel
theorem d_X4_init_105 : decode cX4_init 105 = .ok (.bipush 8, 2) := by decide +kernel
theorem d_X4_init_107 : decode cX4_init 107 = .ok (.anewarray 74, 3) := by decide +kernel
theorem d_X4_init_110 : decode cX4_init 110 = .ok (.putfield 76, 3) := by decide +kernel
theorem d_X4_init_113 : decode cX4_init 113 = .ok (.aload_n 0, 1) := by decide +kernel
theorem d_X4_init_114 : decode cX4_init 114 = .ok (.getfield 36, 3) := by decide +kernel
theorem d_X4_init_117 : decode cX4_init 117 = .ok (.sipush (-1000), 3) := by decide +kernel
theorem d_X4_init_120 : decode cX4_init 120 = .ok (.invokestatic 80, 3) := by decide +kernel
theorem d_X4_init_123 : decode cX4_init 123 = .ok (.iconst 0, 1) := by decide +kernel
theorem d_X4_init_124 : decode cX4_init 124 = .ok (.istore_n 1, 1) := by decide +kernel
theorem d_X4_init_125 : decode cX4_init 125 = .ok (.iload_n 1, 1) := by decide +kernel
theorem d_X4_init_126 : decode cX4_init 126 = .ok (.bipush 10, 2) := by decide +kernel
theorem d_X4_init_128 : decode cX4_init 128 = .ok (.if_icmp .ge 22, 3) := by decide +kernel
theorem d_X4_init_131 : decode cX4_init 131 = .ok (.aload_n 0, 1) := by decide +kernel
theorem d_X4_init_132 : decode cX4_init 132 = .ok (.getfield 46, 3) := by decide +kernel
theorem d_X4_init_135 : decode cX4_init 135 = .ok (.iload_n 1, 1) := by decide +kernel
theorem d_X4_init_136 : decode cX4_init 136 = .ok (.new 44, 3) := by decide +kernel
theorem d_X4_init_139 : decode cX4_init 139 = .ok (.dup, 1) := by decide +kernel
theorem d_X4_init_140 : decode cX4_init 140 = .ok (.invokespecial 86, 3) := by decide +kernel
theorem d_X4_init_143 : decode cX4_init 143 = .ok (.aastore, 1) := by decide +kernel
theorem d_X4_init_144 : decode cX4_init 144 = .ok (.iinc 1 1, 3) := by decide +kernel
theorem d_X4_init_147 : decode cX4_init 147 = .ok (.goto (-22), 3) := by decide +kernel
theorem d_X4_init_150 : decode cX4_init 150 = .ok (.iconst 0, 1) := by decide +kernel
theorem d_X4_init_151 : decode cX4_init 151 = .ok (.istore_n 1, 1) := by decide +kernel
theorem d_X4_init_152 : decode cX4_init 152 = .ok (.iload_n 1, 1) := by decide +kernel
theorem d_X4_init_153 : decode cX4_init 153 = .ok (.bipush 11, 2) := by decide +kernel
theorem d_X4_init_155 : decode cX4_init 155 = .ok (.if_icmp .ge 22, 3) := by decide +kernel
theorem d_X4_init_158 : decode cX4_init 158 = .ok (.aload_n 0, 1) := by decide +kernel
theorem d_X4_init_159 : decode cX4_init 159 = .ok (.getfield 52, 3) := by decide +kernel
theorem d_X4_init_162 : decode cX4_init 162 = .ok (.iload_n 1, 1) := by decide +kernel
theorem d_X4_init_163 : decode cX4_init 163 = .ok (.new 50, 3) := by decide +kernel
theorem d_X4_init_166 : decode cX4_init 166 = .ok (.dup, 1) := by decide +kernel
theorem d_X4_init_167 : decode cX4_init 167 = .ok (.invokespecial 87, 3) := by decide +kernel
theorem d_X4_init_170 : decode cX4_init 170 = .ok (.aastore, 1) := by decide +kernel
theorem d_X4_init_171 : decode cX4_init 171 = .ok (.iinc 1 1, 3) := by decide +kernel
theorem d_X4_init_174 : decode cX4_init 174 = .ok (.goto (-22), 3) := by decide +kernel
theorem d_X4_init_177 : decode cX4_init 177 = .ok (.iconst 0, 1) := by decide +kernel
theorem d_X4_init_178 : decode cX4_init 178 = .ok (.istore_n 1, 1) := by decide +kernel
theorem d_X4_init_179 : decode cX4_init 179 = .ok (.iload_n 1, 1) := by decide +kernel
theorem d_X4_init_180 : decode cX4_init 180 = .ok (.iconst 5, 1) := by decide +kernel
theorem d_X4_init_181 : decode cX4_init 181 = .ok (.if_icmp .ge 22, 3) := by decide +kernel
theorem d_X4_init_184 : decode cX4_init 184 = .ok (.aload_n 0, 1) := by decide +kernel
theorem d_X4_init_185 : decode cX4_init 185 = .ok (.getfield 58, 3) := by decide +kernel
theorem d_X4_init_188 : decode cX4_init 188 = .ok (.iload_n 1, 1) := by decide +kernel
theorem d_X4_init_189 : decode cX4_init 189 = .ok (.new 56, 3) := by decide +kernel
theorem d_X4_init_192 : decode cX4_init 192 = .ok (.dup, 1) := by decide +kernel
theorem d_X4_init_193 : decode cX4_init 193 = .ok (.invokespecial 88, 3) := by decide +kernel
theorem d_X4_init_196 : decode cX4_init 196 = .ok (.aastore, 1) := by decide +kernel
theorem d_X4_init_197 : decode cX4_init 197 = .ok (.iinc 1 1, 3) := by decide +kernel
theorem d_X4_init_200 : decode cX4_init 200 = .ok (.goto (-21), 3) := by decide +kernel
theorem d_X4_init_203 : decode cX4_init 203 = .ok (.iconst 0, 1) := by decide +kernel
theorem d_X4_init_204 : decode cX4_init 204 = .ok (.istore_n 1, 1) := by decide +kernel
theorem d_X4_init_205 : decode cX4_init 205 = .ok (.iload_n 1, 1) := by decide +kernel
theorem d_X4_init_206 : decode cX4_init 206 = .ok (.bipush 12, 2) := by decide +kernel
theorem d_X4_init_208 : decode cX4_init 208 = .ok (.if_icmp .ge 22, 3) := by decide +kernel
theorem d_X4_init_211 : decode cX4_init 211 = .ok (.aload_n 0, 1) := by decide +kernel
theorem d_X4_init_212 : decode cX4_init 212 = .ok (.getfield 64, 3) := by decide +kernel
theorem d_X4_init_215 : decode cX4_init 215 = .ok (.iload_n 1, 1) := by decide +kernel
theorem d_X4_init_216 : decode cX4_init 216 = .ok (.new 62, 3) := by decide +kernel
theorem d_X4_init_219 : decode cX4_init 219 = .ok (.dup, 1) := by decide +kernel
theorem d_X4_init_220 : decode cX4_init 220 = .ok (.invokespecial 89, 3) := by decide +kernel
theorem d_X4_init_223 : decode cX4_init 223 = .ok (.aastore, 1) := by decide +kernel
theorem d_X4_init_224 : decode cX4_init 224 = .ok (.iinc 1 1, 3) := by decide +kernel
theorem d_X4_init_227 : decode cX4_init 227 = .ok (.goto (-22), 3) := by decide +kernel
theorem d_X4_init_230 : decode cX4_init 230 = .ok (.iconst 0, 1) := by decide +kernel
theorem d_X4_init_231 : decode cX4_init 231 = .ok (.istore_n 1, 1) := by decide +kernel
theorem d_X4_init_232 : decode cX4_init 232 = .ok (.iload_n 1, 1) := by decide +kernel
theorem d_X4_init_233 : decode cX4_init 233 = .ok (.bipush 6, 2) := by decide +kernel
theorem d_X4_init_235 : decode cX4_init 235 = .ok (.if_icmp .ge 22, 3) := by decide +kernel
theorem d_X4_init_238 : decode cX4_init 238 = .ok (.aload_n 0, 1) := by decide +kernel
theorem d_X4_init_239 : decode cX4_init 239 = .ok (.getfield 70, 3) := by decide +kernel
theorem d_X4_init_242 : decode cX4_init 242 = .ok (.iload_n 1, 1) := by decide +kernel
theorem d_X4_init_243 : decode cX4_init 243 = .ok (.new 68, 3) := by decide +kernel
theorem d_X4_init_246 : decode cX4_init 246 = .ok (.dup, 1) := by decide +kernel
theorem d_X4_init_247 : decode cX4_init 247 = .ok (.invokespecial 90, 3) := by decide +kernel
theorem d_X4_init_250 : decode cX4_init 250 = .ok (.aastore, 1) := by decide +kernel
theorem d_X4_init_251 : decode cX4_init 251 = .ok (.iinc 1 1, 3) := by decide +kernel
theorem d_X4_init_254 : decode cX4_init 254 = .ok (.goto (-22), 3) := by decide +kernel
theorem d_X4_init_257 : decode cX4_init 257 = .ok (.iconst 0, 1) := by decide +kernel
theorem d_X4_init_258 : decode cX4_init 258 = .ok (.istore_n 1, 1) := by decide +kernel
theorem d_X4_init_259 : decode cX4_init 259 = .ok (.iload_n 1, 1) := by decide +kernel
theorem d_X4_init_260 : decode cX4_init 260 = .ok (.bipush 8, 2) := by decide +kernel
theorem d_X4_init_262 : decode cX4_init 262 = .ok (.if_icmp .ge 22, 3) := by decide +kernel
theorem d_X4_init_265 : decode cX4_init 265 = .ok (.aload_n 0, 1) := by decide +kernel
theorem d_X4_init_266 : decode cX4_init 266 = .ok (.getfield 76, 3) := by decide +kernel
theorem d_X4_init_269 : decode cX4_init 269 = .ok (.iload_n 1, 1) := by decide +kernel
theorem d_X4_init_270 : decode cX4_init 270 = .ok (.new 74, 3) := by decide +kernel
theorem d_X4_init_273 : decode cX4_init 273 = .ok (.dup, 1) := by decide +kernel
theorem d_X4_init_274 : decode cX4_init 274 = .ok (.invokespecial 91, 3) := by decide +kernel
theorem d_X4_init_277 : decode cX4_init 277 = .ok (.aastore, 1) := by decide +kernel
theorem d_X4_init_278 : decode cX4_init 278 = .ok (.iinc 1 1, 3) := by decide +kernel
theorem d_X4_init_281 : decode cX4_init 281 = .ok (.goto (-22), 3) := by decide +kernel
theorem d_X4_init_284 : decode cX4_init 284 = .ok (.return_, 1) := by decide +kernel
theorem d_X4_copyFrom_0 : decode cX4_copyFrom 0 = .ok (.aload_n 0, 1) := by decide +kernel
theorem d_X4_copyFrom_1 : decode cX4_copyFrom 1 = .ok (.aload_n 1, 1) := by decide +kernel
theorem d_X4_copyFrom_2 : decode cX4_copyFrom 2 = .ok (.getfield 9, 3) := by decide +kernel
theorem d_X4_copyFrom_5 : decode cX4_copyFrom 5 = .ok (.putfield 9, 3) := by decide +kernel
theorem d_X4_copyFrom_8 : decode cX4_copyFrom 8 = .ok (.aload_n 0, 1) := by decide +kernel
theorem d_X4_copyFrom_9 : decode cX4_copyFrom 9 = .ok (.aload_n 1, 1) := by decide +kernel
theorem d_X4_copyFrom_10 : decode cX4_copyFrom 10 = .ok (.getfield 15, 3) := by decide +kernel
theorem d_X4_copyFrom_13 : decode cX4_copyFrom 13 = .ok (.putfield 15, 3) := by decide +kernel
theorem d_X4_copyFrom_16 : decode cX4_copyFrom 16 = .ok (.aload_n 0, 1) := by decide +kernel
theorem d_X4_copyFrom_17 : decode cX4_copyFrom 17 = .ok (.aload_n 1, 1) := by decide +kernel
theorem d_X4_copyFrom_18 : decode cX4_copyFrom 18 = .ok (.getfield 18, 3) := by decide +kernel
theorem d_X4_copyFrom_21 : decode cX4_copyFrom 21 = .ok (.putfield 18, 3) := by decide +kernel
theorem d_X4_copyFrom_24 : decode cX4_copyFrom 24 = .ok (.aload_n 0, 1) := by decide +kernel
theorem d_X4_copyFrom_25 : decode cX4_copyFrom 25 = .ok (.aload_n 1, 1) := by decide +kernel
theorem d_X4_copyFrom_26 : decode cX4_copyFrom 26 = .ok (.getfield 21, 3) := by decide +kernel
theorem d_X4_copyFrom_29 : decode cX4_copyFrom 29 = .ok (.putfield 21, 3) := by decide +kernel
theorem d_X4_copyFrom_32 : decode cX4_copyFrom 32 = .ok (.aload_n 0, 1) := by decide +kernel
theorem d_X4_copyFrom_33 : decode cX4_copyFrom 33 = .ok (.aload_n 1, 1) := by decide +kernel
theorem d_X4_copyFrom_34 : decode cX4_copyFrom 34 = .ok (.getfield 24, 3) := by decide +kernel
theorem d_X4_copyFrom_37 : decode cX4_copyFrom 37 = .ok (.putfield 24, 3) := by decide +kernel
theorem d_X4_copyFrom_40 : decode cX4_copyFrom 40 = .ok (.aload_n 0, 1) := by decide +kernel
theorem d_X4_copyFrom_41 : decode cX4_copyFrom 41 = .ok (.aload_n 1, 1) := by decide +kernel
theorem d_X4_copyFrom_42 : decode cX4_copyFrom 42 = .ok (.getfield 27, 3) := by decide +kernel
theorem d_X4_copyFrom_45 : decode cX4_copyFrom 45 = .ok (.putfield 27, 3) := by decide +kernel
theorem d_X4_copyFrom_48 : decode cX4_copyFrom 48 = .ok (.aload_n 0, 1) := by decide +kernel
theorem d_X4_copyFrom_49 : decode cX4_copyFrom 49 = .ok (.aload_n 1, 1) := by decide +kernel
theorem d_X4_copyFrom_50 : decode cX4_copyFrom 50 = .ok (.getfield 30, 3) := by decide +kernel
theorem d_X4_copyFrom_53 : decode cX4_copyFrom 53 = .ok (.putfield 30, 3) := by decide +kernel
theorem d_X4_copyFrom_56 : decode cX4_copyFrom 56 = .ok (.aload_n 0, 1) := by decide +kernel
theorem d_X4_copyFrom_57 : decode cX4_copyFrom 57 = .ok (.aload_n 1, 1) := by decide +kernel
theorem d_X4_copyFrom_58 : decode cX4_copyFrom 58 = .ok (.getfield 33, 3) := by decide +kernel
theorem d_X4_copyFrom_61 : decode cX4_copyFrom 61 = .ok (.putfield 33, 3) := by decide +kernel
theorem d_X4_copyFrom_64 : decode cX4_copyFrom 64 = .ok (.aload_n 1, 1) := by decide +kernel
theorem d_X4_copyFrom_65 : decode cX4_copyFrom 65 = .ok (.getfield 36, 3) := by decide +kernel
theorem d_X4_copyFrom_68 : decode cX4_copyFrom 68 = .ok (.iconst 0, 1) := by decide +kernel
theorem d_X4_copyFrom_69 : decode cX4_copyFrom 69 = .ok (.aload_n 0, 1) := by decide +kernel
theorem d_X4_copyFrom_70 : decode cX4_copyFrom 70 = .ok (.getfield 36, 3) := by decide +kernel
theorem d_X4_copyFrom_73 : decode cX4_copyFrom 73 = .ok (.iconst 0, 1) := by decide +kernel
theorem d_X4_copyFrom_74 : decode cX4_copyFrom 74 = .ok (.bipush 100, 2) := by decide +kernel
theorem d_X4_copyFrom_76 : decode cX4_copyFrom 76 = .ok (.invokestatic 92, 3) := by decide +kernel
theorem d_X4_copyFrom_79 : decode cX4_copyFrom 79 = .ok (.iconst 0, 1) := by decide +kernel
theorem d_X4_copyFrom_80 : decode cX4_copyFrom 80 = .ok (.istore_n 2, 1) := by decide +kernel
theorem d_X4_copyFrom_81 : decode cX4_copyFrom 81 = .ok (.iload_n 2, 1) := by decide +kernel
theorem d_X4_copyFrom_82 : decode cX4_copyFrom 82 = .ok (.bipush 100, 2) := by decide +kernel
theorem d_X4_copyFrom_84 : decode cX4_copyFrom 84 = .ok (.if_icmp .ge 21, 3) := by decide +kernel
theorem d_X4_copyFrom_87 : decode cX4_copyFrom 87 = .ok (.aload_n 0, 1) := by decide +kernel
theorem d_X4_copyFrom_88 : decode cX4_copyFrom 88 = .ok (.getfield 40, 3) := by decide +kernel
theorem d_X4_copyFrom_91 : decode cX4_copyFrom 91 = .ok (.iload_n 2, 1) := by decide +kernel
theorem d_X4_copyFrom_92 : decode cX4_copyFrom 92 = .ok (.aload_n 1, 1) := by decide +kernel
theorem d_X4_copyFrom_93 : decode cX4_copyFrom 93 = .ok (.getfield 40, 3) := by decide +kernel
theorem d_X4_copyFrom_96 : decode cX4_copyFrom 96 = .ok (.iload_n 2, 1) := by decide +kernel
theorem d_X4_copyFrom_97 : decode cX4_copyFrom 97 = .ok (.baload, 1) := by decide +kernel
theorem d_X4_copyFrom_98 : decode cX4_copyFrom 98 = .ok (.bastore, 1) := by decide +kernel
theorem d_X4_copyFrom_99 : decode cX4_copyFrom 99 = .ok (.iinc 2 1, 3) := by decide +kernel
theorem d_X4_copyFrom_102 : decode cX4_copyFrom 102 = .ok (.goto (-21), 3) := by decide +kernel
theorem d_X4_copyFrom_105 : decode cX4_copyFrom 105 = .ok (.aload_n 0, 1) := by decide +kernel
theorem d_X4_copyFrom_106 : decode cX4_copyFrom 106 = .ok (.aload_n 1, 1) := by decide +kernel
theorem d_X4_copyFrom_107 : decode cX4_copyFrom 107 = .ok (.invokevirtual 98, 3) := by decide +kernel
theorem d_X4_copyFrom_110 : decode cX4_copyFrom 110 = .ok (.return_, 1) := by decide +kernel
theorem d_X4_copyThings_0 : decode cX4_copyThings 0 = .ok (.iconst 0, 1) := by decide +kernel
theorem d_X4_copyThings_1 : decode cX4_copyThings 1 = .ok (.istore_n 2, 1) := by decide +kernel
theorem d_X4_copyThings_2 : decode cX4_copyThings 2 = .ok (.iload_n 2, 1) := by decide +kernel
theorem d_X4_copyThings_3 : decode cX4_copyThings 3 = .ok (.bipush 10, 2) := by decide +kernel
theorem d_X4_copyThings_5 : decode cX4_copyThings 5 = .ok (.if_icmp .ge 24, 3) := by decide +kernel
theorem d_X4_copyThings_8 : decode cX4_copyThings 8 = .ok (.aload_n 0, 1) := by decide +kernel
theorem d_X4_copyThings_9 : decode cX4_copyThings 9 = .ok (.getfield 46, 3) := by decide +kernel
theorem d_X4_copyThings_12 : decode cX4_copyThings 12 = .ok (.iload_n 2, 1) := by decide +kernel
theorem d_X4_copyThings_13 : decode cX4_copyThings 13 = .ok (.aaload, 1) := by decide +kernel
theorem d_X4_copyThings_14 : decode cX4_copyThings 14 = .ok (.aload_n 1, 1) := by decide +kernel
theorem d_X4_copyThings_15 : decode cX4_copyThings 15 = .ok (.getfield 46, 3) := by decide +kernel
theorem d_X4_copyThings_18 : decode cX4_copyThings 18 = .ok (.iload_n 2, 1) := by decide +kernel
theorem d_X4_copyThings_19 : decode cX4_copyThings 19 = .ok (.aaload, 1) := by decide +kernel
theorem d_X4_copyThings_20 : decode cX4_copyThings 20 = .ok (.invokevirtual 102, 3) := by decide +kernel
theorem d_X4_copyThings_23 : decode cX4_copyThings 23 = .ok (.iinc 2 1, 3) := by decide +kernel
theorem d_X4_copyThings_26 : decode cX4_copyThings 26 = .ok (.goto (-24), 3) := by decide +kernel
theorem d_X4_copyThings_29 : decode cX4_copyThings 29 = .ok (.iconst 0, 1) := by decide +kernel
theorem d_X4_copyThings_30 : decode cX4_copyThings 30 = .ok (.istore_n 2, 1) := by decide +kernel
theorem d_X4_copyThings_31 : decode cX4_copyThings 31 = .ok (.iload_n 2, 1) := by decide +kernel
theorem d_X4_copyThings_32 : decode cX4_copyThings 32 = .ok (.bipush 11, 2) := by decide +kernel
theorem d_X4_copyThings_34 : decode cX4_copyThings 34 = .ok (.if_icmp .ge 24, 3) := by decide +kernel
theorem d_X4_copyThings_37 : decode cX4_copyThings 37 = .ok (.aload_n 0, 1) := by decide +kernel
theorem d_X4_copyThings_38 : decode cX4_copyThings 38 = .ok (.getfield 52, 3) := by decide +kernel
theorem d_X4_copyThings_41 : decode cX4_copyThings 41 = .ok (.iload_n 2, 1) := by decide +kernel
theorem d_X4_copyThings_42 : decode cX4_copyThings 42 = .ok (.aaload, 1) := by decide +kernel
theorem d_X4_copyThings_43 : decode cX4_copyThings 43 = .ok (.aload_n 1, 1) := by decide +kernel
theorem d_X4_copyThings_44 : decode cX4_copyThings 44 = .ok (.getfield 52, 3) := by decide +kernel
theorem d_X4_copyThings_47 : decode cX4_copyThings 47 = .ok (.iload_n 2, 1) := by decide +kernel
theorem d_X4_copyThings_48 : decode cX4_copyThings 48 = .ok (.aaload, 1) := by decide +kernel
theorem d_X4_copyThings_49 : decode cX4_copyThings 49 = .ok (.invokevirtual 106, 3) := by decide +kernel
theorem d_X4_copyThings_52 : decode cX4_copyThings 52 = .ok (.iinc 2 1, 3) := by decide +kernel
theorem d_X4_copyThings_55 : decode cX4_copyThings 55 = .ok (.goto (-24), 3) := by decide +kernel
theorem d_X4_copyThings_58 : decode cX4_copyThings 58 = .ok (.iconst 0, 1) := by decide +kernel
theorem d_X4_copyThings_59 : decode cX4_copyThings 59 = .ok (.istore_n 2, 1) := by decide +kernel
theorem d_X4_copyThings_60 : decode cX4_copyThings 60 = .ok (.iload_n 2, 1) := by decide +kernel
theorem d_X4_copyThings_61 : decode cX4_copyThings 61 = .ok (.iconst 5, 1) := by decide +kernel
theorem d_X4_copyThings_62 : decode cX4_copyThings 62 = .ok (.if_icmp .ge 24, 3) := by decide +kernel
theorem d_X4_copyThings_65 : decode cX4_copyThings 65 = .ok (.aload_n 0, 1) := by decide +kernel
theorem d_X4_copyThings_66 : decode cX4_copyThings 66 = .ok (.getfield 58, 3) := by decide +kernel
theorem d_X4_copyThings_69 : decode cX4_copyThings 69 = .ok (.iload_n 2, 1) := by decide +kernel
theorem d_X4_copyThings_70 : decode cX4_copyThings 70 = .ok (.aaload, 1) := by decide +kernel
theorem d_X4_copyThings_71 : decode cX4_copyThings 71 = .ok (.aload_n 1, 1) := by decide +kernel
theorem d_X4_copyThings_72 : decode cX4_copyThings 72 = .ok (.getfield 58, 3) := by decide +kernel
theorem d_X4_copyThings_75 : decode cX4_copyThings 75 = .ok (.iload_n 2, 1) := by decide +kernel
theorem d_X4_copyThings_76 : decode cX4_copyThings 76 = .ok (.aaload, 1) := by decide +kernel
theorem d_X4_copyThings_77 : decode cX4_copyThings 77 = .ok (.invokevirtual 109, 3) := by decide +kernel
theorem d_X4_copyThings_80 : decode cX4_copyThings 80 = .ok (.iinc 2 1, 3) := by decide +kernel
theorem d_X4_copyThings_83 : decode cX4_copyThings 83 = .ok (.goto (-23), 3) := by decide +kernel
theorem d_X4_copyThings_86 : decode cX4_copyThings 86 = .ok (.iconst 0, 1) := by decide +kernel
theorem d_X4_copyThings_87 : decode cX4_copyThings 87 = .ok (.istore_n 2, 1) := by decide +kernel
theorem d_X4_copyThings_88 : decode cX4_copyThings 88 = .ok (.iload_n 2, 1) := by decide +kernel
theorem d_X4_copyThings_89 : decode cX4_copyThings 89 = .ok (.bipush 12, 2) := by decide +kernel
theorem d_X4_copyThings_91 : decode cX4_copyThings 91 = .ok (.if_icmp .ge 24, 3) := by decide +kernel
theorem d_X4_copyThings_94 : decode cX4_copyThings 94 = .ok (.aload_n 0, 1) := by decide +kernel
theorem d_X4_copyThings_95 : decode cX4_copyThings 95 = .ok (.getfield 64, 3) := by decide +kernel
theorem d_X4_copyThings_98 : decode cX4_copyThings 98 = .ok (.iload_n 2, 1) := by decide +kernel
theorem d_X4_copyThings_99 : decode cX4_copyThings 99 = .ok (.aaload, 1) := by decide +kernel
theorem d_X4_copyThings_100 : decode cX4_copyThings 100 = .ok (.aload_n 1, 1) := by decide +kernel
theorem d_X4_copyThings_101 : decode cX4_copyThings 101 = .ok (.getfield 64, 3) := by decide +kernel
theorem d_X4_copyThings_104 : decode cX4_copyThings 104 = .ok (.iload_n 2, 1) := by decide +kernel
theorem d_X4_copyThings_105 : decode cX4_copyThings 105 = .ok (.aaload, 1) := by decide +kernel
theorem d_X4_copyThings_106 : decode cX4_copyThings 106 = .ok (.invokevirtual 112, 3) := by decide +kernel
theorem d_X4_copyThings_109 : decode cX4_copyThings 109 = .ok (.iinc 2 1, 3) := by decide +kernel
theorem d_X4_copyThings_112 : decode cX4_copyThings 112 = .ok (.goto (-24), 3) := by decide +kernel
theorem d_X4_copyThings_115 : decode cX4_copyThings 115 = .ok (.iconst 0, 1) := by decide +kernel
theorem d_X4_copyThings_116 : decode cX4_copyThings 116 = .ok (.istore_n 2, 1) := by decide +kernel
theorem d_X4_copyThings_117 : decode cX4_copyThings 117 = .ok (.iload_n 2, 1) := by decide +kernel
theorem d_X4_copyThings_118 : decode cX4_copyThings 118 = .ok (.bipush 6, 2) := by decide +kernel
theorem d_X4_copyThings_120 : decode cX4_copyThings 120 = .ok (.if_icmp .ge 24, 3) := by decide +kernel
theorem d_X4_copyThings_123 : decode cX4_copyThings 123 = .ok (.aload_n 0, 1) := by decide +kernel
theorem d_X4_copyThings_124 : decode cX4_copyThings 124 = .ok (.getfield 70, 3) := by decide +kernel
theorem d_X4_copyThings_127 : decode cX4_copyThings 127 = .ok (.iload_n 2, 1) := by decide +kernel
theorem d_X4_copyThings_128 : decode cX4_copyThings 128 = .ok (.aaload, 1) := by decide +kernel
theorem d_X4_copyThings_129 : decode cX4_copyThings 129 = .ok (.aload_n 1, 1) := by decide +kernel
theorem d_X4_copyThings_130 : decode cX4_copyThings 130 = .ok (.getfield 70, 3) := by decide +kernel
theorem d_X4_copyThings_133 : decode cX4_copyThings 133 = .ok (.iload_n 2, 1) := by decide +kernel
theorem d_X4_copyThings_134 : decode cX4_copyThings 134 = .ok (.aaload, 1) := by decide +kernel
theorem d_X4_copyThings_135 : decode cX4_copyThings 135 = .ok (.invokevirtual 115, 3) := by decide +kernel
theorem d_X4_copyThings_138 : decode cX4_copyThings 138 = .ok (.iinc 2 1, 3) := by decide +kernel
theorem d_X4_copyThings_141 : decode cX4_copyThings 141 = .ok (.goto (-24), 3) := by decide +kernel
theorem d_X4_copyThings_144 : decode cX4_copyThings 144 = .ok (.iconst 0, 1) := by decide +kernel
theorem d_X4_copyThings_145 : decode cX4_copyThings 145 = .ok (.istore_n 2, 1) := by decide +kernel
theorem d_X4_copyThings_146 : decode cX4_copyThings 146 = .ok (.iload_n 2, 1) := by decide +kernel
theorem d_X4_copyThings_147 : decode cX4_copyThings 147 = .ok (.bipush 8, 2) := by decide +kernel
theorem d_X4_copyThings_149 : decode cX4_copyThings 149 = .ok (.if_icmp .ge 24, 3) := by decide +kernel
theorem d_X4_copyThings_152 : decode cX4_copyThings 152 = .ok (.aload_n 0, 1) := by decide +kernel
theorem d_X4_copyThings_153 : decode cX4_copyThings 153 = .ok (.getfield 76, 3) := by decide +kernel
theorem d_X4_copyThings_156 : decode cX4_copyThings 156 = .ok (.iload_n 2, 1) := by decide +kernel
theorem d_X4_copyThings_157 : decode cX4_copyThings 157 = .ok (.aaload, 1) := by decide +kernel
theorem d_X4_copyThings_158 : decode cX4_copyThings 158 = .ok (.aload_n 1, 1) := by decide +kernel
theorem d_X4_copyThings_159 : decode cX4_copyThings 159 = .ok (.getfield 76, 3) := by decide +kernel
theorem d_X4_copyThings_162 : decode cX4_copyThings 162 = .ok (.iload_n 2, 1) := by decide +kernel
theorem d_X4_copyThings_163 : decode cX4_copyThings 163 = .ok (.aaload, 1) := by decide +kernel
theorem d_X4_copyThings_164 : decode cX4_copyThings 164 = .ok (.invokevirtual 118, 3) := by decide +kernel
theorem d_X4_copyThings_167 : decode cX4_copyThings 167 = .ok (.iinc 2 1, 3) := by decide +kernel
theorem d_X4_copyThings_170 : decode cX4_copyThings 170 = .ok (.goto (-24), 3) := by decide +kernel
theorem d_X4_copyThings_173 : decode cX4_copyThings 173 = .ok (.return_, 1) := by decide +kernel
theorem d_X4_isStretch_0 : decode cX4_isStretch 0 = .ok (.iload_n 1, 1) := by decide +kernel
theorem d_X4_isStretch_1 : decode cX4_isStretch 1 = .ok (.iconst 0, 1) := by decide +kernel
theorem d_X4_isStretch_2 : decode cX4_isStretch 2 = .ok (.aload_n 0, 1) := by decide +kernel
theorem d_X4_isStretch_3 : decode cX4_isStretch 3 = .ok (.getfield 15, 3) := by decide +kernel
theorem d_X4_isStretch_6 : decode cX4_isStretch 6 = .ok (.iconst 1, 1) := by decide +kernel
theorem d_X4_isStretch_7 : decode cX4_isStretch 7 = .ok (.isub, 1) := by decide +kernel
theorem d_X4_isStretch_8 : decode cX4_isStretch 8 = .ok (.invokestatic 121, 3) := by decide +kernel
theorem d_X4_isStretch_11 : decode cX4_isStretch 11 = .ok (.ireturn, 1) := by decide +kernel
theorem d_X4_isLanding_0 : decode cX4_isLanding 0 = .ok (.iload_n 1, 1) := by decide +kernel
theorem d_X4_isLanding_1 : decode cX4_isLanding 1 = .ok (.iconst 0, 1) := by decide +kernel
theorem d_X4_isLanding_2 : decode cX4_isLanding 2 = .ok (.aload_n 0, 1) := by decide +kernel
theorem d_X4_isLanding_3 : decode cX4_isLanding 3 = .ok (.getfield 15, 3) := by decide +kernel
theorem d_X4_isLanding_6 : decode cX4_isLanding 6 = .ok (.invokestatic 121, 3) := by decide +kernel
theorem d_X4_isLanding_9 : decode cX4_isLanding 9 = .ok (.ireturn, 1) := by decide +kernel
theorem d_X4_isBoat_0 : decode cX4_isBoat 0 = .ok (.iload_n 1, 1) := by decide +kernel
theorem d_X4_isBoat_1 : decode cX4_isBoat 1 = .ok (.iconst 0, 1) := by decide +kernel
theorem d_X4_isBoat_2 : decode cX4_isBoat 2 = .ok (.aload_n 0, 1) := by decide +kernel
theorem d_X4_isBoat_3 : decode cX4_isBoat 3 = .ok (.getfield 18, 3) := by decide +kernel
theorem d_X4_isBoat_6 : decode cX4_isBoat 6 = .ok (.iconst 1, 1) := by decide +kernel
theorem d_X4_isBoat_7 : decode cX4_isBoat 7 = .ok (.isub, 1) := by decide +kernel
theorem d_X4_isBoat_8 : decode cX4_isBoat 8 = .ok (.invokestatic 121, 3) := by decide +kernel
theorem d_X4_isBoat_11 : decode cX4_isBoat 11 = .ok (.ireturn, 1) := by decide +kernel
theorem d_X4_isBale_0 : decode cX4_isBale 0 = .ok (.iload_n 1, 1) := by decide +kernel
theorem d_X4_isBale_1 : decode cX4_isBale 1 = .ok (.iconst 0, 1) := by decide +kernel
theorem d_X4_isBale_2 : decode cX4_isBale 2 = .ok (.aload_n 0, 1) := by decide +kernel
theorem d_X4_isBale_3 : decode cX4_isBale 3 = .ok (.getfield 21, 3) := by decide +kernel
theorem d_X4_isBale_6 : decode cX4_isBale 6 = .ok (.iconst 1, 1) := by decide +kernel
theorem d_X4_isBale_7 : decode cX4_isBale 7 = .ok (.isub, 1) := by decide +kernel
theorem d_X4_isBale_8 : decode cX4_isBale 8 = .ok (.invokestatic 121, 3) := by decide +kernel
theorem d_X4_isBale_11 : decode cX4_isBale 11 = .ok (.ireturn, 1) := by decide +kernel
theorem d_X4_isWay_0 : decode cX4_isWay 0 = .ok (.aload_n 0, 1) := by decide +kernel
theorem d_X4_isWay_1 : decode cX4_isWay 1 = .ok (.iload_n 1, 1) := by decide +kernel
theorem d_X4_isWay_2 : decode cX4_isWay 2 = .ok (.invokevirtual 125, 3) := by decide +kernel
theorem d_X4_isWay_5 : decode cX4_isWay 5 = .ok (.ifCond .eq 20, 3) := by decide +kernel
theorem d_X4_isWay_8 : decode cX4_isWay 8 = .ok (.aload_n 0, 1) := by decide +kernel
theorem d_X4_isWay_9 : decode cX4_isWay 9 = .ok (.iload_n 2, 1) := by decide +kernel
theorem d_X4_isWay_10 : decode cX4_isWay 10 = .ok (.invokevirtual 125, 3) := by decide +kernel
theorem d_X4_isWay_13 : decode cX4_isWay 13 = .ok (.ifCond .eq 12, 3) := by decide +kernel
theorem d_X4_isWay_16 : decode cX4_isWay 16 = .ok (.iload_n 1, 1) := by decide +kernel
theorem d_X4_isWay_17 : decode cX4_isWay 17 = .ok (.iload_n 2, 1) := by decide +kernel
theorem d_X4_isWay_18 : decode cX4_isWay 18 = .ok (.if_icmp .eq 7, 3) := by decide +kernel
theorem d_X4_isWay_21 : decode cX4_isWay 21 = .ok (.iconst 1, 1) := by decide +kernel
theorem d_X4_isWay_22 : decode cX4_isWay 22 = .ok (.goto 4, 3) := by decide +kernel
theorem d_X4_isWay_25 : decode cX4_isWay 25 = .ok (.iconst 0, 1) := by decide +kernel
theorem d_X4_isWay_26 : decode cX4_isWay 26 = .ok (.ireturn, 1) := by decide +kernel
theorem d_X4_today_0 : decode cX4_today 0 = .ok (.aload_n 0, 1) := by decide +kernel
theorem d_X4_today_1 : decode cX4_today 1 = .ok (.getfield 9, 3) := by decide +kernel
theorem d_X4_today_4 : decode cX4_today 4 = .ok (.bipush 96, 2) := by decide +kernel
theorem d_X4_today_6 : decode cX4_today 6 = .ok (.idiv, 1) := by decide +kernel
theorem d_X4_today_7 : decode cX4_today 7 = .ok (.ireturn, 1) := by decide +kernel
theorem d_X4_isNight_0 : decode cX4_isNight 0 = .ok (.aload_n 0, 1) := by decide +kernel
theorem d_X4_isNight_1 : decode cX4_isNight 1 = .ok (.getfield 9, 3) := by decide +kernel
theorem d_X4_isNight_4 : decode cX4_isNight 4 = .ok (.bipush 96, 2) := by decide +kernel
theorem d_X4_isNight_6 : decode cX4_isNight 6 = .ok (.irem, 1) := by decide +kernel
theorem d_X4_isNight_7 : decode cX4_isNight 7 = .ok (.bipush 24, 2) := by decide +kernel
theorem d_X4_isNight_9 : decode cX4_isNight 9 = .ok (.bipush 71, 2) := by decide +kernel
theorem d_X4_isNight_11 : decode cX4_isNight 11 = .ok (.invokestatic 121, 3) := by decide +kernel
theorem d_X4_isNight_14 : decode cX4_isNight 14 = .ok (.ifCond .ne 7, 3) := by decide +kernel
theorem d_X4_isNight_17 : decode cX4_isNight 17 = .ok (.iconst 1, 1) := by decide +kernel
theorem d_X4_isNight_18 : decode cX4_isNight 18 = .ok (.goto 4, 3) := by decide +kernel
theorem d_X4_isNight_21 : decode cX4_isNight 21 = .ok (.iconst 0, 1) := by decide +kernel
theorem d_X4_isNight_22 : decode cX4_isNight 22 = .ok (.ireturn, 1) := by decide +kernel
theorem d_X4_tellHeight_0 : decode cX4_tellHeight 0 = .ok (.aload_n 0, 1) := by decide +kernel
theorem d_X4_tellHeight_1 : decode cX4_tellHeight 1 = .ok (.getfield 36, 3) := by decide +kernel
theorem d_X4_tellHeight_4 : decode cX4_tellHeight 4 = .ok (.iload_n 1, 1) := by decide +kernel
theorem d_X4_tellHeight_5 : decode cX4_tellHeight 5 = .ok (.iaload, 1) := by decide +kernel
theorem d_X4_tellHeight_6 : decode cX4_tellHeight 6 = .ok (.sipush (-1000), 3) := by decide +kernel
theorem d_X4_tellHeight_9 : decode cX4_tellHeight 9 = .ok (.if_icmp .ne 13, 3) := by decide +kernel
theorem d_X4_tellHeight_12 : decode cX4_tellHeight 12 = .ok (.aload_n 0, 1) := by decide +kernel
theorem d_X4_tellHeight_13 : decode cX4_tellHeight 13 = .ok (.dup, 1) := by decide +kernel
theorem d_X4_tellHeight_14 : decode cX4_tellHeight 14 = .ok (.getfield 30, 3) := by decide +kernel
theorem d_X4_tellHeight_17 : decode cX4_tellHeight 17 = .ok (.iconst 1, 1) := by decide +kernel
theorem d_X4_tellHeight_18 : decode cX4_tellHeight 18 = .ok (.iadd, 1) := by decide +kernel
theorem d_X4_tellHeight_19 : decode cX4_tellHeight 19 = .ok (.putfield 30, 3) := by decide +kernel
theorem d_X4_tellHeight_22 : decode cX4_tellHeight 22 = .ok (.aload_n 0, 1) := by decide +kernel
theorem d_X4_tellHeight_23 : decode cX4_tellHeight 23 = .ok (.getfield 36, 3) := by decide +kernel
theorem d_X4_tellHeight_26 : decode cX4_tellHeight 26 = .ok (.iload_n 1, 1) := by decide +kernel
theorem d_X4_tellHeight_27 : decode cX4_tellHeight 27 = .ok (.iload_n 2, 1) := by decide +kernel
theorem d_X4_tellHeight_28 : decode cX4_tellHeight 28 = .ok (.iastore, 1) := by decide +kernel
theorem d_X4_tellHeight_29 : decode cX4_tellHeight 29 = .ok (.return_, 1) := by decide +kernel
theorem d_X4_heightOn_0 : decode cX4_heightOn 0 = .ok (.iload_n 1, 1) := by decide +kernel
theorem d_X4_heightOn_1 : decode cX4_heightOn 1 = .ok (.istore_n 2, 1) := by decide +kernel
theorem d_X4_heightOn_2 : decode cX4_heightOn 2 = .ok (.iload_n 2, 1) := by decide +kernel
theorem d_X4_heightOn_3 : decode cX4_heightOn 3 = .ok (.ifCond .lt 21, 3) := by decide +kernel
theorem d_X4_heightOn_6 : decode cX4_heightOn 6 = .ok (.aload_n 0, 1) := by decide +kernel
theorem d_X4_heightOn_7 : decode cX4_heightOn 7 = .ok (.getfield 36, 3) := by decide +kernel
theorem d_X4_heightOn_10 : decode cX4_heightOn 10 = .ok (.iload_n 2, 1) := by decide +kernel
theorem d_X4_heightOn_11 : decode cX4_heightOn 11 = .ok (.iaload, 1) := by decide +kernel
theorem d_X4_heightOn_12 : decode cX4_heightOn 12 = .ok (.sipush (-1000), 3) := by decide +kernel
theorem d_X4_heightOn_15 : decode cX4_heightOn 15 = .ok (.if_icmp .ne 9, 3) := by decide +kernel
theorem d_X4_heightOn_18 : decode cX4_heightOn 18 = .ok (.iinc 2 (-1), 3) := by decide +kernel
theorem d_X4_heightOn_21 : decode cX4_heightOn 21 = .ok (.goto (-19), 3) := by decide +kernel
theorem d_X4_heightOn_24 : decode cX4_heightOn 24 = .ok (.iload_n 1, 1) := by decide +kernel
theorem d_X4_heightOn_25 : decode cX4_heightOn 25 = .ok (.istore_n 3, 1) := by decide +kernel
theorem d_X4_heightOn_26 : decode cX4_heightOn 26 = .ok (.iload_n 3, 1) := by decide +kernel
theorem d_X4_heightOn_27 : decode cX4_heightOn 27 = .ok (.bipush 100, 2) := by decide +kernel
theorem d_X4_heightOn_29 : decode cX4_heightOn 29 = .ok (.if_icmp .ge 21, 3) := by decide +kernel
theorem d_X4_heightOn_32 : decode cX4_heightOn 32 = .ok (.aload_n 0, 1) := by decide +kernel
theorem d_X4_heightOn_33 : decode cX4_heightOn 33 = .ok (.getfield 36, 3) := by decide +kernel
theorem d_X4_heightOn_36 : decode cX4_heightOn 36 = .ok (.iload_n 3, 1) := by decide +kernel
theorem d_X4_heightOn_37 : decode cX4_heightOn 37 = .ok (.iaload, 1) := by decide +kernel
theorem d_X4_heightOn_38 : decode cX4_heightOn 38 = .ok (.sipush (-1000), 3) := by decide +kernel
theorem d_X4_heightOn_41 : decode cX4_heightOn 41 = .ok (.if_icmp .ne 9, 3) := by decide +kernel
theorem d_X4_heightOn_44 : decode cX4_heightOn 44 = .ok (.iinc 3 1, 3) := by decide +kernel
theorem d_X4_heightOn_47 : decode cX4_heightOn 47 = .ok (.goto (-21), 3) := by decide +kernel
theorem d_X4_heightOn_50 : decode cX4_heightOn 50 = .ok (.iload_n 2, 1) := by decide +kernel
theorem d_X4_heightOn_51 : decode cX4_heightOn 51 = .ok (.ifCond .ge 20, 3) := by decide +kernel
theorem d_X4_heightOn_54 : decode cX4_heightOn 54 = .ok (.iload_n 3, 1) := by decide +kernel
theorem d_X4_heightOn_55 : decode cX4_heightOn 55 = .ok (.bipush 100, 2) := by decide +kernel
theorem d_X4_heightOn_57 : decode cX4_heightOn 57 = .ok (.if_icmp .ge 12, 3) := by decide +kernel
theorem d_X4_heightOn_60 : decode cX4_heightOn 60 = .ok (.aload_n 0, 1) := by decide +kernel
theorem d_X4_heightOn_61 : decode cX4_heightOn 61 = .ok (.getfield 36, 3) := by decide +kernel
theorem d_X4_heightOn_64 : decode cX4_heightOn 64 = .ok (.iload_n 3, 1) := by decide +kernel
theorem d_X4_heightOn_65 : decode cX4_heightOn 65 = .ok (.iaload, 1) := by decide +kernel
theorem d_X4_heightOn_66 : decode cX4_heightOn 66 = .ok (.goto 4, 3) := by decide +kernel
theorem d_X4_heightOn_69 : decode cX4_heightOn 69 = .ok (.iconst 0, 1) := by decide +kernel
theorem d_X4_heightOn_70 : decode cX4_heightOn 70 = .ok (.ireturn, 1) := by decide +kernel
theorem d_X4_heightOn_71 : decode cX4_heightOn 71 = .ok (.iload_n 3, 1) := by decide +kernel
theorem d_X4_heightOn_72 : decode cX4_heightOn 72 = .ok (.bipush 100, 2) := by decide +kernel
theorem d_X4_heightOn_74 : decode cX4_heightOn 74 = .ok (.if_icmp .ge 8, 3) := by decide +kernel
theorem d_X4_heightOn_77 : decode cX4_heightOn 77 = .ok (.iload_n 3, 1) := by decide +kernel
theorem d_X4_heightOn_78 : decode cX4_heightOn 78 = .ok (.iload_n 2, 1) := by decide +kernel
theorem d_X4_heightOn_79 : decode cX4_heightOn 79 = .ok (.if_icmp .ne 10, 3) := by decide +kernel
theorem d_X4_heightOn_82 : decode cX4_heightOn 82 = .ok (.aload_n 0, 1) := by decide +kernel
theorem d_X4_heightOn_83 : decode cX4_heightOn 83 = .ok (.getfield 36, 3) := by decide +kernel
theorem d_X4_heightOn_86 : decode cX4_heightOn 86 = .ok (.iload_n 2, 1) := by decide +kernel
theorem d_X4_heightOn_87 : decode cX4_heightOn 87 = .ok (.iaload, 1) := by decide +kernel
theorem d_X4_heightOn_88 : decode cX4_heightOn 88 = .ok (.ireturn, 1) := by decide +kernel
theorem d_X4_heightOn_89 : decode cX4_heightOn 89 = .ok (.aload_n 0, 1) := by decide +kernel
theorem d_X4_heightOn_90 : decode cX4_heightOn 90 = .ok (.getfield 36, 3) := by decide +kernel
theorem d_X4_heightOn_93 : decode cX4_heightOn 93 = .ok (.iload_n 3, 1) := by decide +kernel
theorem d_X4_heightOn_94 : decode cX4_heightOn 94 = .ok (.iaload, 1) := by decide +kernel
theorem d_X4_heightOn_95 : decode cX4_heightOn 95 = .ok (.aload_n 0, 1) := by decide +kernel
theorem d_X4_heightOn_96 : decode cX4_heightOn 96 = .ok (.getfield 36, 3) := by decide +kernel
theorem d_X4_heightOn_99 : decode cX4_heightOn 99 = .ok (.iload_n 2, 1) := by decide +kernel
theorem d_X4_heightOn_100 : decode cX4_heightOn 100 = .ok (.iaload, 1) := by decide +kernel
theorem d_X4_heightOn_101 : decode cX4_heightOn 101 = .ok (.isub, 1) := by decide +kernel
theorem d_X4_heightOn_102 : decode cX4_heightOn 102 = .ok (.istore 4, 2) := by decide +kernel
theorem d_X4_heightOn_104 : decode cX4_heightOn 104 = .ok (.aload_n 0, 1) := by decide +kernel
theorem d_X4_heightOn_105 : decode cX4_heightOn 105 = .ok (.getfield 36, 3) := by decide +kernel
theorem d_X4_heightOn_108 : decode cX4_heightOn 108 = .ok (.iload_n 2, 1) := by decide +kernel
theorem d_X4_heightOn_109 : decode cX4_heightOn 109 = .ok (.iaload, 1) := by decide +kernel
theorem d_X4_heightOn_110 : decode cX4_heightOn 110 = .ok (.iload 4, 2) := by decide +kernel
theorem d_X4_heightOn_112 : decode cX4_heightOn 112 = .ok (.iload_n 1, 1) := by decide +kernel
theorem d_X4_heightOn_113 : decode cX4_heightOn 113 = .ok (.iload_n 2, 1) := by decide +kernel
theorem d_X4_heightOn_114 : decode cX4_heightOn 114 = .ok (.isub, 1) := by decide +kernel
theorem d_X4_heightOn_115 : decode cX4_heightOn 115 = .ok (.imul, 1) := by decide +kernel
theorem d_X4_heightOn_116 : decode cX4_heightOn 116 = .ok (.iload_n 3, 1) := by decide +kernel
theorem d_X4_heightOn_117 : decode cX4_heightOn 117 = .ok (.iload_n 2, 1) := by decide +kernel
theorem d_X4_heightOn_118 : decode cX4_heightOn 118 = .ok (.isub, 1) := by decide +kernel
theorem d_X4_heightOn_119 : decode cX4_heightOn 119 = .ok (.idiv, 1) := by decide +kernel
theorem d_X4_heightOn_120 : decode cX4_heightOn 120 = .ok (.iadd, 1) := by decide +kernel
theorem d_X4_heightOn_121 : decode cX4_heightOn 121 = .ok (.ireturn, 1) := by decide +kernel
theorem d_X4_waterOn_0 : decode cX4_waterOn 0 = .ok (.aload_n 0, 1) := by decide +kernel
theorem d_X4_waterOn_1 : decode cX4_waterOn 1 = .ok (.getfield 46, 3) := by decide +kernel
theorem d_X4_waterOn_4 : decode cX4_waterOn 4 = .ok (.iload_n 1, 1) := by decide +kernel
theorem d_X4_waterOn_5 : decode cX4_waterOn 5 = .ok (.aaload, 1) := by decide +kernel
theorem d_X4_waterOn_6 : decode cX4_waterOn 6 = .ok (.astore_n 3, 1) := by decide +kernel
theorem d_X4_waterOn_7 : decode cX4_waterOn 7 = .ok (.aload_n 3, 1) := by decide +kernel
theorem d_X4_waterOn_8 : decode cX4_waterOn 8 = .ok (.getfield 129, 3) := by decide +kernel
theorem d_X4_waterOn_11 : decode cX4_waterOn 11 = .ok (.iconst 4, 1) := by decide +kernel
theorem d_X4_waterOn_12 : decode cX4_waterOn 12 = .ok (.if_icmp .ne 8, 3) := by decide +kernel
theorem d_X4_waterOn_15 : decode cX4_waterOn 15 = .ok (.aload_n 3, 1) := by decide +kernel
theorem d_X4_waterOn_16 : decode cX4_waterOn 16 = .ok (.getfield 132, 3) := by decide +kernel
theorem d_X4_waterOn_19 : decode cX4_waterOn 19 = .ok (.ireturn, 1) := by decide +kernel
theorem d_X4_waterOn_20 : decode cX4_waterOn 20 = .ok (.aload_n 3, 1) := by decide +kernel
theorem d_X4_waterOn_21 : decode cX4_waterOn 21 = .ok (.getfield 129, 3) := by decide +kernel
theorem d_X4_waterOn_24 : decode cX4_waterOn 24 = .ok (.iconst 5, 1) := by decide +kernel
theorem d_X4_waterOn_25 : decode cX4_waterOn 25 = .ok (.if_icmp .ne 14, 3) := by decide +kernel
theorem d_X4_waterOn_28 : decode cX4_waterOn 28 = .ok (.aload_n 0, 1) := by decide +kernel
theorem d_X4_waterOn_29 : decode cX4_waterOn 29 = .ok (.getfield 40, 3) := by decide +kernel
theorem d_X4_waterOn_32 : decode cX4_waterOn 32 = .ok (.iload_n 2, 1) := by decide +kernel
theorem d_X4_waterOn_33 : decode cX4_waterOn 33 = .ok (.baload, 1) := by decide +kernel
theorem d_X4_waterOn_34 : decode cX4_waterOn 34 = .ok (.ifCond .eq 5, 3) := by decide +kernel
theorem d_X4_waterOn_37 : decode cX4_waterOn 37 = .ok (.iconst 0, 1) := by decide +kernel
theorem d_X4_waterOn_38 : decode cX4_waterOn 38 = .ok (.ireturn, 1) := by decide +kernel
theorem d_X4_waterOn_39 : decode cX4_waterOn 39 = .ok (.aload_n 3, 1) := by decide +kernel
theorem d_X4_waterOn_40 : decode cX4_waterOn 40 = .ok (.getfield 132, 3) := by decide +kernel
theorem d_X4_waterOn_43 : decode cX4_waterOn 43 = .ok (.aload_n 0, 1) := by decide +kernel
theorem d_X4_waterOn_44 : decode cX4_waterOn 44 = .ok (.iload_n 2, 1) := by decide +kernel
theorem d_X4_waterOn_45 : decode cX4_waterOn 45 = .ok (.invokevirtual 135, 3) := by decide +kernel
theorem d_X4_waterOn_48 : decode cX4_waterOn 48 = .ok (.iadd, 1) := by decide +kernel
theorem d_X4_waterOn_49 : decode cX4_waterOn 49 = .ok (.aload_n 3, 1) := by decide +kernel
theorem d_X4_waterOn_50 : decode cX4_waterOn 50 = .ok (.iload_n 2, 1) := by decide +kernel
theorem d_X4_waterOn_51 : decode cX4_waterOn 51 = .ok (.invokevirtual 139, 3) := by decide +kernel
theorem d_X4_waterOn_54 : decode cX4_waterOn 54 = .ok (.isub, 1) := by decide +kernel
theorem d_X4_waterOn_55 : decode cX4_waterOn 55 = .ok (.ireturn, 1) := by decide +kernel
theorem d_X4_longNow_0 : decode cX4_longNow 0 = .ok (.aload_n 0, 1) := by decide +kernel
theorem d_X4_longNow_1 : decode cX4_longNow 1 = .ok (.invokevirtual 142, 3) := by decide +kernel
theorem d_X4_longNow_4 : decode cX4_longNow 4 = .ok (.ifCond .eq 32, 3) := by decide +kernel
theorem d_X4_longNow_7 : decode cX4_longNow 7 = .ok (.aload_n 0, 1) := by decide +kernel
theorem d_X4_longNow_8 : decode cX4_longNow 8 = .ok (.getfield 46, 3) := by decide +kernel
theorem d_X4_longNow_11 : decode cX4_longNow 11 = .ok (.iload_n 1, 1) := by decide +kernel
theorem d_X4_longNow_12 : decode cX4_longNow 12 = .ok (.aaload, 1) := by decide +kernel
theorem d_X4_longNow_13 : decode cX4_longNow 13 = .ok (.getfield 129, 3) := by decide +kernel
theorem d_X4_longNow_16 : decode cX4_longNow 16 = .ok (.iconst 3, 1) := by decide +kernel
theorem d_X4_longNow_17 : decode cX4_longNow 17 = .ok (.if_icmp .ne 19, 3) := by decide +kernel
theorem d_X4_longNow_20 : decode cX4_longNow 20 = .ok (.aload_n 0, 1) := by decide +kernel
theorem d_X4_longNow_21 : decode cX4_longNow 21 = .ok (.getfield 46, 3) := by decide +kernel
theorem d_X4_longNow_24 : decode cX4_longNow 24 = .ok (.iload_n 1, 1) := by decide +kernel
theorem d_X4_longNow_25 : decode cX4_longNow 25 = .ok (.aaload, 1) := by decide +kernel
theorem d_X4_longNow_26 : decode cX4_longNow 26 = .ok (.getfield 146, 3) := by decide +kernel
theorem d_X4_longNow_29 : decode cX4_longNow 29 = .ok (.ifCond .ne 7, 3) := by decide +kernel
theorem d_X4_longNow_32 : decode cX4_longNow 32 = .ok (.iconst 1, 1) := by decide +kernel
theorem d_X4_longNow_33 : decode cX4_longNow 33 = .ok (.goto 4, 3) := by decide +kernel
theorem d_X4_longNow_36 : decode cX4_longNow 36 = .ok (.iconst 0, 1) := by decide +kernel
theorem d_X4_longNow_37 : decode cX4_longNow 37 = .ok (.istore_n 2, 1) := by decide +kernel
theorem d_X4_longNow_38 : decode cX4_longNow 38 = .ok (.aload_n 0, 1) := by decide +kernel
theorem d_X4_longNow_39 : decode cX4_longNow 39 = .ok (.iload_n 1, 1) := by decide +kernel
theorem d_X4_longNow_40 : decode cX4_longNow 40 = .ok (.invokevirtual 150, 3) := by decide +kernel
theorem d_X4_longNow_43 : decode cX4_longNow 43 = .ok (.iload_n 2, 1) := by decide +kernel
theorem d_X4_longNow_44 : decode cX4_longNow 44 = .ok (.ifCond .eq 8, 3) := by decide +kernel
theorem d_X4_longNow_47 : decode cX4_longNow 47 = .ok (.bipush 8, 2) := by decide +kernel
theorem d_X4_longNow_49 : decode cX4_longNow 49 = .ok (.goto 4, 3) := by decide +kernel
theorem d_X4_longNow_52 : decode cX4_longNow 52 = .ok (.iconst 0, 1) := by decide +kernel
theorem d_X4_longNow_53 : decode cX4_longNow 53 = .ok (.iadd, 1) := by decide +kernel
theorem d_X4_longNow_54 : decode cX4_longNow 54 = .ok (.ireturn, 1) := by decide +kernel
theorem d_X4_longByDaylight_0 : decode cX4_longByDaylight 0 = .ok (.aload_n 0, 1) := by decide +kernel
theorem d_X4_longByDaylight_1 : decode cX4_longByDaylight 1 = .ok (.getfield 46, 3) := by decide +kernel
theorem d_X4_longByDaylight_4 : decode cX4_longByDaylight 4 = .ok (.iload_n 1, 1) := by decide +kernel
theorem d_X4_longByDaylight_5 : decode cX4_longByDaylight 5 = .ok (.aaload, 1) := by decide +kernel
theorem d_X4_longByDaylight_6 : decode cX4_longByDaylight 6 = .ok (.astore_n 2, 1) := by decide +kernel
theorem d_X4_longByDaylight_7 : decode cX4_longByDaylight 7 = .ok (.aload_n 2, 1) := by decide +kernel
theorem d_X4_longByDaylight_8 : decode cX4_longByDaylight 8 = .ok (.getfield 129, 3) := by decide +kernel
theorem d_X4_longByDaylight_11 : decode cX4_longByDaylight 11 = .ok (.iconst 4, 1) := by decide +kernel
theorem d_X4_longByDaylight_12 : decode cX4_longByDaylight 12 = .ok (.if_icmp .ne 10, 3) := by decide +kernel
theorem d_X4_longByDaylight_15 : decode cX4_longByDaylight 15 = .ok (.aload_n 2, 1) := by decide +kernel
theorem d_X4_longByDaylight_16 : decode cX4_longByDaylight 16 = .ok (.getfield 153, 3) := by decide +kernel
theorem d_X4_longByDaylight_19 : decode cX4_longByDaylight 19 = .ok (.iconst 4, 1) := by decide +kernel
theorem d_X4_longByDaylight_20 : decode cX4_longByDaylight 20 = .ok (.iadd, 1) := by decide +kernel
theorem d_X4_longByDaylight_21 : decode cX4_longByDaylight 21 = .ok (.ireturn, 1) := by decide +kernel
theorem d_X4_longByDaylight_22 : decode cX4_longByDaylight 22 = .ok (.aload_n 2, 1) := by decide +kernel
theorem d_X4_longByDaylight_23 : decode cX4_longByDaylight 23 = .ok (.getfield 129, 3) := by decide +kernel
theorem d_X4_longByDaylight_26 : decode cX4_longByDaylight 26 = .ok (.iconst 2, 1) := by decide +kernel
theorem d_X4_longByDaylight_27 : decode cX4_longByDaylight 27 = .ok (.if_icmp .ne 25, 3) := by decide +kernel
theorem d_X4_longByDaylight_30 : decode cX4_longByDaylight 30 = .ok (.aload_n 0, 1) := by decide +kernel
theorem d_X4_longByDaylight_31 : decode cX4_longByDaylight 31 = .ok (.aload_n 0, 1) := by decide +kernel
theorem d_X4_longByDaylight_32 : decode cX4_longByDaylight 32 = .ok (.invokevirtual 156, 3) := by decide +kernel
theorem d_X4_longByDaylight_35 : decode cX4_longByDaylight 35 = .ok (.invokevirtual 135, 3) := by decide +kernel
theorem d_X4_longByDaylight_38 : decode cX4_longByDaylight 38 = .ok (.bipush 20, 2) := by decide +kernel
theorem d_X4_longByDaylight_40 : decode cX4_longByDaylight 40 = .ok (.if_icmp .lt 12, 3) := by decide +kernel
theorem d_X4_longByDaylight_43 : decode cX4_longByDaylight 43 = .ok (.aload_n 2, 1) := by decide +kernel
theorem d_X4_longByDaylight_44 : decode cX4_longByDaylight 44 = .ok (.getfield 153, 3) := by decide +kernel
theorem d_X4_longByDaylight_47 : decode cX4_longByDaylight 47 = .ok (.iconst 1, 1) := by decide +kernel
theorem d_X4_longByDaylight_48 : decode cX4_longByDaylight 48 = .ok (.iadd, 1) := by decide +kernel
theorem d_X4_longByDaylight_49 : decode cX4_longByDaylight 49 = .ok (.iconst 2, 1) := by decide +kernel
theorem d_X4_longByDaylight_50 : decode cX4_longByDaylight 50 = .ok (.idiv, 1) := by decide +kernel
theorem d_X4_longByDaylight_51 : decode cX4_longByDaylight 51 = .ok (.ireturn, 1) := by decide +kernel
theorem d_X4_longByDaylight_52 : decode cX4_longByDaylight 52 = .ok (.aload_n 2, 1) := by decide +kernel
theorem d_X4_longByDaylight_53 : decode cX4_longByDaylight 53 = .ok (.getfield 153, 3) := by decide +kernel
theorem d_X4_longByDaylight_56 : decode cX4_longByDaylight 56 = .ok (.ireturn, 1) := by decide +kernel
theorem d_X4_whyNot_0 : decode cX4_whyNot 0 = .ok (.aload_n 1, 1) := by decide +kernel
theorem d_X4_whyNot_1 : decode cX4_whyNot 1 = .ok (.getfield 160, 3) := by decide +kernel
theorem d_X4_whyNot_4 : decode cX4_whyNot 4 = .ok (.ifCond .eq 5, 3) := by decide +kernel
theorem d_X4_whyNot_7 : decode cX4_whyNot 7 = .ok (.iconst 1, 1) := by decide +kernel
theorem d_X4_whyNot_8 : decode cX4_whyNot 8 = .ok (.ireturn, 1) := by decide +kernel
theorem d_X4_whyNot_9 : decode cX4_whyNot 9 = .ok (.aload_n 1, 1) := by decide +kernel
theorem d_X4_whyNot_10 : decode cX4_whyNot 10 = .ok (.iload_n 2, 1) := by decide +kernel
theorem d_X4_whyNot_11 : decode cX4_whyNot 11 = .ok (.invokevirtual 163, 3) := by decide +kernel
theorem d_X4_whyNot_14 : decode cX4_whyNot 14 = .ok (.istore_n 3, 1) := by decide +kernel
theorem d_X4_whyNot_15 : decode cX4_whyNot 15 = .ok (.aload_n 0, 1) := by decide +kernel
theorem d_X4_whyNot_16 : decode cX4_whyNot 16 = .ok (.iload_n 3, 1) := by decide +kernel
theorem d_X4_whyNot_17 : decode cX4_whyNot 17 = .ok (.invokevirtual 167, 3) := by decide +kernel
theorem d_X4_whyNot_20 : decode cX4_whyNot 20 = .ok (.ifCond .ne 5, 3) := by decide +kernel
theorem d_X4_whyNot_23 : decode cX4_whyNot 23 = .ok (.iconst 2, 1) := by decide +kernel
theorem d_X4_whyNot_24 : decode cX4_whyNot 24 = .ok (.ireturn, 1) := by decide +kernel
theorem d_X4_whyNot_25 : decode cX4_whyNot 25 = .ok (.aload_n 1, 1) := by decide +kernel
theorem d_X4_whyNot_26 : decode cX4_whyNot 26 = .ok (.getfield 170, 3) := by decide +kernel
theorem d_X4_whyNot_29 : decode cX4_whyNot 29 = .ok (.iload_n 3, 1) := by decide +kernel
theorem d_X4_whyNot_30 : decode cX4_whyNot 30 = .ok (.invokevirtual 174, 3) := by decide +kernel
theorem d_X4_whyNot_33 : decode cX4_whyNot 33 = .ok (.ifCond .eq 21, 3) := by decide +kernel
theorem d_X4_whyNot_36 : decode cX4_whyNot 36 = .ok (.aload_n 1, 1) := by decide +kernel
theorem d_X4_whyNot_37 : decode cX4_whyNot 37 = .ok (.getfield 170, 3) := by decide +kernel
theorem d_X4_whyNot_40 : decode cX4_whyNot 40 = .ok (.getfield 179, 3) := by decide +kernel
theorem d_X4_whyNot_43 : decode cX4_whyNot 43 = .ok (.iload_n 3, 1) := by decide +kernel
theorem d_X4_whyNot_44 : decode cX4_whyNot 44 = .ok (.iaload, 1) := by decide +kernel
theorem d_X4_whyNot_45 : decode cX4_whyNot 45 = .ok (.aload_n 1, 1) := by decide +kernel
theorem d_X4_whyNot_46 : decode cX4_whyNot 46 = .ok (.invokevirtual 182, 3) := by decide +kernel
theorem d_X4_whyNot_49 : decode cX4_whyNot 49 = .ok (.if_icmp .ge 5, 3) := by decide +kernel
theorem d_X4_whyNot_52 : decode cX4_whyNot 52 = .ok (.iconst 3, 1) := by decide +kernel
theorem d_X4_whyNot_53 : decode cX4_whyNot 53 = .ok (.ireturn, 1) := by decide +kernel
theorem d_X4_whyNot_54 : decode cX4_whyNot 54 = .ok (.aload_n 1, 1) := by decide +kernel
theorem d_X4_whyNot_55 : decode cX4_whyNot 55 = .ok (.getfield 185, 3) := by decide +kernel
theorem d_X4_whyNot_58 : decode cX4_whyNot 58 = .ok (.aload_n 0, 1) := by decide +kernel
theorem d_X4_whyNot_59 : decode cX4_whyNot 59 = .ok (.iload_n 3, 1) := by decide +kernel
theorem d_X4_whyNot_60 : decode cX4_whyNot 60 = .ok (.invokevirtual 188, 3) := by decide +kernel
theorem d_X4_whyNot_63 : decode cX4_whyNot 63 = .ok (.if_icmp .ge 7, 3) := by decide +kernel
theorem d_X4_whyNot_66 : decode cX4_whyNot 66 = .ok (.iconst 4, 1) := by decide +kernel
theorem d_X4_whyNot_67 : decode cX4_whyNot 67 = .ok (.goto 4, 3) := by decide +kernel
theorem d_X4_whyNot_70 : decode cX4_whyNot 70 = .ok (.iconst 0, 1) := by decide +kernel
theorem d_X4_whyNot_71 : decode cX4_whyNot 71 = .ok (.ireturn, 1) := by decide +kernel
theorem d_X4_setOut_0 : decode cX4_setOut 0 = .ok (.aload_n 1, 1) := by decide +kernel
theorem d_X4_setOut_1 : decode cX4_setOut 1 = .ok (.iload_n 2, 1) := by decide +kernel
theorem d_X4_setOut_2 : decode cX4_setOut 2 = .ok (.invokevirtual 163, 3) := by decide +kernel
theorem d_X4_setOut_5 : decode cX4_setOut 5 = .ok (.istore_n 3, 1) := by decide +kernel
theorem d_X4_setOut_6 : decode cX4_setOut 6 = .ok (.aload_n 0, 1) := by decide +kernel
theorem d_X4_setOut_7 : decode cX4_setOut 7 = .ok (.iload_n 3, 1) := by decide +kernel
theorem d_X4_setOut_8 : decode cX4_setOut 8 = .ok (.aload_n 0, 1) := by decide +kernel
theorem d_X4_setOut_9 : decode cX4_setOut 9 = .ok (.invokevirtual 156, 3) := by decide +kernel
theorem d_X4_setOut_12 : decode cX4_setOut 12 = .ok (.invokevirtual 191, 3) := by decide +kernel
theorem d_X4_setOut_15 : decode cX4_setOut 15 = .ok (.istore 4, 2) := by decide +kernel
theorem d_X4_setOut_17 : decode cX4_setOut 17 = .ok (.aload_n 1, 1) := by decide +kernel
theorem d_X4_setOut_18 : decode cX4_setOut 18 = .ok (.getfield 170, 3) := by decide +kernel
theorem d_X4_setOut_21 : decode cX4_setOut 21 = .ok (.iload_n 3, 1) := by decide +kernel
theorem d_X4_setOut_22 : decode cX4_setOut 22 = .ok (.iload 4, 2) := by decide +kernel
theorem d_X4_setOut_24 : decode cX4_setOut 24 = .ok (.aload_n 0, 1) := by decide +kernel
theorem d_X4_setOut_25 : decode cX4_setOut 25 = .ok (.getfield 9, 3) := by decide +kernel
theorem d_X4_setOut_28 : decode cX4_setOut 28 = .ok (.invokevirtual 195, 3) := by decide +kernel
theorem d_X4_setOut_31 : decode cX4_setOut 31 = .ok (.aload_n 1, 1) := by decide +kernel
theorem d_X4_setOut_32 : decode cX4_setOut 32 = .ok (.aload_n 1, 1) := by decide +kernel
theorem d_X4_setOut_33 : decode cX4_setOut 33 = .ok (.getfield 199, 3) := by decide +kernel
theorem d_X4_setOut_36 : decode cX4_setOut 36 = .ok (.putfield 202, 3) := by decide +kernel
theorem d_X4_setOut_39 : decode cX4_setOut 39 = .ok (.aload_n 1, 1) := by decide +kernel
theorem d_X4_setOut_40 : decode cX4_setOut 40 = .ok (.iload_n 3, 1) := by decide +kernel
theorem d_X4_setOut_41 : decode cX4_setOut 41 = .ok (.putfield 199, 3) := by decide +kernel
theorem d_X4_setOut_44 : decode cX4_setOut 44 = .ok (.aload_n 1, 1) := by decide +kernel
theorem d_X4_setOut_45 : decode cX4_setOut 45 = .ok (.invokevirtual 182, 3) := by decide +kernel
theorem d_X4_setOut_48 : decode cX4_setOut 48 = .ok (.iload 4, 2) := by decide +kernel
theorem d_X4_setOut_50 : decode cX4_setOut 50 = .ok (.if_icmp .le 10, 3) := by decide +kernel
theorem d_X4_setOut_53 : decode cX4_setOut 53 = .ok (.aload_n 1, 1) := by decide +kernel
theorem d_X4_setOut_54 : decode cX4_setOut 54 = .ok (.iconst 3, 1) := by decide +kernel
theorem d_X4_setOut_55 : decode cX4_setOut 55 = .ok (.putfield 160, 3) := by decide +kernel
theorem d_X4_setOut_58 : decode cX4_setOut 58 = .ok (.iconst 0, 1) := by decide +kernel
theorem d_X4_setOut_59 : decode cX4_setOut 59 = .ok (.ireturn, 1) := by decide +kernel
theorem d_X4_setOut_60 : decode cX4_setOut 60 = .ok (.aload_n 0, 1) := by decide +kernel
theorem d_X4_setOut_61 : decode cX4_setOut 61 = .ok (.iload_n 3, 1) := by decide +kernel
theorem d_X4_setOut_62 : decode cX4_setOut 62 = .ok (.invokevirtual 188, 3) := by decide +kernel
theorem d_X4_setOut_65 : decode cX4_setOut 65 = .ok (.istore 5, 2) := by decide +kernel
theorem d_X4_setOut_67 : decode cX4_setOut 67 = .ok (.aload_n 1, 1) := by decide +kernel
theorem d_X4_setOut_68 : decode cX4_setOut 68 = .ok (.iload_n 2, 1) := by decide +kernel
theorem d_X4_setOut_69 : decode cX4_setOut 69 = .ok (.ifCond .eq 7, 3) := by decide +kernel
theorem d_X4_setOut_72 : decode cX4_setOut 72 = .ok (.iconst 1, 1) := by decide +kernel
theorem d_X4_setOut_73 : decode cX4_setOut 73 = .ok (.goto 4, 3) := by decide +kernel
theorem d_X4_setOut_76 : decode cX4_setOut 76 = .ok (.iconst 2, 1) := by decide +kernel
theorem d_X4_setOut_77 : decode cX4_setOut 77 = .ok (.putfield 160, 3) := by decide +kernel
theorem d_X4_setOut_80 : decode cX4_setOut 80 = .ok (.aload_n 1, 1) := by decide +kernel
theorem d_X4_setOut_81 : decode cX4_setOut 81 = .ok (.aload_n 0, 1) := by decide +kernel
theorem d_X4_setOut_82 : decode cX4_setOut 82 = .ok (.getfield 9, 3) := by decide +kernel
theorem d_X4_setOut_85 : decode cX4_setOut 85 = .ok (.iload 5, 2) := by decide +kernel
theorem d_X4_setOut_87 : decode cX4_setOut 87 = .ok (.iadd, 1) := by decide +kernel
theorem d_X4_setOut_88 : decode cX4_setOut 88 = .ok (.putfield 205, 3) := by decide +kernel
theorem d_X4_setOut_91 : decode cX4_setOut 91 = .ok (.aload_n 1, 1) := by decide +kernel
theorem d_X4_setOut_92 : decode cX4_setOut 92 = .ok (.dup, 1) := by decide +kernel
theorem d_X4_setOut_93 : decode cX4_setOut 93 = .ok (.getfield 185, 3) := by decide +kernel
theorem d_X4_setOut_96 : decode cX4_setOut 96 = .ok (.iload 5, 2) := by decide +kernel
theorem d_X4_setOut_98 : decode cX4_setOut 98 = .ok (.isub, 1) := by decide +kernel
theorem d_X4_setOut_99 : decode cX4_setOut 99 = .ok (.putfield 185, 3) := by decide +kernel
theorem d_X4_setOut_102 : decode cX4_setOut 102 = .ok (.iload 5, 2) := by decide +kernel
theorem d_X4_setOut_104 : decode cX4_setOut 104 = .ok (.ireturn, 1) := by decide +kernel
theorem d_X4_goOneQuarter_0 : decode cX4_goOneQuarter 0 = .ok (.aload_n 0, 1) := by decide +kernel
theorem d_X4_goOneQuarter_1 : decode cX4_goOneQuarter 1 = .ok (.dup, 1) := by decide +kernel
theorem d_X4_goOneQuarter_2 : decode cX4_goOneQuarter 2 = .ok (.getfield 9, 3) := by decide +kernel
theorem d_X4_goOneQuarter_5 : decode cX4_goOneQuarter 5 = .ok (.iconst 1, 1) := by decide +kernel
theorem d_X4_goOneQuarter_6 : decode cX4_goOneQuarter 6 = .ok (.iadd, 1) := by decide +kernel
theorem d_X4_goOneQuarter_7 : decode cX4_goOneQuarter 7 = .ok (.putfield 9, 3) := by decide +kernel
theorem d_X4_goOneQuarter_10 : decode cX4_goOneQuarter 10 = .ok (.iconst 0, 1) := by decide +kernel
theorem d_X4_goOneQuarter_11 : decode cX4_goOneQuarter 11 = .ok (.istore_n 1, 1) := by decide +kernel
theorem d_X4_goOneQuarter_12 : decode cX4_goOneQuarter 12 = .ok (.iload_n 1, 1) := by decide +kernel
theorem d_X4_goOneQuarter_13 : decode cX4_goOneQuarter 13 = .ok (.aload_n 0, 1) := by decide +kernel
theorem d_X4_goOneQuarter_14 : decode cX4_goOneQuarter 14 = .ok (.getfield 18, 3) := by decide +kernel
theorem d_X4_goOneQuarter_17 : decode cX4_goOneQuarter 17 = .ok (.if_icmp .ge 60, 3) := by decide +kernel
theorem d_X4_goOneQuarter_20 : decode cX4_goOneQuarter 20 = .ok (.aload_n 0, 1) := by decide +kernel
theorem d_X4_goOneQuarter_21 : decode cX4_goOneQuarter 21 = .ok (.getfield 58, 3) := by decide +kernel
theorem d_X4_goOneQuarter_24 : decode cX4_goOneQuarter 24 = .ok (.iload_n 1, 1) := by decide +kernel
theorem d_X4_goOneQuarter_25 : decode cX4_goOneQuarter 25 = .ok (.aaload, 1) := by decide +kernel
theorem d_X4_goOneQuarter_26 : decode cX4_goOneQuarter 26 = .ok (.astore_n 2, 1) := by decide +kernel
theorem d_X4_goOneQuarter_27 : decode cX4_goOneQuarter 27 = .ok (.aload_n 2, 1) := by decide +kernel
theorem d_X4_goOneQuarter_28 : decode cX4_goOneQuarter 28 = .ok (.invokevirtual 208, 3) := by decide +kernel
theorem d_X4_goOneQuarter_31 : decode cX4_goOneQuarter 31 = .ok (.ifCond .eq 40, 3) := by decide +kernel
theorem d_X4_goOneQuarter_34 : decode cX4_goOneQuarter 34 = .ok (.aload_n 2, 1) := by decide +kernel
theorem d_X4_goOneQuarter_35 : decode cX4_goOneQuarter 35 = .ok (.getfield 205, 3) := by decide +kernel
theorem d_X4_goOneQuarter_38 : decode cX4_goOneQuarter 38 = .ok (.aload_n 0, 1) := by decide +kernel
theorem d_X4_goOneQuarter_39 : decode cX4_goOneQuarter 39 = .ok (.getfield 9, 3) := by decide +kernel
theorem d_X4_goOneQuarter_42 : decode cX4_goOneQuarter 42 = .ok (.if_icmp .ne 29, 3) := by decide +kernel
theorem d_X4_goOneQuarter_45 : decode cX4_goOneQuarter 45 = .ok (.aload_n 0, 1) := by decide +kernel
theorem d_X4_goOneQuarter_46 : decode cX4_goOneQuarter 46 = .ok (.aload_n 2, 1) := by decide +kernel
theorem d_X4_goOneQuarter_47 : decode cX4_goOneQuarter 47 = .ok (.aload_n 2, 1) := by decide +kernel
theorem d_X4_goOneQuarter_48 : decode cX4_goOneQuarter 48 = .ok (.getfield 160, 3) := by decide +kernel
theorem d_X4_goOneQuarter_51 : decode cX4_goOneQuarter 51 = .ok (.iconst 1, 1) := by decide +kernel
theorem d_X4_goOneQuarter_52 : decode cX4_goOneQuarter 52 = .ok (.if_icmp .ne 12, 3) := by decide +kernel
theorem d_X4_goOneQuarter_55 : decode cX4_goOneQuarter 55 = .ok (.aload_n 2, 1) := by decide +kernel
theorem d_X4_goOneQuarter_56 : decode cX4_goOneQuarter 56 = .ok (.getfield 199, 3) := by decide +kernel
theorem d_X4_goOneQuarter_59 : decode cX4_goOneQuarter 59 = .ok (.iconst 1, 1) := by decide +kernel
theorem d_X4_goOneQuarter_60 : decode cX4_goOneQuarter 60 = .ok (.iadd, 1) := by decide +kernel
theorem d_X4_goOneQuarter_61 : decode cX4_goOneQuarter 61 = .ok (.goto 7, 3) := by decide +kernel
theorem d_X4_goOneQuarter_64 : decode cX4_goOneQuarter 64 = .ok (.aload_n 2, 1) := by decide +kernel
theorem d_X4_goOneQuarter_65 : decode cX4_goOneQuarter 65 = .ok (.getfield 199, 3) := by decide +kernel
theorem d_X4_goOneQuarter_68 : decode cX4_goOneQuarter 68 = .ok (.invokevirtual 211, 3) := by decide +kernel
theorem d_X4_goOneQuarter_71 : decode cX4_goOneQuarter 71 = .ok (.iinc 1 1, 3) := by decide +kernel
theorem d_X4_goOneQuarter_74 : decode cX4_goOneQuarter 74 = .ok (.goto (-62), 3) := by decide +kernel
theorem d_X4_goOneQuarter_77 : decode cX4_goOneQuarter 77 = .ok (.return_, 1) := by decide +kernel
theorem d_X4_comeTo_0 : decode cX4_comeTo 0 = .ok (.aload_n 1, 1) := by decide +kernel
theorem d_X4_comeTo_1 : decode cX4_comeTo 1 = .ok (.iconst 0, 1) := by decide +kernel
theorem d_X4_comeTo_2 : decode cX4_comeTo 2 = .ok (.putfield 160, 3) := by decide +kernel
theorem d_X4_comeTo_5 : decode cX4_comeTo 5 = .ok (.aload_n 1, 1) := by decide +kernel
theorem d_X4_comeTo_6 : decode cX4_comeTo 6 = .ok (.iload_n 2, 1) := by decide +kernel
theorem d_X4_comeTo_7 : decode cX4_comeTo 7 = .ok (.putfield 199, 3) := by decide +kernel
theorem d_X4_comeTo_10 : decode cX4_comeTo 10 = .ok (.aload_n 1, 1) := by decide +kernel
theorem d_X4_comeTo_11 : decode cX4_comeTo 11 = .ok (.getfield 170, 3) := by decide +kernel
theorem d_X4_comeTo_14 : decode cX4_comeTo 14 = .ok (.aload_n 0, 1) := by decide +kernel
theorem d_X4_comeTo_15 : decode cX4_comeTo 15 = .ok (.getfield 52, 3) := by decide +kernel
theorem d_X4_comeTo_18 : decode cX4_comeTo 18 = .ok (.iload_n 2, 1) := by decide +kernel
theorem d_X4_comeTo_19 : decode cX4_comeTo 19 = .ok (.aaload, 1) := by decide +kernel
theorem d_X4_comeTo_20 : decode cX4_comeTo 20 = .ok (.getfield 215, 3) := by decide +kernel
theorem d_X4_comeTo_23 : decode cX4_comeTo 23 = .ok (.invokevirtual 216, 3) := by decide +kernel
theorem d_X4_comeTo_26 : decode cX4_comeTo 26 = .ok (.return_, 1) := by decide +kernel
theorem d_X4_carrierOf_0 : decode cX4_carrierOf 0 = .ok (.aload_n 1, 1) := by decide +kernel
theorem d_X4_carrierOf_1 : decode cX4_carrierOf 1 = .ok (.getfield 220, 3) := by decide +kernel
theorem d_X4_carrierOf_4 : decode cX4_carrierOf 4 = .ok (.iconst 1, 1) := by decide +kernel
theorem d_X4_carrierOf_5 : decode cX4_carrierOf 5 = .ok (.if_icmp .ne 26, 3) := by decide +kernel
theorem d_X4_carrierOf_8 : decode cX4_carrierOf 8 = .ok (.aload_n 0, 1) := by decide +kernel
theorem d_X4_carrierOf_9 : decode cX4_carrierOf 9 = .ok (.aload_n 1, 1) := by decide +kernel
theorem d_X4_carrierOf_10 : decode cX4_carrierOf 10 = .ok (.getfield 221, 3) := by decide +kernel
theorem d_X4_carrierOf_13 : decode cX4_carrierOf 13 = .ok (.invokevirtual 222, 3) := by decide +kernel
theorem d_X4_carrierOf_16 : decode cX4_carrierOf 16 = .ok (.ifCond .eq 15, 3) := by decide +kernel
theorem d_X4_carrierOf_19 : decode cX4_carrierOf 19 = .ok (.aload_n 0, 1) := by decide +kernel
theorem d_X4_carrierOf_20 : decode cX4_carrierOf 20 = .ok (.getfield 58, 3) := by decide +kernel
theorem d_X4_carrierOf_23 : decode cX4_carrierOf 23 = .ok (.aload_n 1, 1) := by decide +kernel
theorem d_X4_carrierOf_24 : decode cX4_carrierOf 24 = .ok (.getfield 221, 3) := by decide +kernel
theorem d_X4_carrierOf_27 : decode cX4_carrierOf 27 = .ok (.aaload, 1) := by decide +kernel
theorem d_X4_carrierOf_28 : decode cX4_carrierOf 28 = .ok (.goto 4, 3) := by decide +kernel
theorem d_X4_carrierOf_31 : decode cX4_carrierOf 31 = .ok (.aconst_null, 1) := by decide +kernel
theorem d_X4_carrierOf_32 : decode cX4_carrierOf 32 = .ok (.areturn, 1) := by decide +kernel
theorem d_X4_boatsAground_0 : decode cX4_boatsAground 0 = .ok (.iconst 0, 1) := by decide +kernel
theorem d_X4_boatsAground_1 : decode cX4_boatsAground 1 = .ok (.istore_n 1, 1) := by decide +kernel
theorem d_X4_boatsAground_2 : decode cX4_boatsAground 2 = .ok (.iconst 0, 1) := by decide +kernel
theorem d_X4_boatsAground_3 : decode cX4_boatsAground 3 = .ok (.istore_n 2, 1) := by decide +kernel
theorem d_X4_boatsAground_4 : decode cX4_boatsAground 4 = .ok (.iload_n 2, 1) := by decide +kernel
theorem d_X4_boatsAground_5 : decode cX4_boatsAground 5 = .ok (.aload_n 0, 1) := by decide +kernel
theorem d_X4_boatsAground_6 : decode cX4_boatsAground 6 = .ok (.getfield 18, 3) := by decide +kernel
theorem d_X4_boatsAground_9 : decode cX4_boatsAground 9 = .ok (.if_icmp .ge 30, 3) := by decide +kernel
theorem d_X4_boatsAground_12 : decode cX4_boatsAground 12 = .ok (.iload_n 1, 1) := by decide +kernel
theorem d_X4_boatsAground_13 : decode cX4_boatsAground 13 = .ok (.aload_n 0, 1) := by decide +kernel
theorem d_X4_boatsAground_14 : decode cX4_boatsAground 14 = .ok (.getfield 58, 3) := by decide +kernel
theorem d_X4_boatsAground_17 : decode cX4_boatsAground 17 = .ok (.iload_n 2, 1) := by decide +kernel
theorem d_X4_boatsAground_18 : decode cX4_boatsAground 18 = .ok (.aaload, 1) := by decide +kernel
theorem d_X4_boatsAground_19 : decode cX4_boatsAground 19 = .ok (.getfield 160, 3) := by decide +kernel
theorem d_X4_boatsAground_22 : decode cX4_boatsAground 22 = .ok (.iconst 3, 1) := by decide +kernel
theorem d_X4_boatsAground_23 : decode cX4_boatsAground 23 = .ok (.if_icmp .ne 7, 3) := by decide +kernel
theorem d_X4_boatsAground_26 : decode cX4_boatsAground 26 = .ok (.iconst 1, 1) := by decide +kernel
theorem d_X4_boatsAground_27 : decode cX4_boatsAground 27 = .ok (.goto 4, 3) := by decide +kernel
theorem d_X4_boatsAground_30 : decode cX4_boatsAground 30 = .ok (.iconst 0, 1) := by decide +kernel
theorem d_X4_boatsAground_31 : decode cX4_boatsAground 31 = .ok (.iadd, 1) := by decide +kernel
theorem d_X4_boatsAground_32 : decode cX4_boatsAground 32 = .ok (.istore_n 1, 1) := by decide +kernel
theorem d_X4_boatsAground_33 : decode cX4_boatsAground 33 = .ok (.iinc 2 1, 3) := by decide +kernel
theorem d_X4_boatsAground_36 : decode cX4_boatsAground 36 = .ok (.goto (-32), 3) := by decide +kernel
theorem d_X4_boatsAground_39 : decode cX4_boatsAground 39 = .ok (.iload_n 1, 1) := by decide +kernel
theorem d_X4_boatsAground_40 : decode cX4_boatsAground 40 = .ok (.ireturn, 1) := by decide +kernel
theorem d_X4_darkCrossings_0 : decode cX4_darkCrossings 0 = .ok (.iconst 0, 1) := by decide +kernel
theorem d_X4_darkCrossings_1 : decode cX4_darkCrossings 1 = .ok (.istore_n 1, 1) := by decide +kernel
theorem d_X4_darkCrossings_2 : decode cX4_darkCrossings 2 = .ok (.iconst 0, 1) := by decide +kernel
theorem d_X4_darkCrossings_3 : decode cX4_darkCrossings 3 = .ok (.istore_n 2, 1) := by decide +kernel
theorem d_X4_darkCrossings_4 : decode cX4_darkCrossings 4 = .ok (.iload_n 2, 1) := by decide +kernel
theorem d_X4_darkCrossings_5 : decode cX4_darkCrossings 5 = .ok (.aload_n 0, 1) := by decide +kernel
theorem d_X4_darkCrossings_6 : decode cX4_darkCrossings 6 = .ok (.getfield 15, 3) := by decide +kernel
theorem d_X4_darkCrossings_9 : decode cX4_darkCrossings 9 = .ok (.if_icmp .ge 54, 3) := by decide +kernel
theorem d_X4_darkCrossings_12 : decode cX4_darkCrossings 12 = .ok (.aload_n 0, 1) := by decide +kernel
theorem d_X4_darkCrossings_13 : decode cX4_darkCrossings 13 = .ok (.getfield 46, 3) := by decide +kernel
theorem d_X4_darkCrossings_16 : decode cX4_darkCrossings 16 = .ok (.iload_n 2, 1) := by decide +kernel
theorem d_X4_darkCrossings_17 : decode cX4_darkCrossings 17 = .ok (.aaload, 1) := by decide +kernel
theorem d_X4_darkCrossings_18 : decode cX4_darkCrossings 18 = .ok (.getfield 129, 3) := by decide +kernel
theorem d_X4_darkCrossings_21 : decode cX4_darkCrossings 21 = .ok (.iconst 3, 1) := by decide +kernel
theorem d_X4_darkCrossings_22 : decode cX4_darkCrossings 22 = .ok (.if_icmp .ne 19, 3) := by decide +kernel
theorem d_X4_darkCrossings_25 : decode cX4_darkCrossings 25 = .ok (.aload_n 0, 1) := by decide +kernel
theorem d_X4_darkCrossings_26 : decode cX4_darkCrossings 26 = .ok (.getfield 46, 3) := by decide +kernel
theorem d_X4_darkCrossings_29 : decode cX4_darkCrossings 29 = .ok (.iload_n 2, 1) := by decide +kernel
theorem d_X4_darkCrossings_30 : decode cX4_darkCrossings 30 = .ok (.aaload, 1) := by decide +kernel
theorem d_X4_darkCrossings_31 : decode cX4_darkCrossings 31 = .ok (.getfield 146, 3) := by decide +kernel
theorem d_X4_darkCrossings_34 : decode cX4_darkCrossings 34 = .ok (.ifCond .ne 7, 3) := by decide +kernel
theorem d_X4_darkCrossings_37 : decode cX4_darkCrossings 37 = .ok (.iconst 1, 1) := by decide +kernel
theorem d_X4_darkCrossings_38 : decode cX4_darkCrossings 38 = .ok (.goto 4, 3) := by decide +kernel
theorem d_X4_darkCrossings_41 : decode cX4_darkCrossings 41 = .ok (.iconst 0, 1) := by decide +kernel
theorem d_X4_darkCrossings_42 : decode cX4_darkCrossings 42 = .ok (.istore_n 3, 1) := by decide +kernel
theorem d_X4_darkCrossings_43 : decode cX4_darkCrossings 43 = .ok (.iload_n 1, 1) := by decide +kernel
theorem d_X4_darkCrossings_44 : decode cX4_darkCrossings 44 = .ok (.iload_n 3, 1) := by decide +kernel
theorem d_X4_darkCrossings_45 : decode cX4_darkCrossings 45 = .ok (.ifCond .eq 9, 3) := by decide +kernel
theorem d_X4_darkCrossings_48 : decode cX4_darkCrossings 48 = .ok (.iconst 1, 1) := by decide +kernel
theorem d_X4_darkCrossings_49 : decode cX4_darkCrossings 49 = .ok (.iload_n 2, 1) := by decide +kernel
theorem d_X4_darkCrossings_50 : decode cX4_darkCrossings 50 = .ok (.ishl, 1) := by decide +kernel
theorem d_X4_darkCrossings_51 : decode cX4_darkCrossings 51 = .ok (.goto 4, 3) := by decide +kernel
theorem d_X4_darkCrossings_54 : decode cX4_darkCrossings 54 = .ok (.iconst 0, 1) := by decide +kernel
theorem d_X4_darkCrossings_55 : decode cX4_darkCrossings 55 = .ok (.ior, 1) := by decide +kernel
theorem d_X4_darkCrossings_56 : decode cX4_darkCrossings 56 = .ok (.istore_n 1, 1) := by decide +kernel
theorem d_X4_darkCrossings_57 : decode cX4_darkCrossings 57 = .ok (.iinc 2 1, 3) := by decide +kernel
theorem d_X4_darkCrossings_60 : decode cX4_darkCrossings 60 = .ok (.goto (-56), 3) := by decide +kernel
theorem d_X4_darkCrossings_63 : decode cX4_darkCrossings 63 = .ok (.iload_n 1, 1) := by decide +kernel
theorem d_X4_darkCrossings_64 : decode cX4_darkCrossings 64 = .ok (.ireturn, 1) := by decide +kernel
theorem d_X4_tripsBear_0 : decode cX4_tripsBear 0 = .ok (.iconst 0, 1) := by decide +kernel
theorem d_X4_tripsBear_1 : decode cX4_tripsBear 1 = .ok (.istore_n 2, 1) := by decide +kernel
theorem d_X4_tripsBear_2 : decode cX4_tripsBear 2 = .ok (.iload_n 2, 1) := by decide +kernel
theorem d_X4_tripsBear_3 : decode cX4_tripsBear 3 = .ok (.aload_n 0, 1) := by decide +kernel
theorem d_X4_tripsBear_4 : decode cX4_tripsBear 4 = .ok (.getfield 24, 3) := by decide +kernel
theorem d_X4_tripsBear_7 : decode cX4_tripsBear 7 = .ok (.if_icmp .ge 37, 3) := by decide +kernel
theorem d_X4_tripsBear_10 : decode cX4_tripsBear 10 = .ok (.iload_n 1, 1) := by decide +kernel
theorem d_X4_tripsBear_11 : decode cX4_tripsBear 11 = .ok (.aload_n 0, 1) := by decide +kernel
theorem d_X4_tripsBear_12 : decode cX4_tripsBear 12 = .ok (.getfield 70, 3) := by decide +kernel
theorem d_X4_tripsBear_15 : decode cX4_tripsBear 15 = .ok (.iload_n 2, 1) := by decide +kernel
theorem d_X4_tripsBear_16 : decode cX4_tripsBear 16 = .ok (.aaload, 1) := by decide +kernel
theorem d_X4_tripsBear_17 : decode cX4_tripsBear 17 = .ok (.invokevirtual 225, 3) := by decide +kernel
theorem d_X4_tripsBear_20 : decode cX4_tripsBear 20 = .ok (.iand, 1) := by decide +kernel
theorem d_X4_tripsBear_21 : decode cX4_tripsBear 21 = .ok (.invokestatic 228, 3) := by decide +kernel
theorem d_X4_tripsBear_24 : decode cX4_tripsBear 24 = .ok (.aload_n 0, 1) := by decide +kernel
theorem d_X4_tripsBear_25 : decode cX4_tripsBear 25 = .ok (.getfield 70, 3) := by decide +kernel
theorem d_X4_tripsBear_28 : decode cX4_tripsBear 28 = .ok (.iload_n 2, 1) := by decide +kernel
theorem d_X4_tripsBear_29 : decode cX4_tripsBear 29 = .ok (.aaload, 1) := by decide +kernel
theorem d_X4_tripsBear_30 : decode cX4_tripsBear 30 = .ok (.getfield 233, 3) := by decide +kernel
theorem d_X4_tripsBear_33 : decode cX4_tripsBear 33 = .ok (.if_icmp .le 5, 3) := by decide +kernel
theorem d_X4_tripsBear_36 : decode cX4_tripsBear 36 = .ok (.iconst 0, 1) := by decide +kernel
theorem d_X4_tripsBear_37 : decode cX4_tripsBear 37 = .ok (.ireturn, 1) := by decide +kernel
theorem d_X4_tripsBear_38 : decode cX4_tripsBear 38 = .ok (.iinc 2 1, 3) := by decide +kernel
theorem d_X4_tripsBear_41 : decode cX4_tripsBear 41 = .ok (.goto (-39), 3) := by decide +kernel
theorem d_X4_tripsBear_44 : decode cX4_tripsBear 44 = .ok (.iconst 1, 1) := by decide +kernel
theorem d_X4_tripsBear_45 : decode cX4_tripsBear 45 = .ok (.ireturn, 1) := by decide +kernel
theorem d_X5_init_0 : decode cX5_init 0 = .ok (.aload_n 0, 1) := by decide +kernel
theorem d_X5_init_1 : decode cX5_init 1 = .ok (.invokespecial 1, 3) := by decide +kernel
theorem d_X5_init_4 : decode cX5_init 4 = .ok (.aload_n 0, 1) := by decide +kernel
theorem d_X5_init_5 : decode cX5_init 5 = .ok (.iconst 0, 1) := by decide +kernel
theorem d_X5_init_6 : decode cX5_init 6 = .ok (.putfield 7, 3) := by decide +kernel
theorem d_X5_init_9 : decode cX5_init 9 = .ok (.aload_n 0, 1) := by decide +kernel
theorem d_X5_init_10 : decode cX5_init 10 = .ok (.iconst 0, 1) := by decide +kernel
theorem d_X5_init_11 : decode cX5_init 11 = .ok (.putfield 13, 3) := by decide +kernel
theorem d_X5_init_14 : decode cX5_init 14 = .ok (.aload_n 0, 1) := by decide +kernel
theorem d_X5_init_15 : decode cX5_init 15 = .ok (.iconst 0, 1) := by decide +kernel
theorem d_X5_init_16 : decode cX5_init 16 = .ok (.putfield 16, 3) := by decide +kernel
theorem d_X5_init_19 : decode cX5_init 19 = .ok (.aload_n 0, 1) := by decide +kernel
theorem d_X5_init_20 : decode cX5_init 20 = .ok (.iconst 0, 1) := by decide +kernel
theorem d_X5_init_21 : decode cX5_init 21 = .ok (.putfield 19, 3) := by decide +kernel
theorem d_X5_init_24 : decode cX5_init 24 = .ok (.return_, 1) := by decide +kernel
theorem d_X5_begin_0 : decode cX5_begin 0 = .ok (.aload_n 0, 1) := by decide +kernel
theorem d_X5_begin_1 : decode cX5_begin 1 = .ok (.iload_n 1, 1) := by decide +kernel
theorem d_X5_begin_2 : decode cX5_begin 2 = .ok (.putfield 7, 3) := by decide +kernel
theorem d_X5_begin_5 : decode cX5_begin 5 = .ok (.aload_n 0, 1) := by decide +kernel
theorem d_X5_begin_6 : decode cX5_begin 6 = .ok (.iload_n 2, 1) := by decide +kernel
theorem d_X5_begin_7 : decode cX5_begin 7 = .ok (.putfield 13, 3) := by decide +kernel
theorem d_X5_begin_10 : decode cX5_begin 10 = .ok (.aload_n 0, 1) := by decide +kernel
theorem d_X5_begin_11 : decode cX5_begin 11 = .ok (.iload_n 3, 1) := by decide +kernel
theorem d_X5_begin_12 : decode cX5_begin 12 = .ok (.putfield 16, 3) := by decide +kernel
theorem d_X5_begin_15 : decode cX5_begin 15 = .ok (.aload_n 0, 1) := by decide +kernel
theorem d_X5_begin_16 : decode cX5_begin 16 = .ok (.iload 4, 2) := by decide +kernel
theorem d_X5_begin_18 : decode cX5_begin 18 = .ok (.putfield 19, 3) := by decide +kernel
theorem d_X5_begin_21 : decode cX5_begin 21 = .ok (.return_, 1) := by decide +kernel
theorem d_X5_copyFrom_0 : decode cX5_copyFrom 0 = .ok (.aload_n 0, 1) := by decide +kernel
theorem d_X5_copyFrom_1 : decode cX5_copyFrom 1 = .ok (.aload_n 1, 1) := by decide +kernel
theorem d_X5_copyFrom_2 : decode cX5_copyFrom 2 = .ok (.getfield 7, 3) := by decide +kernel
theorem d_X5_copyFrom_5 : decode cX5_copyFrom 5 = .ok (.aload_n 1, 1) := by decide +kernel
theorem d_X5_copyFrom_6 : decode cX5_copyFrom 6 = .ok (.getfield 13, 3) := by decide +kernel
theorem d_X5_copyFrom_9 : decode cX5_copyFrom 9 = .ok (.aload_n 1, 1) := by decide +kernel
theorem d_X5_copyFrom_10 : decode cX5_copyFrom 10 = .ok (.getfield 16, 3) := by decide +kernel
theorem d_X5_copyFrom_13 : decode cX5_copyFrom 13 = .ok (.aload_n 1, 1) := by decide +kernel
theorem d_X5_copyFrom_14 : decode cX5_copyFrom 14 = .ok (.getfield 19, 3) := by decide +kernel
theorem d_X5_copyFrom_17 : decode cX5_copyFrom 17 = .ok (.invokevirtual 22, 3) := by decide +kernel
theorem d_X5_copyFrom_20 : decode cX5_copyFrom 20 = .ok (.return_, 1) := by decide +kernel
theorem d_X5_isInForce_0 : decode cX5_isInForce 0 = .ok (.iload_n 1, 1) := by decide +kernel
theorem d_X5_isInForce_1 : decode cX5_isInForce 1 = .ok (.aload_n 0, 1) := by decide +kernel
theorem d_X5_isInForce_2 : decode cX5_isInForce 2 = .ok (.getfield 16, 3) := by decide +kernel
theorem d_X5_isInForce_5 : decode cX5_isInForce 5 = .ok (.aload_n 0, 1) := by decide +kernel
theorem d_X5_isInForce_6 : decode cX5_isInForce 6 = .ok (.getfield 19, 3) := by decide +kernel
theorem d_X5_isInForce_9 : decode cX5_isInForce 9 = .ok (.invokestatic 26, 3) := by decide +kernel
theorem d_X5_isInForce_12 : decode cX5_isInForce 12 = .ok (.ireturn, 1) := by decide +kernel
theorem d_X6_init_0 : decode cX6_init 0 = .ok (.aload_n 0, 1) := by decide +kernel
theorem d_X6_init_1 : decode cX6_init 1 = .ok (.invokespecial 3, 3) := by decide +kernel
theorem d_X6_init_4 : decode cX6_init 4 = .ok (.aload_n 0, 1) := by decide +kernel
theorem d_X6_init_5 : decode cX6_init 5 = .ok (.iconst (-1), 1) := by decide +kernel
theorem d_X6_init_6 : decode cX6_init 6 = .ok (.putfield 9, 3) := by decide +kernel
theorem d_X6_init_9 : decode cX6_init 9 = .ok (.aload_n 0, 1) := by decide +kernel
theorem d_X6_init_10 : decode cX6_init 10 = .ok (.iconst 0, 1) := by decide +kernel
theorem d_X6_init_11 : decode cX6_init 11 = .ok (.putfield 15, 3) := by decide +kernel
theorem d_X6_init_14 : decode cX6_init 14 = .ok (.aload_n 0, 1) := by decide +kernel
theorem d_X6_init_15 : decode cX6_init 15 = .ok (.bipush 40, 2) := by decide +kernel
theorem d_X6_init_17 : decode cX6_init 17 = .ok (.newarray .int, 2) := by decide +kernel
theorem d_X6_init_19 : decode cX6_init 19 = .ok (.putfield 18, 3) := by decide +kernel
theorem d_X6_init_22 : decode cX6_init 22 = .ok (.return_, 1) := by decide +kernel
theorem d_X6_begin_0 : decode cX6_begin 0 = .ok (.aload_n 0, 1) := by decide +kernel
theorem d_X6_begin_1 : decode cX6_begin 1 = .ok (.iload_n 1, 1) := by decide +kernel
theorem d_X6_begin_2 : decode cX6_begin 2 = .ok (.putfield 9, 3) := by decide +kernel
theorem d_X6_begin_5 : decode cX6_begin 5 = .ok (.aload_n 0, 1) := by decide +kernel
theorem d_X6_begin_6 : decode cX6_begin 6 = .ok (.iload_n 2, 1) := by decide +kernel
theorem d_X6_begin_7 : decode cX6_begin 7 = .ok (.putfield 15, 3) := by decide +kernel
theorem d_X6_begin_10 : decode cX6_begin 10 = .ok (.aload_n 0, 1) := by decide +kernel
theorem d_X6_begin_11 : decode cX6_begin 11 = .ok (.getfield 18, 3) := by decide +kernel
theorem d_X6_begin_14 : decode cX6_begin 14 = .ok (.iconst 0, 1) := by decide +kernel
theorem d_X6_begin_15 : decode cX6_begin 15 = .ok (.invokestatic 22, 3) := by decide +kernel
theorem d_X6_begin_18 : decode cX6_begin 18 = .ok (.return_, 1) := by decide +kernel
theorem d_X6_isMissing_0 : decode cX6_isMissing 0 = .ok (.aload_n 0, 1) := by decide +kernel
theorem d_X6_isMissing_1 : decode cX6_isMissing 1 = .ok (.getfield 9, 3) := by decide +kernel
theorem d_X6_isMissing_4 : decode cX6_isMissing 4 = .ok (.iconst (-1), 1) := by decide +kernel
theorem d_X6_isMissing_5 : decode cX6_isMissing 5 = .ok (.if_icmp .ne 7, 3) := by decide +kernel
theorem d_X6_isMissing_8 : decode cX6_isMissing 8 = .ok (.iconst 1, 1) := by decide +kernel
theorem d_X6_isMissing_9 : decode cX6_isMissing 9 = .ok (.goto 4, 3) := by decide +kernel
theorem d_X6_isMissing_12 : decode cX6_isMissing 12 = .ok (.iconst 0, 1) := by decide +kernel
theorem d_X6_isMissing_13 : decode cX6_isMissing 13 = .ok (.ireturn, 1) := by decide +kernel
theorem d_X6_hasPlace_0 : decode cX6_hasPlace 0 = .ok (.iload_n 1, 1) := by decide +kernel
theorem d_X6_hasPlace_1 : decode cX6_hasPlace 1 = .ok (.iconst 0, 1) := by decide +kernel
theorem d_X6_hasPlace_2 : decode cX6_hasPlace 2 = .ok (.aload_n 0, 1) := by decide +kernel
theorem d_X6_hasPlace_3 : decode cX6_hasPlace 3 = .ok (.getfield 15, 3) := by decide +kernel
theorem d_X6_hasPlace_6 : decode cX6_hasPlace 6 = .ok (.iconst 1, 1) := by decide +kernel
theorem d_X6_hasPlace_7 : decode cX6_hasPlace 7 = .ok (.isub, 1) := by decide +kernel
theorem d_X6_hasPlace_8 : decode cX6_hasPlace 8 = .ok (.invokestatic 28, 3) := by decide +kernel
theorem d_X6_hasPlace_11 : decode cX6_hasPlace 11 = .ok (.ireturn, 1) := by decide +kernel
theorem d_X6_faultAs_0 : decode cX6_faultAs 0 = .ok (.aload_n 0, 1) := by decide +kernel
theorem d_X6_faultAs_1 : decode cX6_faultAs 1 = .ok (.invokevirtual 32, 3) := by decide +kernel
theorem d_X6_faultAs_4 : decode cX6_faultAs 4 = .ok (.ifCond .eq 6, 3) := by decide +kernel
theorem d_X6_faultAs_7 : decode cX6_faultAs 7 = .ok (.bipush 10, 2) := by decide +kernel
theorem d_X6_faultAs_9 : decode cX6_faultAs 9 = .ok (.ireturn, 1) := by decide +kernel
theorem d_X6_faultAs_10 : decode cX6_faultAs 10 = .ok (.aload_n 0, 1) := by decide +kernel
theorem d_X6_faultAs_11 : decode cX6_faultAs 11 = .ok (.getfield 9, 3) := by decide +kernel
theorem d_X6_faultAs_14 : decode cX6_faultAs 14 = .ok (.iload_n 1, 1) := by decide +kernel
theorem d_X6_faultAs_15 : decode cX6_faultAs 15 = .ok (.if_icmp .ne 7, 3) := by decide +kernel
theorem d_X6_faultAs_18 : decode cX6_faultAs 18 = .ok (.iconst 0, 1) := by decide +kernel
theorem d_X6_faultAs_19 : decode cX6_faultAs 19 = .ok (.goto 5, 3) := by decide +kernel
theorem d_X6_faultAs_22 : decode cX6_faultAs 22 = .ok (.bipush 11, 2) := by decide +kernel
theorem d_X6_faultAs_24 : decode cX6_faultAs 24 = .ok (.ireturn, 1) := by decide +kernel
theorem d_X6_put_0 : decode cX6_put 0 = .ok (.aload_n 0, 1) := by decide +kernel
theorem d_X6_put_1 : decode cX6_put 1 = .ok (.getfield 18, 3) := by decide +kernel
theorem d_X6_put_4 : decode cX6_put 4 = .ok (.iload_n 1, 1) := by decide +kernel
theorem d_X6_put_5 : decode cX6_put 5 = .ok (.aload_n 0, 1) := by decide +kernel
theorem d_X6_put_6 : decode cX6_put 6 = .ok (.getfield 9, 3) := by decide +kernel
theorem d_X6_put_9 : decode cX6_put 9 = .ok (.ifCond .ne 8, 3) := by decide +kernel
theorem d_X6_put_12 : decode cX6_put 12 = .ok (.iload_n 2, 1) := by decide +kernel
theorem d_X6_put_13 : decode cX6_put 13 = .ok (.i2b, 1) := by decide +kernel
theorem d_X6_put_14 : decode cX6_put 14 = .ok (.goto 4, 3) := by decide +kernel
theorem d_X6_put_17 : decode cX6_put 17 = .ok (.iload_n 2, 1) := by decide +kernel
theorem d_X6_put_18 : decode cX6_put 18 = .ok (.iastore, 1) := by decide +kernel
theorem d_X6_put_19 : decode cX6_put 19 = .ok (.return_, 1) := by decide +kernel
theorem d_X7_init_0 : decode cX7_init 0 = .ok (.aload_n 0, 1) := by decide +kernel
theorem d_X7_init_1 : decode cX7_init 1 = .ok (.invokespecial 3, 3) := by decide +kernel
theorem d_X7_init_4 : decode cX7_init 4 = .ok (.aload_n 0, 1) := by decide +kernel
theorem d_X7_init_5 : decode cX7_init 5 = .ok (.iconst 0, 1) := by decide +kernel
theorem d_X7_init_6 : decode cX7_init 6 = .ok (.putfield 9, 3) := by decide +kernel
theorem d_X7_init_9 : decode cX7_init 9 = .ok (.aload_n 0, 1) := by decide +kernel
theorem d_X7_init_10 : decode cX7_init 10 = .ok (.iconst 0, 1) := by decide +kernel
theorem d_X7_init_11 : decode cX7_init 11 = .ok (.putfield 15, 3) := by decide +kernel
theorem d_X7_init_14 : decode cX7_init 14 = .ok (.aload_n 0, 1) := by decide +kernel
theorem d_X7_init_15 : decode cX7_init 15 = .ok (.iconst 0, 1) := by decide +kernel
theorem d_X7_init_16 : decode cX7_init 16 = .ok (.putfield 18, 3) := by decide +kernel
theorem d_X7_init_19 : decode cX7_init 19 = .ok (.aload_n 0, 1) := by decide +kernel
theorem d_X7_init_20 : decode cX7_init 20 = .ok (.iconst 0, 1) := by decide +kernel
theorem d_X7_init_21 : decode cX7_init 21 = .ok (.putfield 21, 3) := by decide +kernel
theorem d_X7_init_24 : decode cX7_init 24 = .ok (.aload_n 0, 1) := by decide +kernel
theorem d_X7_init_25 : decode cX7_init 25 = .ok (.iconst 0, 1) := by decide +kernel
theorem d_X7_init_26 : decode cX7_init 26 = .ok (.putfield 24, 3) := by decide +kernel
theorem d_X7_init_29 : decode cX7_init 29 = .ok (.aload_n 0, 1) := by decide +kernel
theorem d_X7_init_30 : decode cX7_init 30 = .ok (.bipush 100, 2) := by decide +kernel
theorem d_X7_init_32 : decode cX7_init 32 = .ok (.newarray .int, 2) := by decide +kernel
theorem d_X7_init_34 : decode cX7_init 34 = .ok (.putfield 28, 3) := by decide +kernel
theorem d_X7_init_37 : decode cX7_init 37 = .ok (.return_, 1) := by decide +kernel
theorem d_X7_begin_0 : decode cX7_begin 0 = .ok (.aload_n 0, 1) := by decide +kernel
theorem d_X7_begin_1 : decode cX7_begin 1 = .ok (.iload_n 1, 1) := by decide +kernel
theorem d_X7_begin_2 : decode cX7_begin 2 = .ok (.putfield 9, 3) := by decide +kernel
theorem d_X7_begin_5 : decode cX7_begin 5 = .ok (.aload_n 0, 1) := by decide +kernel
theorem d_X7_begin_6 : decode cX7_begin 6 = .ok (.iload_n 2, 1) := by decide +kernel
theorem d_X7_begin_7 : decode cX7_begin 7 = .ok (.putfield 15, 3) := by decide +kernel
theorem d_X7_begin_10 : decode cX7_begin 10 = .ok (.aload_n 0, 1) := by decide +kernel
theorem d_X7_begin_11 : decode cX7_begin 11 = .ok (.iload_n 3, 1) := by decide +kernel
theorem d_X7_begin_12 : decode cX7_begin 12 = .ok (.putfield 18, 3) := by decide +kernel
theorem d_X7_begin_15 : decode cX7_begin 15 = .ok (.aload_n 0, 1) := by decide +kernel
theorem d_X7_begin_16 : decode cX7_begin 16 = .ok (.iload 4, 2) := by decide +kernel
theorem d_X7_begin_18 : decode cX7_begin 18 = .ok (.putfield 21, 3) := by decide +kernel
theorem d_X7_begin_21 : decode cX7_begin 21 = .ok (.aload_n 0, 1) := by decide +kernel
theorem d_X7_begin_22 : decode cX7_begin 22 = .ok (.iconst 0, 1) := by decide +kernel
theorem d_X7_begin_23 : decode cX7_begin 23 = .ok (.putfield 24, 3) := by decide +kernel
theorem d_X7_begin_26 : decode cX7_begin 26 = .ok (.aload_n 0, 1) := by decide +kernel
theorem d_X7_begin_27 : decode cX7_begin 27 = .ok (.getfield 28, 3) := by decide +kernel
theorem d_X7_begin_30 : decode cX7_begin 30 = .ok (.sipush (-1000), 3) := by decide +kernel
theorem d_X7_begin_33 : decode cX7_begin 33 = .ok (.invokestatic 32, 3) := by decide +kernel
theorem d_X7_begin_36 : decode cX7_begin 36 = .ok (.return_, 1) := by decide +kernel
theorem d_X7_copyFrom_0 : decode cX7_copyFrom 0 = .ok (.aload_n 0, 1) := by decide +kernel
theorem d_X7_copyFrom_1 : decode cX7_copyFrom 1 = .ok (.aload_n 1, 1) := by decide +kernel
theorem d_X7_copyFrom_2 : decode cX7_copyFrom 2 = .ok (.getfield 9, 3) := by decide +kernel
theorem d_X7_copyFrom_5 : decode cX7_copyFrom 5 = .ok (.putfield 9, 3) := by decide +kernel
theorem d_X7_copyFrom_8 : decode cX7_copyFrom 8 = .ok (.aload_n 0, 1) := by decide +kernel
theorem d_X7_copyFrom_9 : decode cX7_copyFrom 9 = .ok (.aload_n 1, 1) := by decide +kernel
theorem d_X7_copyFrom_10 : decode cX7_copyFrom 10 = .ok (.getfield 15, 3) := by decide +kernel
theorem d_X7_copyFrom_13 : decode cX7_copyFrom 13 = .ok (.putfield 15, 3) := by decide +kernel
theorem d_X7_copyFrom_16 : decode cX7_copyFrom 16 = .ok (.aload_n 0, 1) := by decide +kernel
theorem d_X7_copyFrom_17 : decode cX7_copyFrom 17 = .ok (.aload_n 1, 1) := by decide +kernel
theorem d_X7_copyFrom_18 : decode cX7_copyFrom 18 = .ok (.getfield 18, 3) := by decide +kernel
theorem d_X7_copyFrom_21 : decode cX7_copyFrom 21 = .ok (.putfield 18, 3) := by decide +kernel
theorem d_X7_copyFrom_24 : decode cX7_copyFrom 24 = .ok (.aload_n 0, 1) := by decide +kernel
theorem d_X7_copyFrom_25 : decode cX7_copyFrom 25 = .ok (.aload_n 1, 1) := by decide +kernel
theorem d_X7_copyFrom_26 : decode cX7_copyFrom 26 = .ok (.getfield 21, 3) := by decide +kernel
theorem d_X7_copyFrom_29 : decode cX7_copyFrom 29 = .ok (.putfield 21, 3) := by decide +kernel
theorem d_X7_copyFrom_32 : decode cX7_copyFrom 32 = .ok (.aload_n 0, 1) := by decide +kernel
theorem d_X7_copyFrom_33 : decode cX7_copyFrom 33 = .ok (.aload_n 1, 1) := by decide +kernel
theorem d_X7_copyFrom_34 : decode cX7_copyFrom 34 = .ok (.getfield 24, 3) := by decide +kernel
theorem d_X7_copyFrom_37 : decode cX7_copyFrom 37 = .ok (.putfield 24, 3) := by decide +kernel
theorem d_X7_copyFrom_40 : decode cX7_copyFrom 40 = .ok (.aload_n 1, 1) := by decide +kernel
theorem d_X7_copyFrom_41 : decode cX7_copyFrom 41 = .ok (.getfield 28, 3) := by decide +kernel
theorem d_X7_copyFrom_44 : decode cX7_copyFrom 44 = .ok (.iconst 0, 1) := by decide +kernel
theorem d_X7_copyFrom_45 : decode cX7_copyFrom 45 = .ok (.aload_n 0, 1) := by decide +kernel
theorem d_X7_copyFrom_46 : decode cX7_copyFrom 46 = .ok (.getfield 28, 3) := by decide +kernel
theorem d_X7_copyFrom_49 : decode cX7_copyFrom 49 = .ok (.iconst 0, 1) := by decide +kernel
theorem d_X7_copyFrom_50 : decode cX7_copyFrom 50 = .ok (.bipush 100, 2) := by decide +kernel
theorem d_X7_copyFrom_52 : decode cX7_copyFrom 52 = .ok (.invokestatic 38, 3) := by decide +kernel
theorem d_X7_copyFrom_55 : decode cX7_copyFrom 55 = .ok (.return_, 1) := by decide +kernel
theorem d_X7_shiftOn_0 : decode cX7_shiftOn 0 = .ok (.iload_n 1, 1) := by decide +kernel
theorem d_X7_shiftOn_1 : decode cX7_shiftOn 1 = .ok (.istore_n 2, 1) := by decide +kernel
theorem d_X7_shiftOn_2 : decode cX7_shiftOn 2 = .ok (.iload_n 2, 1) := by decide +kernel
theorem d_X7_shiftOn_3 : decode cX7_shiftOn 3 = .ok (.ifCond .lt 21, 3) := by decide +kernel
theorem d_X7_shiftOn_6 : decode cX7_shiftOn 6 = .ok (.aload_n 0, 1) := by decide +kernel
theorem d_X7_shiftOn_7 : decode cX7_shiftOn 7 = .ok (.getfield 28, 3) := by decide +kernel
theorem d_X7_shiftOn_10 : decode cX7_shiftOn 10 = .ok (.iload_n 2, 1) := by decide +kernel
theorem d_X7_shiftOn_11 : decode cX7_shiftOn 11 = .ok (.iaload, 1) := by decide +kernel
theorem d_X7_shiftOn_12 : decode cX7_shiftOn 12 = .ok (.sipush (-1000), 3) := by decide +kernel
theorem d_X7_shiftOn_15 : decode cX7_shiftOn 15 = .ok (.if_icmp .ne 9, 3) := by decide +kernel
theorem d_X7_shiftOn_18 : decode cX7_shiftOn 18 = .ok (.iinc 2 (-1), 3) := by decide +kernel
theorem d_X7_shiftOn_21 : decode cX7_shiftOn 21 = .ok (.goto (-19), 3) := by decide +kernel
theorem d_X7_shiftOn_24 : decode cX7_shiftOn 24 = .ok (.iload_n 2, 1) := by decide +kernel
theorem d_X7_shiftOn_25 : decode cX7_shiftOn 25 = .ok (.ifCond .lt 12, 3) := by decide +kernel
theorem d_X7_shiftOn_28 : decode cX7_shiftOn 28 = .ok (.aload_n 0, 1) := by decide +kernel
theorem d_X7_shiftOn_29 : decode cX7_shiftOn 29 = .ok (.getfield 28, 3) := by decide +kernel
theorem d_X7_shiftOn_32 : decode cX7_shiftOn 32 = .ok (.iload_n 2, 1) := by decide +kernel
theorem d_X7_shiftOn_33 : decode cX7_shiftOn 33 = .ok (.iaload, 1) := by decide +kernel
theorem d_X7_shiftOn_34 : decode cX7_shiftOn 34 = .ok (.goto 4, 3) := by decide +kernel
theorem d_X7_shiftOn_37 : decode cX7_shiftOn 37 = .ok (.iconst 0, 1) := by decide +kernel
theorem d_X7_shiftOn_38 : decode cX7_shiftOn 38 = .ok (.ireturn, 1) := by decide +kernel
theorem d_X8_init_0 : decode cX8_init 0 = .ok (.aload_n 0, 1) := by decide +kernel
theorem d_X8_init_1 : decode cX8_init 1 = .ok (.invokespecial 1, 3) := by decide +kernel
theorem d_X8_init_4 : decode cX8_init 4 = .ok (.aload_n 0, 1) := by decide +kernel
theorem d_X8_init_5 : decode cX8_init 5 = .ok (.iconst 0, 1) := by decide +kernel
theorem d_X8_init_6 : decode cX8_init 6 = .ok (.putfield 7, 3) := by decide +kernel
theorem d_X8_init_9 : decode cX8_init 9 = .ok (.aload_n 0, 1) := by decide +kernel
theorem d_X8_init_10 : decode cX8_init 10 = .ok (.iconst 0, 1) := by decide +kernel
theorem d_X8_init_11 : decode cX8_init 11 = .ok (.putfield 13, 3) := by decide +kernel
theorem d_X8_init_14 : decode cX8_init 14 = .ok (.aload_n 0, 1) := by decide +kernel
theorem d_X8_init_15 : decode cX8_init 15 = .ok (.iconst 0, 1) := by decide +kernel
theorem d_X8_init_16 : decode cX8_init 16 = .ok (.putfield 16, 3) := by decide +kernel
theorem d_X8_init_19 : decode cX8_init 19 = .ok (.return_, 1) := by decide +kernel
theorem d_X8_begin_0 : decode cX8_begin 0 = .ok (.aload_n 0, 1) := by decide +kernel
theorem d_X8_begin_1 : decode cX8_begin 1 = .ok (.iload_n 1, 1) := by decide +kernel
theorem d_X8_begin_2 : decode cX8_begin 2 = .ok (.putfield 7, 3) := by decide +kernel
theorem d_X8_begin_5 : decode cX8_begin 5 = .ok (.aload_n 0, 1) := by decide +kernel
theorem d_X8_begin_6 : decode cX8_begin 6 = .ok (.iload_n 2, 1) := by decide +kernel
theorem d_X8_begin_7 : decode cX8_begin 7 = .ok (.putfield 13, 3) := by decide +kernel
theorem d_X8_begin_10 : decode cX8_begin 10 = .ok (.aload_n 0, 1) := by decide +kernel
theorem d_X8_begin_11 : decode cX8_begin 11 = .ok (.iload_n 3, 1) := by decide +kernel
theorem d_X8_begin_12 : decode cX8_begin 12 = .ok (.putfield 16, 3) := by decide +kernel
theorem d_X8_begin_15 : decode cX8_begin 15 = .ok (.return_, 1) := by decide +kernel
theorem d_X8_copyFrom_0 : decode cX8_copyFrom 0 = .ok (.aload_n 0, 1) := by decide +kernel
theorem d_X8_copyFrom_1 : decode cX8_copyFrom 1 = .ok (.aload_n 1, 1) := by decide +kernel
theorem d_X8_copyFrom_2 : decode cX8_copyFrom 2 = .ok (.getfield 7, 3) := by decide +kernel
theorem d_X8_copyFrom_5 : decode cX8_copyFrom 5 = .ok (.aload_n 1, 1) := by decide +kernel
theorem d_X8_copyFrom_6 : decode cX8_copyFrom 6 = .ok (.getfield 13, 3) := by decide +kernel
theorem d_X8_copyFrom_9 : decode cX8_copyFrom 9 = .ok (.aload_n 1, 1) := by decide +kernel
theorem d_X8_copyFrom_10 : decode cX8_copyFrom 10 = .ok (.getfield 16, 3) := by decide +kernel
theorem d_X8_copyFrom_13 : decode cX8_copyFrom 13 = .ok (.invokevirtual 19, 3) := by decide +kernel
theorem d_X8_copyFrom_16 : decode cX8_copyFrom 16 = .ok (.return_, 1) := by decide +kernel
theorem d_X8_wayBits_0 : decode cX8_wayBits 0 = .ok (.iconst 1, 1) := by decide +kernel
theorem d_X8_wayBits_1 : decode cX8_wayBits 1 = .ok (.aload_n 0, 1) := by decide +kernel
theorem d_X8_wayBits_2 : decode cX8_wayBits 2 = .ok (.getfield 7, 3) := by decide +kernel
theorem d_X8_wayBits_5 : decode cX8_wayBits 5 = .ok (.aload_n 0, 1) := by decide +kernel
theorem d_X8_wayBits_6 : decode cX8_wayBits 6 = .ok (.getfield 13, 3) := by decide +kernel
theorem d_X8_wayBits_9 : decode cX8_wayBits 9 = .ok (.invokestatic 23, 3) := by decide +kernel
theorem d_X8_wayBits_12 : decode cX8_wayBits 12 = .ok (.ishl, 1) := by decide +kernel
theorem d_X8_wayBits_13 : decode cX8_wayBits 13 = .ok (.iconst 1, 1) := by decide +kernel
theorem d_X8_wayBits_14 : decode cX8_wayBits 14 = .ok (.aload_n 0, 1) := by decide +kernel
theorem d_X8_wayBits_15 : decode cX8_wayBits 15 = .ok (.getfield 7, 3) := by decide +kernel
theorem d_X8_wayBits_18 : decode cX8_wayBits 18 = .ok (.aload_n 0, 1) := by decide +kernel
theorem d_X8_wayBits_19 : decode cX8_wayBits 19 = .ok (.getfield 13, 3) := by decide +kernel
theorem d_X8_wayBits_22 : decode cX8_wayBits 22 = .ok (.invokestatic 29, 3) := by decide +kernel
theorem d_X8_wayBits_25 : decode cX8_wayBits 25 = .ok (.ishl, 1) := by decide +kernel
theorem d_X8_wayBits_26 : decode cX8_wayBits 26 = .ok (.isub, 1) := by decide +kernel
theorem d_X8_wayBits_27 : decode cX8_wayBits 27 = .ok (.ireturn, 1) := by decide +kernel
theorem d_X9_init_0 : decode cX9_init 0 = .ok (.aload_n 0, 1) := by decide +kernel
theorem d_X9_init_1 : decode cX9_init 1 = .ok (.invokespecial 3, 3) := by decide +kernel
theorem d_X9_init_4 : decode cX9_init 4 = .ok (.aload_n 0, 1) := by decide +kernel
theorem d_X9_init_5 : decode cX9_init 5 = .ok (.iconst 0, 1) := by decide +kernel
theorem d_X9_init_6 : decode cX9_init 6 = .ok (.putfield 9, 3) := by decide +kernel
theorem d_X9_init_9 : decode cX9_init 9 = .ok (.aload_n 0, 1) := by decide +kernel
theorem d_X9_init_10 : decode cX9_init 10 = .ok (.iconst 0, 1) := by decide +kernel
theorem d_X9_init_11 : decode cX9_init 11 = .ok (.putfield 15, 3) := by decide +kernel
theorem d_X9_init_14 : decode cX9_init 14 = .ok (.aload_n 0, 1) := by decide +kernel
theorem d_X9_init_15 : decode cX9_init 15 = .ok (.bipush 10, 2) := by decide +kernel
theorem d_X9_init_17 : decode cX9_init 17 = .ok (.newarray .int, 2) := by decide +kernel
theorem d_X9_init_19 : decode cX9_init 19 = .ok (.putfield 18, 3) := by decide +kernel
theorem d_X9_init_22 : decode cX9_init 22 = .ok (.aload_n 0, 1) := by decide +kernel
theorem d_X9_init_23 : decode cX9_init 23 = .ok (.bipush 10, 2) := by decide +kernel
theorem d_X9_init_25 : decode cX9_init 25 = .ok (.newarray .int, 2) := by decide +kernel
theorem d_X9_init_27 : decode cX9_init 27 = .ok (.putfield 22, 3) := by decide +kernel
theorem d_X9_init_30 : decode cX9_init 30 = .ok (.aload_n 0, 1) := by decide +kernel
theorem d_X9_init_31 : decode cX9_init 31 = .ok (.sipush 1100, 3) := by decide +kernel
theorem d_X9_init_34 : decode cX9_init 34 = .ok (.newarray .int, 2) := by decide +kernel
theorem d_X9_init_36 : decode cX9_init 36 = .ok (.putfield 25, 3) := by decide +kernel
theorem d_X9_init_39 : decode cX9_init 39 = .ok (.return_, 1) := by decide +kernel
theorem d_X9_workOut_0 : decode cX9_workOut 0 = .ok (.aload_n 0, 1) := by decide +kernel
theorem d_X9_workOut_1 : decode cX9_workOut 1 = .ok (.iload_n 2, 1) := by decide +kernel
theorem d_X9_workOut_2 : decode cX9_workOut 2 = .ok (.putfield 15, 3) := by decide +kernel
theorem d_X9_workOut_5 : decode cX9_workOut 5 = .ok (.aload_n 0, 1) := by decide +kernel
theorem d_X9_workOut_6 : decode cX9_workOut 6 = .ok (.iload 4, 2) := by decide +kernel
theorem d_X9_workOut_8 : decode cX9_workOut 8 = .ok (.iload_n 3, 1) := by decide +kernel
theorem d_X9_workOut_9 : decode cX9_workOut 9 = .ok (.isub, 1) := by decide +kernel
theorem d_X9_workOut_10 : decode cX9_workOut 10 = .ok (.invokestatic 28, 3) := by decide +kernel
theorem d_X9_workOut_13 : decode cX9_workOut 13 = .ok (.putfield 9, 3) := by decide +kernel
theorem d_X9_workOut_16 : decode cX9_workOut 16 = .ok (.iload 4, 2) := by decide +kernel
theorem d_X9_workOut_18 : decode cX9_workOut 18 = .ok (.iload_n 3, 1) := by decide +kernel
theorem d_X9_workOut_19 : decode cX9_workOut 19 = .ok (.if_icmp .le 7, 3) := by decide +kernel
theorem d_X9_workOut_22 : decode cX9_workOut 22 = .ok (.iconst 1, 1) := by decide +kernel
theorem d_X9_workOut_23 : decode cX9_workOut 23 = .ok (.goto 4, 3) := by decide +kernel
theorem d_X9_workOut_26 : decode cX9_workOut 26 = .ok (.iconst 0, 1) := by decide +kernel
theorem d_X9_workOut_27 : decode cX9_workOut 27 = .ok (.istore 5, 2) := by decide +kernel
theorem d_X9_workOut_29 : decode cX9_workOut 29 = .ok (.iconst 0, 1) := by decide +kernel
theorem d_X9_workOut_30 : decode cX9_workOut 30 = .ok (.istore 6, 2) := by decide +kernel
theorem d_X9_workOut_32 : decode cX9_workOut 32 = .ok (.iload 6, 2) := by decide +kernel
theorem d_X9_workOut_34 : decode cX9_workOut 34 = .ok (.aload_n 0, 1) := by decide +kernel
theorem d_X9_workOut_35 : decode cX9_workOut 35 = .ok (.getfield 9, 3) := by decide +kernel
theorem d_X9_workOut_38 : decode cX9_workOut 38 = .ok (.if_icmp .ge 69, 3) := by decide +kernel
theorem d_X9_workOut_41 : decode cX9_workOut 41 = .ok (.iload 5, 2) := by decide +kernel
theorem d_X9_workOut_43 : decode cX9_workOut 43 = .ok (.ifCond .eq 10, 3) := by decide +kernel
theorem d_X9_workOut_46 : decode cX9_workOut 46 = .ok (.iload_n 3, 1) := by decide +kernel
theorem d_X9_workOut_47 : decode cX9_workOut 47 = .ok (.iload 6, 2) := by decide +kernel
theorem d_X9_workOut_49 : decode cX9_workOut 49 = .ok (.iadd, 1) := by decide +kernel
theorem d_X9_workOut_50 : decode cX9_workOut 50 = .ok (.goto 7, 3) := by decide +kernel
theorem d_X9_workOut_53 : decode cX9_workOut 53 = .ok (.iload_n 3, 1) := by decide +kernel
theorem d_X9_workOut_54 : decode cX9_workOut 54 = .ok (.iload 6, 2) := by decide +kernel
theorem d_X9_workOut_56 : decode cX9_workOut 56 = .ok (.isub, 1) := by decide +kernel
theorem d_X9_workOut_57 : decode cX9_workOut 57 = .ok (.istore 7, 2) := by decide +kernel
theorem d_X9_workOut_59 : decode cX9_workOut 59 = .ok (.aload_n 0, 1) := by decide +kernel
theorem d_X9_workOut_60 : decode cX9_workOut 60 = .ok (.getfield 18, 3) := by decide +kernel
theorem d_X9_workOut_63 : decode cX9_workOut 63 = .ok (.iload 6, 2) := by decide +kernel
theorem d_X9_workOut_65 : decode cX9_workOut 65 = .ok (.aload_n 1, 1) := by decide +kernel
theorem d_X9_workOut_66 : decode cX9_workOut 66 = .ok (.getfield 34, 3) := by decide +kernel
theorem d_X9_workOut_69 : decode cX9_workOut 69 = .ok (.iload 7, 2) := by decide +kernel
theorem d_X9_workOut_71 : decode cX9_workOut 71 = .ok (.aaload, 1) := by decide +kernel
theorem d_X9_workOut_72 : decode cX9_workOut 72 = .ok (.getfield 40, 3) := by decide +kernel
theorem d_X9_workOut_75 : decode cX9_workOut 75 = .ok (.iastore, 1) := by decide +kernel
theorem d_X9_workOut_76 : decode cX9_workOut 76 = .ok (.aload_n 0, 1) := by decide +kernel
theorem d_X9_workOut_77 : decode cX9_workOut 77 = .ok (.getfield 22, 3) := by decide +kernel
theorem d_X9_workOut_80 : decode cX9_workOut 80 = .ok (.iload 6, 2) := by decide +kernel
theorem d_X9_workOut_82 : decode cX9_workOut 82 = .ok (.aload_n 1, 1) := by decide +kernel
theorem d_X9_workOut_83 : decode cX9_workOut 83 = .ok (.iload 5, 2) := by decide +kernel
theorem d_X9_workOut_85 : decode cX9_workOut 85 = .ok (.ifCond .eq 8, 3) := by decide +kernel
theorem d_X9_workOut_88 : decode cX9_workOut 88 = .ok (.iload 7, 2) := by decide +kernel
theorem d_X9_workOut_90 : decode cX9_workOut 90 = .ok (.goto 7, 3) := by decide +kernel
theorem d_X9_workOut_93 : decode cX9_workOut 93 = .ok (.iload 7, 2) := by decide +kernel
theorem d_X9_workOut_95 : decode cX9_workOut 95 = .ok (.iconst 1, 1) := by decide +kernel
theorem d_X9_workOut_96 : decode cX9_workOut 96 = .ok (.isub, 1) := by decide +kernel
theorem d_X9_workOut_97 : decode cX9_workOut 97 = .ok (.invokevirtual 45, 3) := by decide +kernel
theorem d_X9_workOut_100 : decode cX9_workOut 100 = .ok (.iastore, 1) := by decide +kernel
theorem d_X9_workOut_101 : decode cX9_workOut 101 = .ok (.iinc 6 1, 3) := by decide +kernel
theorem d_X9_workOut_104 : decode cX9_workOut 104 = .ok (.goto (-72), 3) := by decide +kernel
theorem d_X9_workOut_107 : decode cX9_workOut 107 = .ok (.iconst 0, 1) := by decide +kernel
theorem d_X9_workOut_108 : decode cX9_workOut 108 = .ok (.istore 6, 2) := by decide +kernel
theorem d_X9_workOut_110 : decode cX9_workOut 110 = .ok (.iload 6, 2) := by decide +kernel
theorem d_X9_workOut_112 : decode cX9_workOut 112 = .ok (.aload_n 0, 1) := by decide +kernel
theorem d_X9_workOut_113 : decode cX9_workOut 113 = .ok (.getfield 15, 3) := by decide +kernel
theorem d_X9_workOut_116 : decode cX9_workOut 116 = .ok (.if_icmp .gt 25, 3) := by decide +kernel
theorem d_X9_workOut_119 : decode cX9_workOut 119 = .ok (.aload_n 0, 1) := by decide +kernel
theorem d_X9_workOut_120 : decode cX9_workOut 120 = .ok (.getfield 25, 3) := by decide +kernel
theorem d_X9_workOut_123 : decode cX9_workOut 123 = .ok (.aload_n 0, 1) := by decide +kernel
theorem d_X9_workOut_124 : decode cX9_workOut 124 = .ok (.getfield 9, 3) := by decide +kernel
theorem d_X9_workOut_127 : decode cX9_workOut 127 = .ok (.bipush 100, 2) := by decide +kernel
theorem d_X9_workOut_129 : decode cX9_workOut 129 = .ok (.imul, 1) := by decide +kernel
theorem d_X9_workOut_130 : decode cX9_workOut 130 = .ok (.iload 6, 2) := by decide +kernel
theorem d_X9_workOut_132 : decode cX9_workOut 132 = .ok (.iadd, 1) := by decide +kernel
theorem d_X9_workOut_133 : decode cX9_workOut 133 = .ok (.iconst 0, 1) := by decide +kernel
theorem d_X9_workOut_134 : decode cX9_workOut 134 = .ok (.iastore, 1) := by decide +kernel
theorem d_X9_workOut_135 : decode cX9_workOut 135 = .ok (.iinc 6 1, 3) := by decide +kernel
theorem d_X9_workOut_138 : decode cX9_workOut 138 = .ok (.goto (-28), 3) := by decide +kernel
theorem d_X9_workOut_141 : decode cX9_workOut 141 = .ok (.aload_n 0, 1) := by decide +kernel
theorem d_X9_workOut_142 : decode cX9_workOut 142 = .ok (.getfield 9, 3) := by decide +kernel
theorem d_X9_workOut_145 : decode cX9_workOut 145 = .ok (.iconst 1, 1) := by decide +kernel
theorem d_X9_workOut_146 : decode cX9_workOut 146 = .ok (.isub, 1) := by decide +kernel
theorem d_X9_workOut_147 : decode cX9_workOut 147 = .ok (.istore 6, 2) := by decide +kernel
theorem d_X9_workOut_149 : decode cX9_workOut 149 = .ok (.iload 6, 2) := by decide +kernel
theorem d_X9_workOut_151 : decode cX9_workOut 151 = .ok (.ifCond .lt 15, 3) := by decide +kernel
theorem d_X9_workOut_154 : decode cX9_workOut 154 = .ok (.aload_n 0, 1) := by decide +kernel
theorem d_X9_workOut_155 : decode cX9_workOut 155 = .ok (.iload 6, 2) := by decide +kernel
theorem d_X9_workOut_157 : decode cX9_workOut 157 = .ok (.invokevirtual 48, 3) := by decide +kernel
theorem d_X9_workOut_160 : decode cX9_workOut 160 = .ok (.iinc 6 (-1), 3) := by decide +kernel
theorem d_X9_workOut_163 : decode cX9_workOut 163 = .ok (.goto (-14), 3) := by decide +kernel
theorem d_X9_workOut_166 : decode cX9_workOut 166 = .ok (.return_, 1) := by decide +kernel
theorem d_X9_workOutStep_0 : decode cX9_workOutStep 0 = .ok (.aload_n 0, 1) := by decide +kernel
theorem d_X9_workOutStep_1 : decode cX9_workOutStep 1 = .ok (.getfield 18, 3) := by decide +kernel
theorem d_X9_workOutStep_4 : decode cX9_workOutStep 4 = .ok (.iload_n 1, 1) := by decide +kernel
theorem d_X9_workOutStep_5 : decode cX9_workOutStep 5 = .ok (.iaload, 1) := by decide +kernel
theorem d_X9_workOutStep_6 : decode cX9_workOutStep 6 = .ok (.istore_n 2, 1) := by decide +kernel
theorem d_X9_workOutStep_7 : decode cX9_workOutStep 7 = .ok (.ldc 52, 2) := by decide +kernel
theorem d_X9_workOutStep_9 : decode cX9_workOutStep 9 = .ok (.istore_n 3, 1) := by decide +kernel
theorem d_X9_workOutStep_10 : decode cX9_workOutStep 10 = .ok (.aload_n 0, 1) := by decide +kernel
theorem d_X9_workOutStep_11 : decode cX9_workOutStep 11 = .ok (.getfield 15, 3) := by decide +kernel
theorem d_X9_workOutStep_14 : decode cX9_workOutStep 14 = .ok (.istore 4, 2) := by decide +kernel
theorem d_X9_workOutStep_16 : decode cX9_workOutStep 16 = .ok (.iload 4, 2) := by decide +kernel
theorem d_X9_workOutStep_18 : decode cX9_workOutStep 18 = .ok (.ifCond .lt 88, 3) := by decide +kernel
theorem d_X9_workOutStep_21 : decode cX9_workOutStep 21 = .ok (.aload_n 0, 1) := by decide +kernel
theorem d_X9_workOutStep_22 : decode cX9_workOutStep 22 = .ok (.iload_n 1, 1) := by decide +kernel
theorem d_X9_workOutStep_23 : decode cX9_workOutStep 23 = .ok (.iload 4, 2) := by decide +kernel
theorem d_X9_workOutStep_25 : decode cX9_workOutStep 25 = .ok (.invokevirtual 53, 3) := by decide +kernel
theorem d_X9_workOutStep_28 : decode cX9_workOutStep 28 = .ok (.istore 5, 2) := by decide +kernel
theorem d_X9_workOutStep_30 : decode cX9_workOutStep 30 = .ok (.iload_n 2, 1) := by decide +kernel
theorem d_X9_workOutStep_31 : decode cX9_workOutStep 31 = .ok (.ifCond .ne 9, 3) := by decide +kernel
theorem d_X9_workOutStep_34 : decode cX9_workOutStep 34 = .ok (.iload 5, 2) := by decide +kernel
theorem d_X9_workOutStep_36 : decode cX9_workOutStep 36 = .ok (.istore_n 3, 1) := by decide +kernel
theorem d_X9_workOutStep_37 : decode cX9_workOutStep 37 = .ok (.goto 22, 3) := by decide +kernel
theorem d_X9_workOutStep_40 : decode cX9_workOutStep 40 = .ok (.iload 5, 2) := by decide +kernel
theorem d_X9_workOutStep_42 : decode cX9_workOutStep 42 = .ok (.ldc 52, 2) := by decide +kernel
theorem d_X9_workOutStep_44 : decode cX9_workOutStep 44 = .ok (.if_icmp .eq 15, 3) := by decide +kernel
theorem d_X9_workOutStep_47 : decode cX9_workOutStep 47 = .ok (.iload_n 3, 1) := by decide +kernel
theorem d_X9_workOutStep_48 : decode cX9_workOutStep 48 = .ok (.iload 5, 2) := by decide +kernel
theorem d_X9_workOutStep_50 : decode cX9_workOutStep 50 = .ok (.iload_n 2, 1) := by decide +kernel
theorem d_X9_workOutStep_51 : decode cX9_workOutStep 51 = .ok (.iload 4, 2) := by decide +kernel
theorem d_X9_workOutStep_53 : decode cX9_workOutStep 53 = .ok (.imul, 1) := by decide +kernel
theorem d_X9_workOutStep_54 : decode cX9_workOutStep 54 = .ok (.iadd, 1) := by decide +kernel
theorem d_X9_workOutStep_55 : decode cX9_workOutStep 55 = .ok (.invokestatic 57, 3) := by decide +kernel
theorem d_X9_workOutStep_58 : decode cX9_workOutStep 58 = .ok (.istore_n 3, 1) := by decide +kernel
theorem d_X9_workOutStep_59 : decode cX9_workOutStep 59 = .ok (.iload_n 3, 1) := by decide +kernel
theorem d_X9_workOutStep_60 : decode cX9_workOutStep 60 = .ok (.ldc 52, 2) := by decide +kernel
theorem d_X9_workOutStep_62 : decode cX9_workOutStep 62 = .ok (.if_icmp .eq 7, 3) := by decide +kernel
theorem d_X9_workOutStep_65 : decode cX9_workOutStep 65 = .ok (.iconst 1, 1) := by decide +kernel
theorem d_X9_workOutStep_66 : decode cX9_workOutStep 66 = .ok (.goto 4, 3) := by decide +kernel
theorem d_X9_workOutStep_69 : decode cX9_workOutStep 69 = .ok (.iconst 0, 1) := by decide +kernel
theorem d_X9_workOutStep_70 : decode cX9_workOutStep 70 = .ok (.istore 6, 2) := by decide +kernel
theorem d_X9_workOutStep_72 : decode cX9_workOutStep 72 = .ok (.aload_n 0, 1) := by decide +kernel
theorem d_X9_workOutStep_73 : decode cX9_workOutStep 73 = .ok (.getfield 25, 3) := by decide +kernel
theorem d_X9_workOutStep_76 : decode cX9_workOutStep 76 = .ok (.iload_n 1, 1) := by decide +kernel
theorem d_X9_workOutStep_77 : decode cX9_workOutStep 77 = .ok (.bipush 100, 2) := by decide +kernel
theorem d_X9_workOutStep_79 : decode cX9_workOutStep 79 = .ok (.imul, 1) := by decide +kernel
theorem d_X9_workOutStep_80 : decode cX9_workOutStep 80 = .ok (.iload 4, 2) := by decide +kernel
theorem d_X9_workOutStep_82 : decode cX9_workOutStep 82 = .ok (.iadd, 1) := by decide +kernel
theorem d_X9_workOutStep_83 : decode cX9_workOutStep 83 = .ok (.iload 6, 2) := by decide +kernel
theorem d_X9_workOutStep_85 : decode cX9_workOutStep 85 = .ok (.ifCond .eq 12, 3) := by decide +kernel
theorem d_X9_workOutStep_88 : decode cX9_workOutStep 88 = .ok (.iload_n 3, 1) := by decide +kernel
theorem d_X9_workOutStep_89 : decode cX9_workOutStep 89 = .ok (.iload_n 2, 1) := by decide +kernel
theorem d_X9_workOutStep_90 : decode cX9_workOutStep 90 = .ok (.iload 4, 2) := by decide +kernel
theorem d_X9_workOutStep_92 : decode cX9_workOutStep 92 = .ok (.imul, 1) := by decide +kernel
theorem d_X9_workOutStep_93 : decode cX9_workOutStep 93 = .ok (.isub, 1) := by decide +kernel
theorem d_X9_workOutStep_94 : decode cX9_workOutStep 94 = .ok (.goto 5, 3) := by decide +kernel
theorem d_X9_workOutStep_97 : decode cX9_workOutStep 97 = .ok (.ldc 52, 2) := by decide +kernel
theorem d_X9_workOutStep_99 : decode cX9_workOutStep 99 = .ok (.iastore, 1) := by decide +kernel
theorem d_X9_workOutStep_100 : decode cX9_workOutStep 100 = .ok (.iinc 4 (-1), 3) := by decide +kernel
theorem d_X9_workOutStep_103 : decode cX9_workOutStep 103 = .ok (.goto (-87), 3) := by decide +kernel
theorem d_X9_workOutStep_106 : decode cX9_workOutStep 106 = .ok (.return_, 1) := by decide +kernel
theorem d_X9_costOnward_0 : decode cX9_costOnward 0 = .ok (.iload_n 2, 1) := by decide +kernel
theorem d_X9_costOnward_1 : decode cX9_costOnward 1 = .ok (.aload_n 0, 1) := by decide +kernel
theorem d_X9_costOnward_2 : decode cX9_costOnward 2 = .ok (.getfield 22, 3) := by decide +kernel
theorem d_X9_costOnward_5 : decode cX9_costOnward 5 = .ok (.iload_n 1, 1) := by decide +kernel
theorem d_X9_costOnward_6 : decode cX9_costOnward 6 = .ok (.iaload, 1) := by decide +kernel
theorem d_X9_costOnward_7 : decode cX9_costOnward 7 = .ok (.isub, 1) := by decide +kernel
theorem d_X9_costOnward_8 : decode cX9_costOnward 8 = .ok (.istore_n 3, 1) := by decide +kernel
theorem d_X9_costOnward_9 : decode cX9_costOnward 9 = .ok (.iload_n 3, 1) := by decide +kernel
theorem d_X9_costOnward_10 : decode cX9_costOnward 10 = .ok (.ifCond .ge 8, 3) := by decide +kernel
theorem d_X9_costOnward_13 : decode cX9_costOnward 13 = .ok (.ldc 52, 2) := by decide +kernel
theorem d_X9_costOnward_15 : decode cX9_costOnward 15 = .ok (.goto 16, 3) := by decide +kernel
theorem d_X9_costOnward_18 : decode cX9_costOnward 18 = .ok (.aload_n 0, 1) := by decide +kernel
theorem d_X9_costOnward_19 : decode cX9_costOnward 19 = .ok (.getfield 25, 3) := by decide +kernel
theorem d_X9_costOnward_22 : decode cX9_costOnward 22 = .ok (.iload_n 1, 1) := by decide +kernel
theorem d_X9_costOnward_23 : decode cX9_costOnward 23 = .ok (.iconst 1, 1) := by decide +kernel
theorem d_X9_costOnward_24 : decode cX9_costOnward 24 = .ok (.iadd, 1) := by decide +kernel
theorem d_X9_costOnward_25 : decode cX9_costOnward 25 = .ok (.bipush 100, 2) := by decide +kernel
theorem d_X9_costOnward_27 : decode cX9_costOnward 27 = .ok (.imul, 1) := by decide +kernel
theorem d_X9_costOnward_28 : decode cX9_costOnward 28 = .ok (.iload_n 3, 1) := by decide +kernel
theorem d_X9_costOnward_29 : decode cX9_costOnward 29 = .ok (.iadd, 1) := by decide +kernel
theorem d_X9_costOnward_30 : decode cX9_costOnward 30 = .ok (.iaload, 1) := by decide +kernel
theorem d_X9_costOnward_31 : decode cX9_costOnward 31 = .ok (.ireturn, 1) := by decide +kernel
theorem d_X9_leastCost_0 : decode cX9_leastCost 0 = .ok (.aload_n 0, 1) := by decide +kernel
theorem d_X9_leastCost_1 : decode cX9_leastCost 1 = .ok (.getfield 25, 3) := by decide +kernel
theorem d_X9_leastCost_4 : decode cX9_leastCost 4 = .ok (.iconst 0, 1) := by decide +kernel
theorem d_X9_leastCost_5 : decode cX9_leastCost 5 = .ok (.iaload, 1) := by decide +kernel
theorem d_X9_leastCost_6 : decode cX9_leastCost 6 = .ok (.ldc 52, 2) := by decide +kernel
theorem d_X9_leastCost_8 : decode cX9_leastCost 8 = .ok (.if_icmp .ne 7, 3) := by decide +kernel
theorem d_X9_leastCost_11 : decode cX9_leastCost 11 = .ok (.iconst (-1), 1) := by decide +kernel
theorem d_X9_leastCost_12 : decode cX9_leastCost 12 = .ok (.goto 9, 3) := by decide +kernel
theorem d_X9_leastCost_15 : decode cX9_leastCost 15 = .ok (.aload_n 0, 1) := by decide +kernel
theorem d_X9_leastCost_16 : decode cX9_leastCost 16 = .ok (.getfield 25, 3) := by decide +kernel
theorem d_X9_leastCost_19 : decode cX9_leastCost 19 = .ok (.iconst 0, 1) := by decide +kernel
theorem d_X9_leastCost_20 : decode cX9_leastCost 20 = .ok (.iaload, 1) := by decide +kernel
theorem d_X9_leastCost_21 : decode cX9_leastCost 21 = .ok (.ireturn, 1) := by decide +kernel
theorem d_X9_cordsAt_0 : decode cX9_cordsAt 0 = .ok (.iload_n 1, 1) := by decide +kernel
theorem d_X9_cordsAt_1 : decode cX9_cordsAt 1 = .ok (.iconst 0, 1) := by decide +kernel
theorem d_X9_cordsAt_2 : decode cX9_cordsAt 2 = .ok (.aload_n 0, 1) := by decide +kernel
theorem d_X9_cordsAt_3 : decode cX9_cordsAt 3 = .ok (.getfield 9, 3) := by decide +kernel
theorem d_X9_cordsAt_6 : decode cX9_cordsAt 6 = .ok (.iconst 1, 1) := by decide +kernel
theorem d_X9_cordsAt_7 : decode cX9_cordsAt 7 = .ok (.isub, 1) := by decide +kernel
theorem d_X9_cordsAt_8 : decode cX9_cordsAt 8 = .ok (.invokestatic 60, 3) := by decide +kernel
theorem d_X9_cordsAt_11 : decode cX9_cordsAt 11 = .ok (.ifCond .eq 14, 3) := by decide +kernel
theorem d_X9_cordsAt_14 : decode cX9_cordsAt 14 = .ok (.aload_n 0, 1) := by decide +kernel
theorem d_X9_cordsAt_15 : decode cX9_cordsAt 15 = .ok (.getfield 25, 3) := by decide +kernel
theorem d_X9_cordsAt_18 : decode cX9_cordsAt 18 = .ok (.iconst 0, 1) := by decide +kernel
theorem d_X9_cordsAt_19 : decode cX9_cordsAt 19 = .ok (.iaload, 1) := by decide +kernel
theorem d_X9_cordsAt_20 : decode cX9_cordsAt 20 = .ok (.ldc 52, 2) := by decide +kernel
theorem d_X9_cordsAt_22 : decode cX9_cordsAt 22 = .ok (.if_icmp .ne 5, 3) := by decide +kernel
theorem d_X9_cordsAt_25 : decode cX9_cordsAt 25 = .ok (.iconst (-1), 1) := by decide +kernel
theorem d_X9_cordsAt_26 : decode cX9_cordsAt 26 = .ok (.ireturn, 1) := by decide +kernel
theorem d_X9_cordsAt_27 : decode cX9_cordsAt 27 = .ok (.iconst 0, 1) := by decide +kernel
theorem d_X9_cordsAt_28 : decode cX9_cordsAt 28 = .ok (.istore_n 2, 1) := by decide +kernel
theorem d_X9_cordsAt_29 : decode cX9_cordsAt 29 = .ok (.iconst 0, 1) := by decide +kernel
theorem d_X9_cordsAt_30 : decode cX9_cordsAt 30 = .ok (.istore_n 3, 1) := by decide +kernel
theorem d_X9_cordsAt_31 : decode cX9_cordsAt 31 = .ok (.iload_n 3, 1) := by decide +kernel
theorem d_X9_cordsAt_32 : decode cX9_cordsAt 32 = .ok (.iload_n 1, 1) := by decide +kernel
theorem d_X9_cordsAt_33 : decode cX9_cordsAt 33 = .ok (.if_icmp .ge 25, 3) := by decide +kernel
theorem d_X9_cordsAt_36 : decode cX9_cordsAt 36 = .ok (.iload_n 2, 1) := by decide +kernel
theorem d_X9_cordsAt_37 : decode cX9_cordsAt 37 = .ok (.aload_n 0, 1) := by decide +kernel
theorem d_X9_cordsAt_38 : decode cX9_cordsAt 38 = .ok (.iload_n 3, 1) := by decide +kernel
theorem d_X9_cordsAt_39 : decode cX9_cordsAt 39 = .ok (.iload_n 2, 1) := by decide +kernel
theorem d_X9_cordsAt_40 : decode cX9_cordsAt 40 = .ok (.invokevirtual 64, 3) := by decide +kernel
theorem d_X9_cordsAt_43 : decode cX9_cordsAt 43 = .ok (.aload_n 0, 1) := by decide +kernel
theorem d_X9_cordsAt_44 : decode cX9_cordsAt 44 = .ok (.getfield 22, 3) := by decide +kernel
theorem d_X9_cordsAt_47 : decode cX9_cordsAt 47 = .ok (.iload_n 3, 1) := by decide +kernel
theorem d_X9_cordsAt_48 : decode cX9_cordsAt 48 = .ok (.iaload, 1) := by decide +kernel
theorem d_X9_cordsAt_49 : decode cX9_cordsAt 49 = .ok (.isub, 1) := by decide +kernel
theorem d_X9_cordsAt_50 : decode cX9_cordsAt 50 = .ok (.iadd, 1) := by decide +kernel
theorem d_X9_cordsAt_51 : decode cX9_cordsAt 51 = .ok (.istore_n 2, 1) := by decide +kernel
theorem d_X9_cordsAt_52 : decode cX9_cordsAt 52 = .ok (.iinc 3 1, 3) := by decide +kernel
theorem d_X9_cordsAt_55 : decode cX9_cordsAt 55 = .ok (.goto (-24), 3) := by decide +kernel
theorem d_X9_cordsAt_58 : decode cX9_cordsAt 58 = .ok (.aload_n 0, 1) := by decide +kernel
theorem d_X9_cordsAt_59 : decode cX9_cordsAt 59 = .ok (.iload_n 1, 1) := by decide +kernel
theorem d_X9_cordsAt_60 : decode cX9_cordsAt 60 = .ok (.iload_n 2, 1) := by decide +kernel
theorem d_X9_cordsAt_61 : decode cX9_cordsAt 61 = .ok (.invokevirtual 64, 3) := by decide +kernel
theorem d_X9_cordsAt_64 : decode cX9_cordsAt 64 = .ok (.ireturn, 1) := by decide +kernel
theorem d_X9_cordsFrom_0 : decode cX9_cordsFrom 0 = .ok (.aload_n 0, 1) := by decide +kernel
theorem d_X9_cordsFrom_1 : decode cX9_cordsFrom 1 = .ok (.getfield 25, 3) := by decide +kernel
theorem d_X9_cordsFrom_4 : decode cX9_cordsFrom 4 = .ok (.iload_n 1, 1) := by decide +kernel
theorem d_X9_cordsFrom_5 : decode cX9_cordsFrom 5 = .ok (.bipush 100, 2) := by decide +kernel
theorem d_X9_cordsFrom_7 : decode cX9_cordsFrom 7 = .ok (.imul, 1) := by decide +kernel
theorem d_X9_cordsFrom_8 : decode cX9_cordsFrom 8 = .ok (.iload_n 2, 1) := by decide +kernel
theorem d_X9_cordsFrom_9 : decode cX9_cordsFrom 9 = .ok (.iadd, 1) := by decide +kernel
theorem d_X9_cordsFrom_10 : decode cX9_cordsFrom 10 = .ok (.iaload, 1) := by decide +kernel
theorem d_X9_cordsFrom_11 : decode cX9_cordsFrom 11 = .ok (.istore_n 3, 1) := by decide +kernel
theorem d_X9_cordsFrom_12 : decode cX9_cordsFrom 12 = .ok (.iconst 0, 1) := by decide +kernel
theorem d_X9_cordsFrom_13 : decode cX9_cordsFrom 13 = .ok (.istore 4, 2) := by decide +kernel
theorem d_X9_cordsFrom_15 : decode cX9_cordsFrom 15 = .ok (.iload_n 2, 1) := by decide +kernel
theorem d_X9_cordsFrom_16 : decode cX9_cordsFrom 16 = .ok (.iload 4, 2) := by decide +kernel
theorem d_X9_cordsFrom_18 : decode cX9_cordsFrom 18 = .ok (.iadd, 1) := by decide +kernel
theorem d_X9_cordsFrom_19 : decode cX9_cordsFrom 19 = .ok (.aload_n 0, 1) := by decide +kernel
theorem d_X9_cordsFrom_20 : decode cX9_cordsFrom 20 = .ok (.getfield 15, 3) := by decide +kernel
theorem d_X9_cordsFrom_23 : decode cX9_cordsFrom 23 = .ok (.if_icmp .gt 46, 3) := by decide +kernel
theorem d_X9_cordsFrom_26 : decode cX9_cordsFrom 26 = .ok (.aload_n 0, 1) := by decide +kernel
theorem d_X9_cordsFrom_27 : decode cX9_cordsFrom 27 = .ok (.iload_n 1, 1) := by decide +kernel
theorem d_X9_cordsFrom_28 : decode cX9_cordsFrom 28 = .ok (.iload_n 2, 1) := by decide +kernel
theorem d_X9_cordsFrom_29 : decode cX9_cordsFrom 29 = .ok (.iload 4, 2) := by decide +kernel
theorem d_X9_cordsFrom_31 : decode cX9_cordsFrom 31 = .ok (.iadd, 1) := by decide +kernel
theorem d_X9_cordsFrom_32 : decode cX9_cordsFrom 32 = .ok (.invokevirtual 53, 3) := by decide +kernel
theorem d_X9_cordsFrom_35 : decode cX9_cordsFrom 35 = .ok (.istore 5, 2) := by decide +kernel
theorem d_X9_cordsFrom_37 : decode cX9_cordsFrom 37 = .ok (.iload 5, 2) := by decide +kernel
theorem d_X9_cordsFrom_39 : decode cX9_cordsFrom 39 = .ok (.ldc 52, 2) := by decide +kernel
theorem d_X9_cordsFrom_41 : decode cX9_cordsFrom 41 = .ok (.if_icmp .eq 22, 3) := by decide +kernel
theorem d_X9_cordsFrom_44 : decode cX9_cordsFrom 44 = .ok (.iload 5, 2) := by decide +kernel
theorem d_X9_cordsFrom_46 : decode cX9_cordsFrom 46 = .ok (.iload 4, 2) := by decide +kernel
theorem d_X9_cordsFrom_48 : decode cX9_cordsFrom 48 = .ok (.aload_n 0, 1) := by decide +kernel
theorem d_X9_cordsFrom_49 : decode cX9_cordsFrom 49 = .ok (.getfield 18, 3) := by decide +kernel
theorem d_X9_cordsFrom_52 : decode cX9_cordsFrom 52 = .ok (.iload_n 1, 1) := by decide +kernel
theorem d_X9_cordsFrom_53 : decode cX9_cordsFrom 53 = .ok (.iaload, 1) := by decide +kernel
theorem d_X9_cordsFrom_54 : decode cX9_cordsFrom 54 = .ok (.imul, 1) := by decide +kernel
theorem d_X9_cordsFrom_55 : decode cX9_cordsFrom 55 = .ok (.iadd, 1) := by decide +kernel
theorem d_X9_cordsFrom_56 : decode cX9_cordsFrom 56 = .ok (.iload_n 3, 1) := by decide +kernel
theorem d_X9_cordsFrom_57 : decode cX9_cordsFrom 57 = .ok (.if_icmp .ne 6, 3) := by decide +kernel
theorem d_X9_cordsFrom_60 : decode cX9_cordsFrom 60 = .ok (.iload 4, 2) := by decide +kernel
theorem d_X9_cordsFrom_62 : decode cX9_cordsFrom 62 = .ok (.ireturn, 1) := by decide +kernel
theorem d_X9_cordsFrom_63 : decode cX9_cordsFrom 63 = .ok (.iinc 4 1, 3) := by decide +kernel
theorem d_X9_cordsFrom_66 : decode cX9_cordsFrom 66 = .ok (.goto (-51), 3) := by decide +kernel
theorem d_X9_cordsFrom_69 : decode cX9_cordsFrom 69 = .ok (.iconst 0, 1) := by decide +kernel
theorem d_X9_cordsFrom_70 : decode cX9_cordsFrom 70 = .ok (.ireturn, 1) := by decide +kernel
theorem d_X10_init_0 : decode cX10_init 0 = .ok (.aload_n 0, 1) := by decide +kernel
theorem d_X10_init_1 : decode cX10_init 1 = .ok (.invokespecial 3, 3) := by decide +kernel
theorem d_X10_init_4 : decode cX10_init 4 = .ok (.aload_n 0, 1) := by decide +kernel
theorem d_X10_init_5 : decode cX10_init 5 = .ok (.bipush 10, 2) := by decide +kernel
theorem d_X10_init_7 : decode cX10_init 7 = .ok (.newarray .int, 2) := by decide +kernel
theorem d_X10_init_9 : decode cX10_init 9 = .ok (.putfield 9, 3) := by decide +kernel
theorem d_X10_init_12 : decode cX10_init 12 = .ok (.aload_n 0, 1) := by decide +kernel
theorem d_X10_init_13 : decode cX10_init 13 = .ok (.bipush 10, 2) := by decide +kernel
theorem d_X10_init_15 : decode cX10_init 15 = .ok (.newarray .int, 2) := by decide +kernel
theorem d_X10_init_17 : decode cX10_init 17 = .ok (.putfield 15, 3) := by decide +kernel
theorem d_X10_init_20 : decode cX10_init 20 = .ok (.aload_n 0, 1) := by decide +kernel
theorem d_X10_init_21 : decode cX10_init 21 = .ok (.getfield 15, 3) := by decide +kernel
theorem d_X10_init_24 : decode cX10_init 24 = .ok (.iconst (-1), 1) := by decide +kernel
theorem d_X10_init_25 : decode cX10_init 25 = .ok (.invokestatic 18, 3) := by decide +kernel
theorem d_X10_init_28 : decode cX10_init 28 = .ok (.return_, 1) := by decide +kernel
theorem d_X10_forgetAll_0 : decode cX10_forgetAll 0 = .ok (.aload_n 0, 1) := by decide +kernel
theorem d_X10_forgetAll_1 : decode cX10_forgetAll 1 = .ok (.getfield 15, 3) := by decide +kernel
theorem d_X10_forgetAll_4 : decode cX10_forgetAll 4 = .ok (.iconst (-1), 1) := by decide +kernel
theorem d_X10_forgetAll_5 : decode cX10_forgetAll 5 = .ok (.invokestatic 18, 3) := by decide +kernel
theorem d_X10_forgetAll_8 : decode cX10_forgetAll 8 = .ok (.return_, 1) := by decide +kernel
theorem d_X10_copyFrom_0 : decode cX10_copyFrom 0 = .ok (.aload_n 1, 1) := by decide +kernel
theorem d_X10_copyFrom_1 : decode cX10_copyFrom 1 = .ok (.getfield 9, 3) := by decide +kernel
theorem d_X10_copyFrom_4 : decode cX10_copyFrom 4 = .ok (.iconst 0, 1) := by decide +kernel
theorem d_X10_copyFrom_5 : decode cX10_copyFrom 5 = .ok (.aload_n 0, 1) := by decide +kernel
theorem d_X10_copyFrom_6 : decode cX10_copyFrom 6 = .ok (.getfield 9, 3) := by decide +kernel
theorem d_X10_copyFrom_9 : decode cX10_copyFrom 9 = .ok (.iconst 0, 1) := by decide +kernel
theorem d_X10_copyFrom_10 : decode cX10_copyFrom 10 = .ok (.bipush 10, 2) := by decide +kernel
theorem d_X10_copyFrom_12 : decode cX10_copyFrom 12 = .ok (.invokestatic 24, 3) := by decide +kernel
theorem d_X10_copyFrom_15 : decode cX10_copyFrom 15 = .ok (.aload_n 1, 1) := by decide +kernel
theorem d_X10_copyFrom_16 : decode cX10_copyFrom 16 = .ok (.getfield 15, 3) := by decide +kernel
theorem d_X10_copyFrom_19 : decode cX10_copyFrom 19 = .ok (.iconst 0, 1) := by decide +kernel
theorem d_X10_copyFrom_20 : decode cX10_copyFrom 20 = .ok (.aload_n 0, 1) := by decide +kernel
theorem d_X10_copyFrom_21 : decode cX10_copyFrom 21 = .ok (.getfield 15, 3) := by decide +kernel
theorem d_X10_copyFrom_24 : decode cX10_copyFrom 24 = .ok (.iconst 0, 1) := by decide +kernel
theorem d_X10_copyFrom_25 : decode cX10_copyFrom 25 = .ok (.bipush 10, 2) := by decide +kernel
theorem d_X10_copyFrom_27 : decode cX10_copyFrom 27 = .ok (.invokestatic 24, 3) := by decide +kernel
theorem d_X10_copyFrom_30 : decode cX10_copyFrom 30 = .ok (.return_, 1) := by decide +kernel
theorem d_X10_isKnown_0 : decode cX10_isKnown 0 = .ok (.aload_n 0, 1) := by decide +kernel
theorem d_X10_isKnown_1 : decode cX10_isKnown 1 = .ok (.getfield 15, 3) := by decide +kernel
theorem d_X10_isKnown_4 : decode cX10_isKnown 4 = .ok (.iload_n 1, 1) := by decide +kernel
theorem d_X10_isKnown_5 : decode cX10_isKnown 5 = .ok (.iaload, 1) := by decide +kernel
theorem d_X10_isKnown_6 : decode cX10_isKnown 6 = .ok (.iconst (-1), 1) := by decide +kernel
theorem d_X10_isKnown_7 : decode cX10_isKnown 7 = .ok (.if_icmp .eq 7, 3) := by decide +kernel
theorem d_X10_isKnown_10 : decode cX10_isKnown 10 = .ok (.iconst 1, 1) := by decide +kernel
theorem d_X10_isKnown_11 : decode cX10_isKnown 11 = .ok (.goto 4, 3) := by decide +kernel
theorem d_X10_isKnown_14 : decode cX10_isKnown 14 = .ok (.iconst 0, 1) := by decide +kernel
theorem d_X10_isKnown_15 : decode cX10_isKnown 15 = .ok (.ireturn, 1) := by decide +kernel
theorem d_X10_learn_0 : decode cX10_learn 0 = .ok (.aload_n 0, 1) := by decide +kernel
theorem d_X10_learn_1 : decode cX10_learn 1 = .ok (.getfield 9, 3) := by decide +kernel
theorem d_X10_learn_4 : decode cX10_learn 4 = .ok (.iload_n 1, 1) := by decide +kernel
theorem d_X10_learn_5 : decode cX10_learn 5 = .ok (.iload_n 2, 1) := by decide +kernel
theorem d_X10_learn_6 : decode cX10_learn 6 = .ok (.iastore, 1) := by decide +kernel
theorem d_X10_learn_7 : decode cX10_learn 7 = .ok (.aload_n 0, 1) := by decide +kernel
theorem d_X10_learn_8 : decode cX10_learn 8 = .ok (.getfield 15, 3) := by decide +kernel
theorem d_X10_learn_11 : decode cX10_learn 11 = .ok (.iload_n 1, 1) := by decide +kernel
theorem d_X10_learn_12 : decode cX10_learn 12 = .ok (.iload_n 3, 1) := by decide +kernel
theorem d_X10_learn_13 : decode cX10_learn 13 = .ok (.iastore, 1) := by decide +kernel
theorem d_X10_learn_14 : decode cX10_learn 14 = .ok (.return_, 1) := by decide +kernel
theorem d_X10_exchange_0 : decode cX10_exchange 0 = .ok (.iconst 0, 1) := by decide +kernel
theorem d_X10_exchange_1 : decode cX10_exchange 1 = .ok (.istore_n 2, 1) := by decide +kernel
theorem d_X10_exchange_2 : decode cX10_exchange 2 = .ok (.iload_n 2, 1) := by decide +kernel
theorem d_X10_exchange_3 : decode cX10_exchange 3 = .ok (.bipush 10, 2) := by decide +kernel
theorem d_X10_exchange_5 : decode cX10_exchange 5 = .ok (.if_icmp .ge 76, 3) := by decide +kernel
theorem d_X10_exchange_8 : decode cX10_exchange 8 = .ok (.aload_n 0, 1) := by decide +kernel
theorem d_X10_exchange_9 : decode cX10_exchange 9 = .ok (.getfield 15, 3) := by decide +kernel
theorem d_X10_exchange_12 : decode cX10_exchange 12 = .ok (.iload_n 2, 1) := by decide +kernel
theorem d_X10_exchange_13 : decode cX10_exchange 13 = .ok (.iaload, 1) := by decide +kernel
theorem d_X10_exchange_14 : decode cX10_exchange 14 = .ok (.aload_n 1, 1) := by decide +kernel
theorem d_X10_exchange_15 : decode cX10_exchange 15 = .ok (.getfield 15, 3) := by decide +kernel
theorem d_X10_exchange_18 : decode cX10_exchange 18 = .ok (.iload_n 2, 1) := by decide +kernel
theorem d_X10_exchange_19 : decode cX10_exchange 19 = .ok (.iaload, 1) := by decide +kernel
theorem d_X10_exchange_20 : decode cX10_exchange 20 = .ok (.if_icmp .le 23, 3) := by decide +kernel
theorem d_X10_exchange_23 : decode cX10_exchange 23 = .ok (.aload_n 1, 1) := by decide +kernel
theorem d_X10_exchange_24 : decode cX10_exchange 24 = .ok (.iload_n 2, 1) := by decide +kernel
theorem d_X10_exchange_25 : decode cX10_exchange 25 = .ok (.aload_n 0, 1) := by decide +kernel
theorem d_X10_exchange_26 : decode cX10_exchange 26 = .ok (.getfield 9, 3) := by decide +kernel
theorem d_X10_exchange_29 : decode cX10_exchange 29 = .ok (.iload_n 2, 1) := by decide +kernel
theorem d_X10_exchange_30 : decode cX10_exchange 30 = .ok (.iaload, 1) := by decide +kernel
theorem d_X10_exchange_31 : decode cX10_exchange 31 = .ok (.aload_n 0, 1) := by decide +kernel
theorem d_X10_exchange_32 : decode cX10_exchange 32 = .ok (.getfield 15, 3) := by decide +kernel
theorem d_X10_exchange_35 : decode cX10_exchange 35 = .ok (.iload_n 2, 1) := by decide +kernel
theorem d_X10_exchange_36 : decode cX10_exchange 36 = .ok (.iaload, 1) := by decide +kernel
theorem d_X10_exchange_37 : decode cX10_exchange 37 = .ok (.invokevirtual 30, 3) := by decide +kernel
theorem d_X10_exchange_40 : decode cX10_exchange 40 = .ok (.goto 35, 3) := by decide +kernel
theorem d_X10_exchange_43 : decode cX10_exchange 43 = .ok (.aload_n 0, 1) := by decide +kernel
theorem d_X10_exchange_44 : decode cX10_exchange 44 = .ok (.getfield 15, 3) := by decide +kernel
theorem d_X10_exchange_47 : decode cX10_exchange 47 = .ok (.iload_n 2, 1) := by decide +kernel
theorem d_X10_exchange_48 : decode cX10_exchange 48 = .ok (.iaload, 1) := by decide +kernel
theorem d_X10_exchange_49 : decode cX10_exchange 49 = .ok (.aload_n 1, 1) := by decide +kernel
theorem d_X10_exchange_50 : decode cX10_exchange 50 = .ok (.getfield 15, 3) := by decide +kernel
theorem d_X10_exchange_53 : decode cX10_exchange 53 = .ok (.iload_n 2, 1) := by decide +kernel
theorem d_X10_exchange_54 : decode cX10_exchange 54 = .ok (.iaload, 1) := by decide +kernel
theorem d_X10_exchange_55 : decode cX10_exchange 55 = .ok (.if_icmp .ge 20, 3) := by decide +kernel
theorem d_X10_exchange_58 : decode cX10_exchange 58 = .ok (.aload_n 0, 1) := by decide +kernel
theorem d_X10_exchange_59 : decode cX10_exchange 59 = .ok (.iload_n 2, 1) := by decide +kernel
theorem d_X10_exchange_60 : decode cX10_exchange 60 = .ok (.aload_n 1, 1) := by decide +kernel
theorem d_X10_exchange_61 : decode cX10_exchange 61 = .ok (.getfield 9, 3) := by decide +kernel
theorem d_X10_exchange_64 : decode cX10_exchange 64 = .ok (.iload_n 2, 1) := by decide +kernel
theorem d_X10_exchange_65 : decode cX10_exchange 65 = .ok (.iaload, 1) := by decide +kernel
theorem d_X10_exchange_66 : decode cX10_exchange 66 = .ok (.aload_n 1, 1) := by decide +kernel
theorem d_X10_exchange_67 : decode cX10_exchange 67 = .ok (.getfield 15, 3) := by decide +kernel
theorem d_X10_exchange_70 : decode cX10_exchange 70 = .ok (.iload_n 2, 1) := by decide +kernel
theorem d_X10_exchange_71 : decode cX10_exchange 71 = .ok (.iaload, 1) := by decide +kernel
theorem d_X10_exchange_72 : decode cX10_exchange 72 = .ok (.invokevirtual 30, 3) := by decide +kernel
theorem d_X10_exchange_75 : decode cX10_exchange 75 = .ok (.iinc 2 1, 3) := by decide +kernel
theorem d_X10_exchange_78 : decode cX10_exchange 78 = .ok (.goto (-76), 3) := by decide +kernel
theorem d_X10_exchange_81 : decode cX10_exchange 81 = .ok (.return_, 1) := by decide +kernel
theorem d_X10_toldOf_0 : decode cX10_toldOf 0 = .ok (.aload_n 0, 1) := by decide +kernel
theorem d_X10_toldOf_1 : decode cX10_toldOf 1 = .ok (.iload_n 1, 1) := by decide +kernel
theorem d_X10_toldOf_2 : decode cX10_toldOf 2 = .ok (.invokevirtual 34, 3) := by decide +kernel
theorem d_X10_toldOf_5 : decode cX10_toldOf 5 = .ok (.ifCond .eq 12, 3) := by decide +kernel
theorem d_X10_toldOf_8 : decode cX10_toldOf 8 = .ok (.iload_n 2, 1) := by decide +kernel
theorem d_X10_toldOf_9 : decode cX10_toldOf 9 = .ok (.iconst 0, 1) := by decide +kernel
theorem d_X10_toldOf_10 : decode cX10_toldOf 10 = .ok (.iconst 1, 1) := by decide +kernel
theorem d_X10_toldOf_11 : decode cX10_toldOf 11 = .ok (.invokestatic 38, 3) := by decide +kernel
theorem d_X10_toldOf_14 : decode cX10_toldOf 14 = .ok (.ifCond .ne 7, 3) := by decide +kernel
theorem d_X10_toldOf_17 : decode cX10_toldOf 17 = .ok (.sipush (-1000), 3) := by decide +kernel
theorem d_X10_toldOf_20 : decode cX10_toldOf 20 = .ok (.ireturn, 1) := by decide +kernel
theorem d_X10_toldOf_21 : decode cX10_toldOf 21 = .ok (.iload_n 2, 1) := by decide +kernel
theorem d_X10_toldOf_22 : decode cX10_toldOf 22 = .ok (.ifCond .ne 12, 3) := by decide +kernel
theorem d_X10_toldOf_25 : decode cX10_toldOf 25 = .ok (.aload_n 0, 1) := by decide +kernel
theorem d_X10_toldOf_26 : decode cX10_toldOf 26 = .ok (.getfield 9, 3) := by decide +kernel
theorem d_X10_toldOf_29 : decode cX10_toldOf 29 = .ok (.iload_n 1, 1) := by decide +kernel
theorem d_X10_toldOf_30 : decode cX10_toldOf 30 = .ok (.iaload, 1) := by decide +kernel
theorem d_X10_toldOf_31 : decode cX10_toldOf 31 = .ok (.goto 9, 3) := by decide +kernel
theorem d_X10_toldOf_34 : decode cX10_toldOf 34 = .ok (.aload_n 0, 1) := by decide +kernel
theorem d_X10_toldOf_35 : decode cX10_toldOf 35 = .ok (.getfield 15, 3) := by decide +kernel
theorem d_X10_toldOf_38 : decode cX10_toldOf 38 = .ok (.iload_n 1, 1) := by decide +kernel
theorem d_X10_toldOf_39 : decode cX10_toldOf 39 = .ok (.iaload, 1) := by decide +kernel
theorem d_X10_toldOf_40 : decode cX10_toldOf 40 = .ok (.ireturn, 1) := by decide +kernel
theorem d_J_abs_0 : decode cJ_abs 0 = .ok (.iload_n 0, 1) := by decide +kernel
theorem d_J_abs_1 : decode cJ_abs 1 = .ok (.ifCond .ge 8, 3) := by decide +kernel
theorem d_J_abs_4 : decode cJ_abs 4 = .ok (.iload_n 0, 1) := by decide +kernel
theorem d_J_abs_5 : decode cJ_abs 5 = .ok (.ineg, 1) := by decide +kernel
theorem d_J_abs_6 : decode cJ_abs 6 = .ok (.goto 4, 3) := by decide +kernel
theorem d_J_abs_9 : decode cJ_abs 9 = .ok (.iload_n 0, 1) := by decide +kernel
theorem d_J_abs_10 : decode cJ_abs 10 = .ok (.ireturn, 1) := by decide +kernel
theorem d_J_max_0 : decode cJ_max 0 = .ok (.iload_n 0, 1) := by decide +kernel
theorem d_J_max_1 : decode cJ_max 1 = .ok (.iload_n 1, 1) := by decide +kernel
theorem d_J_max_2 : decode cJ_max 2 = .ok (.if_icmp .lt 7, 3) := by decide +kernel
theorem d_J_max_5 : decode cJ_max 5 = .ok (.iload_n 0, 1) := by decide +kernel
theorem d_J_max_6 : decode cJ_max 6 = .ok (.goto 4, 3) := by decide +kernel
theorem d_J_max_9 : decode cJ_max 9 = .ok (.iload_n 1, 1) := by decide +kernel
theorem d_J_max_10 : decode cJ_max 10 = .ok (.ireturn, 1) := by decide +kernel
theorem d_J_min_0 : decode cJ_min 0 = .ok (.iload_n 0, 1) := by decide +kernel
theorem d_J_min_1 : decode cJ_min 1 = .ok (.iload_n 1, 1) := by decide +kernel
theorem d_J_min_2 : decode cJ_min 2 = .ok (.if_icmp .gt 7, 3) := by decide +kernel
theorem d_J_min_5 : decode cJ_min 5 = .ok (.iload_n 0, 1) := by decide +kernel
theorem d_J_min_6 : decode cJ_min 6 = .ok (.goto 4, 3) := by decide +kernel
theorem d_J_min_9 : decode cJ_min 9 = .ok (.iload_n 1, 1) := by decide +kernel
theorem d_J_min_10 : decode cJ_min 10 = .ok (.ireturn, 1) := by decide +kernel
theorem d_J_floorMod_0 : decode cJ_floorMod 0 = .ok (.iload_n 0, 1) := by decide +kernel
theorem d_J_floorMod_1 : decode cJ_floorMod 1 = .ok (.iload_n 1, 1) := by decide +kernel
theorem d_J_floorMod_2 : decode cJ_floorMod 2 = .ok (.irem, 1) := by decide +kernel
theorem d_J_floorMod_3 : decode cJ_floorMod 3 = .ok (.istore_n 2, 1) := by decide +kernel
theorem d_J_floorMod_4 : decode cJ_floorMod 4 = .ok (.iload_n 0, 1) := by decide +kernel
theorem d_J_floorMod_5 : decode cJ_floorMod 5 = .ok (.iload_n 1, 1) := by decide +kernel
theorem d_J_floorMod_6 : decode cJ_floorMod 6 = .ok (.ixor, 1) := by decide +kernel
theorem d_J_floorMod_7 : decode cJ_floorMod 7 = .ok (.ifCond .ge 11, 3) := by decide +kernel
theorem d_J_floorMod_10 : decode cJ_floorMod 10 = .ok (.iload_n 2, 1) := by decide +kernel
theorem d_J_floorMod_11 : decode cJ_floorMod 11 = .ok (.ifCond .eq 7, 3) := by decide +kernel
theorem d_J_floorMod_14 : decode cJ_floorMod 14 = .ok (.iload_n 2, 1) := by decide +kernel
theorem d_J_floorMod_15 : decode cJ_floorMod 15 = .ok (.iload_n 1, 1) := by decide +kernel
theorem d_J_floorMod_16 : decode cJ_floorMod 16 = .ok (.iadd, 1) := by decide +kernel
theorem d_J_floorMod_17 : decode cJ_floorMod 17 = .ok (.ireturn, 1) := by decide +kernel
theorem d_J_floorMod_18 : decode cJ_floorMod 18 = .ok (.iload_n 2, 1) := by decide +kernel
theorem d_J_floorMod_19 : decode cJ_floorMod 19 = .ok (.ireturn, 1) := by decide +kernel
theorem d_J_fill_0 : decode cJ_fill 0 = .ok (.iconst 0, 1) := by decide +kernel
theorem d_J_fill_1 : decode cJ_fill 1 = .ok (.istore_n 2, 1) := by decide +kernel
theorem d_J_fill_2 : decode cJ_fill 2 = .ok (.aload_n 0, 1) := by decide +kernel
theorem d_J_fill_3 : decode cJ_fill 3 = .ok (.arraylength, 1) := by decide +kernel
theorem d_J_fill_4 : decode cJ_fill 4 = .ok (.istore_n 3, 1) := by decide +kernel
theorem d_J_fill_5 : decode cJ_fill 5 = .ok (.iload_n 2, 1) := by decide +kernel
theorem d_J_fill_6 : decode cJ_fill 6 = .ok (.iload_n 3, 1) := by decide +kernel
theorem d_J_fill_7 : decode cJ_fill 7 = .ok (.if_icmp .ge 13, 3) := by decide +kernel
theorem d_J_fill_10 : decode cJ_fill 10 = .ok (.aload_n 0, 1) := by decide +kernel
theorem d_J_fill_11 : decode cJ_fill 11 = .ok (.iload_n 2, 1) := by decide +kernel
theorem d_J_fill_12 : decode cJ_fill 12 = .ok (.iload_n 1, 1) := by decide +kernel
theorem d_J_fill_13 : decode cJ_fill 13 = .ok (.iastore, 1) := by decide +kernel
theorem d_J_fill_14 : decode cJ_fill 14 = .ok (.iinc 2 1, 3) := by decide +kernel
theorem d_J_fill_17 : decode cJ_fill 17 = .ok (.goto (-12), 3) := by decide +kernel
theorem d_J_fill_20 : decode cJ_fill 20 = .ok (.return_, 1) := by decide +kernel
theorem d_J_bitCount_0 : decode cJ_bitCount 0 = .ok (.iload_n 0, 1) := by decide +kernel
theorem d_J_bitCount_1 : decode cJ_bitCount 1 = .ok (.iload_n 0, 1) := by decide +kernel
theorem d_J_bitCount_2 : decode cJ_bitCount 2 = .ok (.iconst 1, 1) := by decide +kernel
theorem d_J_bitCount_3 : decode cJ_bitCount 3 = .ok (.iushr, 1) := by decide +kernel
theorem d_J_bitCount_4 : decode cJ_bitCount 4 = .ok (.ldc_w 265, 3) := by decide +kernel
theorem d_J_bitCount_7 : decode cJ_bitCount 7 = .ok (.iand, 1) := by decide +kernel
theorem d_J_bitCount_8 : decode cJ_bitCount 8 = .ok (.isub, 1) := by decide +kernel
theorem d_J_bitCount_9 : decode cJ_bitCount 9 = .ok (.istore_n 0, 1) := by decide +kernel
theorem d_J_bitCount_10 : decode cJ_bitCount 10 = .ok (.iload_n 0, 1) := by decide +kernel
theorem d_J_bitCount_11 : decode cJ_bitCount 11 = .ok (.ldc_w 266, 3) := by decide +kernel
theorem d_J_bitCount_14 : decode cJ_bitCount 14 = .ok (.iand, 1) := by decide +kernel
theorem d_J_bitCount_15 : decode cJ_bitCount 15 = .ok (.iload_n 0, 1) := by decide +kernel
theorem d_J_bitCount_16 : decode cJ_bitCount 16 = .ok (.iconst 2, 1) := by decide +kernel
theorem d_J_bitCount_17 : decode cJ_bitCount 17 = .ok (.iushr, 1) := by decide +kernel
theorem d_J_bitCount_18 : decode cJ_bitCount 18 = .ok (.ldc_w 266, 3) := by decide +kernel
theorem d_J_bitCount_21 : decode cJ_bitCount 21 = .ok (.iand, 1) := by decide +kernel
theorem d_J_bitCount_22 : decode cJ_bitCount 22 = .ok (.iadd, 1) := by decide +kernel
theorem d_J_bitCount_23 : decode cJ_bitCount 23 = .ok (.istore_n 0, 1) := by decide +kernel
theorem d_J_bitCount_24 : decode cJ_bitCount 24 = .ok (.iload_n 0, 1) := by decide +kernel
theorem d_J_bitCount_25 : decode cJ_bitCount 25 = .ok (.iload_n 0, 1) := by decide +kernel
theorem d_J_bitCount_26 : decode cJ_bitCount 26 = .ok (.iconst 4, 1) := by decide +kernel
theorem d_J_bitCount_27 : decode cJ_bitCount 27 = .ok (.iushr, 1) := by decide +kernel
theorem d_J_bitCount_28 : decode cJ_bitCount 28 = .ok (.iadd, 1) := by decide +kernel
theorem d_J_bitCount_29 : decode cJ_bitCount 29 = .ok (.ldc_w 267, 3) := by decide +kernel
theorem d_J_bitCount_32 : decode cJ_bitCount 32 = .ok (.iand, 1) := by decide +kernel
theorem d_J_bitCount_33 : decode cJ_bitCount 33 = .ok (.istore_n 0, 1) := by decide +kernel
theorem d_J_bitCount_34 : decode cJ_bitCount 34 = .ok (.iload_n 0, 1) := by decide +kernel
theorem d_J_bitCount_35 : decode cJ_bitCount 35 = .ok (.iload_n 0, 1) := by decide +kernel
theorem d_J_bitCount_36 : decode cJ_bitCount 36 = .ok (.bipush 8, 2) := by decide +kernel
theorem d_J_bitCount_38 : decode cJ_bitCount 38 = .ok (.iushr, 1) := by decide +kernel
theorem d_J_bitCount_39 : decode cJ_bitCount 39 = .ok (.iadd, 1) := by decide +kernel
theorem d_J_bitCount_40 : decode cJ_bitCount 40 = .ok (.istore_n 0, 1) := by decide +kernel
theorem d_J_bitCount_41 : decode cJ_bitCount 41 = .ok (.iload_n 0, 1) := by decide +kernel
theorem d_J_bitCount_42 : decode cJ_bitCount 42 = .ok (.iload_n 0, 1) := by decide +kernel
theorem d_J_bitCount_43 : decode cJ_bitCount 43 = .ok (.bipush 16, 2) := by decide +kernel
theorem d_J_bitCount_45 : decode cJ_bitCount 45 = .ok (.iushr, 1) := by decide +kernel
theorem d_J_bitCount_46 : decode cJ_bitCount 46 = .ok (.iadd, 1) := by decide +kernel
theorem d_J_bitCount_47 : decode cJ_bitCount 47 = .ok (.istore_n 0, 1) := by decide +kernel
theorem d_J_bitCount_48 : decode cJ_bitCount 48 = .ok (.iload_n 0, 1) := by decide +kernel
theorem d_J_bitCount_49 : decode cJ_bitCount 49 = .ok (.bipush 63, 2) := by decide +kernel
theorem d_J_bitCount_51 : decode cJ_bitCount 51 = .ok (.iand, 1) := by decide +kernel
theorem d_J_bitCount_52 : decode cJ_bitCount 52 = .ok (.ireturn, 1) := by decide +kernel
