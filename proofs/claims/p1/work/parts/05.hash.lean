theorem kx_begin : Cond.selects R_M y_begin y_begin ∈ lw_tg := List.mem_filter.mpr ⟨List.mem_append_left _ (List.mem_of_getElem? (i := 81) (by decide +kernel)), rfl⟩
theorem hd_begin : y_begin.cls = R_M ∧ y_begin.cls ≠ "java/lang/invoke/MethodHandle" ∧ y_begin.cls ≠ "java/lang/invoke/VarHandle" ∧ (parseMethodDescriptor y_begin.desc).map (fun d => d.parameters.length) = some 0 := by decide +kernel
abbrev b_hash : ByteArray := prog_14_method_10_code
def y_hash : MethodName := ⟨R_M, "hash", "(I)V"⟩
abbrev k_hash : Cond := .code y_hash b_hash 11 none
theorem ki_hash : k_hash ∈ lw_tg := in_t 1817 (by decide +kernel)
theorem ks_hash : Cond.instanceMethod y_hash ∈ lw_tg := in_t 1816 (by decide +kernel)
theorem kl_hash : Cond.methodLink R_M 370 y_hash ∈ lw_tg := in_t 1814 (by decide +kernel)
theorem d_hash_0 : decode b_hash 0 = .ok (.aload_n 0, 1) := by decide +kernel
theorem d_hash_1 : decode b_hash 1 = .ok (.getfield 29, 3) := by decide +kernel
theorem d_hash_4 : decode b_hash 4 = .ok (.aload_n 0, 1) := by decide +kernel
theorem d_hash_5 : decode b_hash 5 = .ok (.getfield 357, 3) := by decide +kernel
theorem d_hash_8 : decode b_hash 8 = .ok (.bipush 64, 2) := by decide +kernel
theorem d_hash_10 : decode b_hash 10 = .ok (.irem, 1) := by decide +kernel
theorem d_hash_11 : decode b_hash 11 = .ok (.iload_n 1, 1) := by decide +kernel
theorem d_hash_12 : decode b_hash 12 = .ok (.i2b, 1) := by decide +kernel
theorem d_hash_13 : decode b_hash 13 = .ok (.bastore, 1) := by decide +kernel
theorem d_hash_14 : decode b_hash 14 = .ok (.aload_n 0, 1) := by decide +kernel
theorem d_hash_15 : decode b_hash 15 = .ok (.dup, 1) := by decide +kernel
theorem d_hash_16 : decode b_hash 16 = .ok (.getfield 357, 3) := by decide +kernel
theorem d_hash_19 : decode b_hash 19 = .ok (.iconst 1, 1) := by decide +kernel
theorem d_hash_20 : decode b_hash 20 = .ok (.iadd, 1) := by decide +kernel
theorem d_hash_21 : decode b_hash 21 = .ok (.putfield 357, 3) := by decide +kernel
theorem d_hash_24 : decode b_hash 24 = .ok (.aload_n 0, 1) := by decide +kernel
theorem d_hash_25 : decode b_hash 25 = .ok (.getfield 357, 3) := by decide +kernel
theorem d_hash_28 : decode b_hash 28 = .ok (.bipush 64, 2) := by decide +kernel
theorem d_hash_30 : decode b_hash 30 = .ok (.irem, 1) := by decide +kernel
theorem d_hash_31 : decode b_hash 31 = .ok (.ifCond .eq 4, 3) := by decide +kernel
theorem d_hash_34 : decode b_hash 34 = .ok (.return_, 1) := by decide +kernel
theorem d_hash_35 : decode b_hash 35 = .ok (.iconst 0, 1) := by decide +kernel
theorem d_hash_36 : decode b_hash 36 = .ok (.istore_n 2, 1) := by decide +kernel
theorem d_hash_37 : decode b_hash 37 = .ok (.iload_n 2, 1) := by decide +kernel
theorem d_hash_38 : decode b_hash 38 = .ok (.bipush 16, 2) := by decide +kernel
theorem d_hash_40 : decode b_hash 40 = .ok (.if_icmp .ge 77, 3) := by decide +kernel
theorem d_hash_43 : decode b_hash 43 = .ok (.aload_n 0, 1) := by decide +kernel
theorem d_hash_44 : decode b_hash 44 = .ok (.getfield 26, 3) := by decide +kernel
theorem d_hash_47 : decode b_hash 47 = .ok (.iload_n 2, 1) := by decide +kernel
theorem d_hash_48 : decode b_hash 48 = .ok (.aload_n 0, 1) := by decide +kernel
theorem d_hash_49 : decode b_hash 49 = .ok (.getfield 29, 3) := by decide +kernel
theorem d_hash_52 : decode b_hash 52 = .ok (.iconst 4, 1) := by decide +kernel
theorem d_hash_53 : decode b_hash 53 = .ok (.iload_n 2, 1) := by decide +kernel
theorem d_hash_54 : decode b_hash 54 = .ok (.imul, 1) := by decide +kernel
theorem d_hash_55 : decode b_hash 55 = .ok (.baload, 1) := by decide +kernel
theorem d_hash_56 : decode b_hash 56 = .ok (.bipush 24, 2) := by decide +kernel
theorem d_hash_58 : decode b_hash 58 = .ok (.ishl, 1) := by decide +kernel
theorem d_hash_59 : decode b_hash 59 = .ok (.aload_n 0, 1) := by decide +kernel
theorem d_hash_60 : decode b_hash 60 = .ok (.getfield 29, 3) := by decide +kernel
theorem d_hash_63 : decode b_hash 63 = .ok (.iconst 4, 1) := by decide +kernel
theorem d_hash_64 : decode b_hash 64 = .ok (.iload_n 2, 1) := by decide +kernel
theorem d_hash_65 : decode b_hash 65 = .ok (.imul, 1) := by decide +kernel
theorem d_hash_66 : decode b_hash 66 = .ok (.iconst 1, 1) := by decide +kernel
theorem d_hash_67 : decode b_hash 67 = .ok (.iadd, 1) := by decide +kernel
theorem d_hash_68 : decode b_hash 68 = .ok (.baload, 1) := by decide +kernel
theorem d_hash_69 : decode b_hash 69 = .ok (.sipush 255, 3) := by decide +kernel
theorem d_hash_72 : decode b_hash 72 = .ok (.iand, 1) := by decide +kernel
theorem d_hash_73 : decode b_hash 73 = .ok (.bipush 16, 2) := by decide +kernel
theorem d_hash_75 : decode b_hash 75 = .ok (.ishl, 1) := by decide +kernel
theorem d_hash_76 : decode b_hash 76 = .ok (.ior, 1) := by decide +kernel
theorem d_hash_77 : decode b_hash 77 = .ok (.aload_n 0, 1) := by decide +kernel
theorem d_hash_78 : decode b_hash 78 = .ok (.getfield 29, 3) := by decide +kernel
theorem d_hash_81 : decode b_hash 81 = .ok (.iconst 4, 1) := by decide +kernel
theorem d_hash_82 : decode b_hash 82 = .ok (.iload_n 2, 1) := by decide +kernel
theorem d_hash_83 : decode b_hash 83 = .ok (.imul, 1) := by decide +kernel
theorem d_hash_84 : decode b_hash 84 = .ok (.iconst 2, 1) := by decide +kernel
theorem d_hash_85 : decode b_hash 85 = .ok (.iadd, 1) := by decide +kernel
theorem d_hash_86 : decode b_hash 86 = .ok (.baload, 1) := by decide +kernel
theorem d_hash_87 : decode b_hash 87 = .ok (.sipush 255, 3) := by decide +kernel
theorem d_hash_90 : decode b_hash 90 = .ok (.iand, 1) := by decide +kernel
theorem d_hash_91 : decode b_hash 91 = .ok (.bipush 8, 2) := by decide +kernel
theorem d_hash_93 : decode b_hash 93 = .ok (.ishl, 1) := by decide +kernel
theorem d_hash_94 : decode b_hash 94 = .ok (.ior, 1) := by decide +kernel
theorem d_hash_95 : decode b_hash 95 = .ok (.aload_n 0, 1) := by decide +kernel
theorem d_hash_96 : decode b_hash 96 = .ok (.getfield 29, 3) := by decide +kernel
theorem d_hash_99 : decode b_hash 99 = .ok (.iconst 4, 1) := by decide +kernel
theorem d_hash_100 : decode b_hash 100 = .ok (.iload_n 2, 1) := by decide +kernel
theorem d_hash_101 : decode b_hash 101 = .ok (.imul, 1) := by decide +kernel
theorem d_hash_102 : decode b_hash 102 = .ok (.iconst 3, 1) := by decide +kernel
theorem d_hash_103 : decode b_hash 103 = .ok (.iadd, 1) := by decide +kernel
theorem d_hash_104 : decode b_hash 104 = .ok (.baload, 1) := by decide +kernel
theorem d_hash_105 : decode b_hash 105 = .ok (.sipush 255, 3) := by decide +kernel
theorem d_hash_108 : decode b_hash 108 = .ok (.iand, 1) := by decide +kernel
theorem d_hash_109 : decode b_hash 109 = .ok (.ior, 1) := by decide +kernel
theorem d_hash_110 : decode b_hash 110 = .ok (.iastore, 1) := by decide +kernel
theorem d_hash_111 : decode b_hash 111 = .ok (.iinc 2 1, 3) := by decide +kernel
theorem d_hash_114 : decode b_hash 114 = .ok (.goto (-77), 3) := by decide +kernel
theorem d_hash_117 : decode b_hash 117 = .ok (.bipush 16, 2) := by decide +kernel
theorem d_hash_119 : decode b_hash 119 = .ok (.istore_n 2, 1) := by decide +kernel
theorem d_hash_120 : decode b_hash 120 = .ok (.iload_n 2, 1) := by decide +kernel
theorem d_hash_121 : decode b_hash 121 = .ok (.bipush 80, 2) := by decide +kernel
theorem d_hash_123 : decode b_hash 123 = .ok (.if_icmp .ge 57, 3) := by decide +kernel
theorem d_hash_126 : decode b_hash 126 = .ok (.aload_n 0, 1) := by decide +kernel
theorem d_hash_127 : decode b_hash 127 = .ok (.getfield 26, 3) := by decide +kernel
theorem d_hash_130 : decode b_hash 130 = .ok (.iload_n 2, 1) := by decide +kernel
theorem d_hash_131 : decode b_hash 131 = .ok (.aload_n 0, 1) := by decide +kernel
theorem d_hash_132 : decode b_hash 132 = .ok (.getfield 26, 3) := by decide +kernel
theorem d_hash_135 : decode b_hash 135 = .ok (.iload_n 2, 1) := by decide +kernel
theorem d_hash_136 : decode b_hash 136 = .ok (.iconst 3, 1) := by decide +kernel
theorem d_hash_137 : decode b_hash 137 = .ok (.isub, 1) := by decide +kernel
theorem d_hash_138 : decode b_hash 138 = .ok (.iaload, 1) := by decide +kernel
theorem d_hash_139 : decode b_hash 139 = .ok (.aload_n 0, 1) := by decide +kernel
theorem d_hash_140 : decode b_hash 140 = .ok (.getfield 26, 3) := by decide +kernel
theorem d_hash_143 : decode b_hash 143 = .ok (.iload_n 2, 1) := by decide +kernel
theorem d_hash_144 : decode b_hash 144 = .ok (.bipush 8, 2) := by decide +kernel
theorem d_hash_146 : decode b_hash 146 = .ok (.isub, 1) := by decide +kernel
theorem d_hash_147 : decode b_hash 147 = .ok (.iaload, 1) := by decide +kernel
theorem d_hash_148 : decode b_hash 148 = .ok (.ixor, 1) := by decide +kernel
theorem d_hash_149 : decode b_hash 149 = .ok (.aload_n 0, 1) := by decide +kernel
theorem d_hash_150 : decode b_hash 150 = .ok (.getfield 26, 3) := by decide +kernel
theorem d_hash_153 : decode b_hash 153 = .ok (.iload_n 2, 1) := by decide +kernel
theorem d_hash_154 : decode b_hash 154 = .ok (.bipush 14, 2) := by decide +kernel
theorem d_hash_156 : decode b_hash 156 = .ok (.isub, 1) := by decide +kernel
theorem d_hash_157 : decode b_hash 157 = .ok (.iaload, 1) := by decide +kernel
theorem d_hash_158 : decode b_hash 158 = .ok (.ixor, 1) := by decide +kernel
theorem d_hash_159 : decode b_hash 159 = .ok (.aload_n 0, 1) := by decide +kernel
theorem d_hash_160 : decode b_hash 160 = .ok (.getfield 26, 3) := by decide +kernel
theorem d_hash_163 : decode b_hash 163 = .ok (.iload_n 2, 1) := by decide +kernel
theorem d_hash_164 : decode b_hash 164 = .ok (.bipush 16, 2) := by decide +kernel
theorem d_hash_166 : decode b_hash 166 = .ok (.isub, 1) := by decide +kernel
theorem d_hash_167 : decode b_hash 167 = .ok (.iaload, 1) := by decide +kernel
theorem d_hash_168 : decode b_hash 168 = .ok (.ixor, 1) := by decide +kernel
theorem d_hash_169 : decode b_hash 169 = .ok (.iconst 1, 1) := by decide +kernel
theorem d_hash_170 : decode b_hash 170 = .ok (.invokestatic 360, 3) := by decide +kernel
theorem d_hash_173 : decode b_hash 173 = .ok (.iastore, 1) := by decide +kernel
theorem d_hash_174 : decode b_hash 174 = .ok (.iinc 2 1, 3) := by decide +kernel
theorem d_hash_177 : decode b_hash 177 = .ok (.goto (-57), 3) := by decide +kernel
theorem d_hash_180 : decode b_hash 180 = .ok (.aload_n 0, 1) := by decide +kernel
theorem d_hash_181 : decode b_hash 181 = .ok (.getfield 22, 3) := by decide +kernel
theorem d_hash_184 : decode b_hash 184 = .ok (.iconst 0, 1) := by decide +kernel
theorem d_hash_185 : decode b_hash 185 = .ok (.iaload, 1) := by decide +kernel
theorem d_hash_186 : decode b_hash 186 = .ok (.istore_n 2, 1) := by decide +kernel
theorem d_hash_187 : decode b_hash 187 = .ok (.aload_n 0, 1) := by decide +kernel
theorem d_hash_188 : decode b_hash 188 = .ok (.getfield 22, 3) := by decide +kernel
theorem d_hash_191 : decode b_hash 191 = .ok (.iconst 1, 1) := by decide +kernel
theorem d_hash_192 : decode b_hash 192 = .ok (.iaload, 1) := by decide +kernel
theorem d_hash_193 : decode b_hash 193 = .ok (.istore_n 3, 1) := by decide +kernel
theorem d_hash_194 : decode b_hash 194 = .ok (.aload_n 0, 1) := by decide +kernel
theorem d_hash_195 : decode b_hash 195 = .ok (.getfield 22, 3) := by decide +kernel
theorem d_hash_198 : decode b_hash 198 = .ok (.iconst 2, 1) := by decide +kernel
theorem d_hash_199 : decode b_hash 199 = .ok (.iaload, 1) := by decide +kernel
theorem d_hash_200 : decode b_hash 200 = .ok (.istore 4, 2) := by decide +kernel
theorem d_hash_202 : decode b_hash 202 = .ok (.aload_n 0, 1) := by decide +kernel
theorem d_hash_203 : decode b_hash 203 = .ok (.getfield 22, 3) := by decide +kernel
theorem d_hash_206 : decode b_hash 206 = .ok (.iconst 3, 1) := by decide +kernel
theorem d_hash_207 : decode b_hash 207 = .ok (.iaload, 1) := by decide +kernel
theorem d_hash_208 : decode b_hash 208 = .ok (.istore 5, 2) := by decide +kernel
theorem d_hash_210 : decode b_hash 210 = .ok (.aload_n 0, 1) := by decide +kernel
theorem d_hash_211 : decode b_hash 211 = .ok (.getfield 22, 3) := by decide +kernel
theorem d_hash_214 : decode b_hash 214 = .ok (.iconst 4, 1) := by decide +kernel
theorem d_hash_215 : decode b_hash 215 = .ok (.iaload, 1) := by decide +kernel
theorem d_hash_216 : decode b_hash 216 = .ok (.istore 6, 2) := by decide +kernel
theorem d_hash_218 : decode b_hash 218 = .ok (.iconst 0, 1) := by decide +kernel
theorem d_hash_219 : decode b_hash 219 = .ok (.istore 7, 2) := by decide +kernel
theorem d_hash_221 : decode b_hash 221 = .ok (.iload 7, 2) := by decide +kernel
theorem d_hash_223 : decode b_hash 223 = .ok (.bipush 80, 2) := by decide +kernel
theorem d_hash_225 : decode b_hash 225 = .ok (.if_icmp .ge 160, 3) := by decide +kernel
theorem d_hash_228 : decode b_hash 228 = .ok (.iload 7, 2) := by decide +kernel
theorem d_hash_230 : decode b_hash 230 = .ok (.bipush 20, 2) := by decide +kernel
theorem d_hash_232 : decode b_hash 232 = .ok (.if_icmp .ge 17, 3) := by decide +kernel
theorem d_hash_235 : decode b_hash 235 = .ok (.iload_n 3, 1) := by decide +kernel
theorem d_hash_236 : decode b_hash 236 = .ok (.iload 4, 2) := by decide +kernel
theorem d_hash_238 : decode b_hash 238 = .ok (.iand, 1) := by decide +kernel
theorem d_hash_239 : decode b_hash 239 = .ok (.iload_n 3, 1) := by decide +kernel
theorem d_hash_240 : decode b_hash 240 = .ok (.iconst (-1), 1) := by decide +kernel
theorem d_hash_241 : decode b_hash 241 = .ok (.ixor, 1) := by decide +kernel
theorem d_hash_242 : decode b_hash 242 = .ok (.iload 5, 2) := by decide +kernel
theorem d_hash_244 : decode b_hash 244 = .ok (.iand, 1) := by decide +kernel
theorem d_hash_245 : decode b_hash 245 = .ok (.ior, 1) := by decide +kernel
theorem d_hash_246 : decode b_hash 246 = .ok (.goto 42, 3) := by decide +kernel
theorem d_hash_249 : decode b_hash 249 = .ok (.iload 7, 2) := by decide +kernel
theorem d_hash_251 : decode b_hash 251 = .ok (.bipush 40, 2) := by decide +kernel
theorem d_hash_253 : decode b_hash 253 = .ok (.if_icmp .lt 10, 3) := by decide +kernel
theorem d_hash_256 : decode b_hash 256 = .ok (.iload 7, 2) := by decide +kernel
theorem d_hash_258 : decode b_hash 258 = .ok (.bipush 59, 2) := by decide +kernel
theorem d_hash_260 : decode b_hash 260 = .ok (.if_icmp .le 13, 3) := by decide +kernel
theorem d_hash_263 : decode b_hash 263 = .ok (.iload_n 3, 1) := by decide +kernel
theorem d_hash_264 : decode b_hash 264 = .ok (.iload 4, 2) := by decide +kernel
theorem d_hash_266 : decode b_hash 266 = .ok (.ixor, 1) := by decide +kernel
theorem d_hash_267 : decode b_hash 267 = .ok (.iload 5, 2) := by decide +kernel
theorem d_hash_269 : decode b_hash 269 = .ok (.ixor, 1) := by decide +kernel
theorem d_hash_270 : decode b_hash 270 = .ok (.goto 18, 3) := by decide +kernel
theorem d_hash_273 : decode b_hash 273 = .ok (.iload_n 3, 1) := by decide +kernel
theorem d_hash_274 : decode b_hash 274 = .ok (.iload 4, 2) := by decide +kernel
theorem d_hash_276 : decode b_hash 276 = .ok (.iand, 1) := by decide +kernel
theorem d_hash_277 : decode b_hash 277 = .ok (.iload_n 3, 1) := by decide +kernel
theorem d_hash_278 : decode b_hash 278 = .ok (.iload 5, 2) := by decide +kernel
theorem d_hash_280 : decode b_hash 280 = .ok (.iand, 1) := by decide +kernel
theorem d_hash_281 : decode b_hash 281 = .ok (.ior, 1) := by decide +kernel
theorem d_hash_282 : decode b_hash 282 = .ok (.iload 4, 2) := by decide +kernel
theorem d_hash_284 : decode b_hash 284 = .ok (.iload 5, 2) := by decide +kernel
theorem d_hash_286 : decode b_hash 286 = .ok (.iand, 1) := by decide +kernel
theorem d_hash_287 : decode b_hash 287 = .ok (.ior, 1) := by decide +kernel
theorem d_hash_288 : decode b_hash 288 = .ok (.istore 8, 2) := by decide +kernel
theorem d_hash_290 : decode b_hash 290 = .ok (.iload 7, 2) := by decide +kernel
theorem d_hash_292 : decode b_hash 292 = .ok (.bipush 20, 2) := by decide +kernel
theorem d_hash_294 : decode b_hash 294 = .ok (.if_icmp .ge 9, 3) := by decide +kernel
theorem d_hash_297 : decode b_hash 297 = .ok (.ldc_w 364, 3) := by decide +kernel
theorem d_hash_300 : decode b_hash 300 = .ok (.goto 32, 3) := by decide +kernel
theorem d_hash_303 : decode b_hash 303 = .ok (.iload 7, 2) := by decide +kernel
theorem d_hash_305 : decode b_hash 305 = .ok (.bipush 40, 2) := by decide +kernel
theorem d_hash_307 : decode b_hash 307 = .ok (.if_icmp .ge 9, 3) := by decide +kernel
theorem d_hash_310 : decode b_hash 310 = .ok (.ldc_w 365, 3) := by decide +kernel
theorem d_hash_313 : decode b_hash 313 = .ok (.goto 19, 3) := by decide +kernel
theorem d_hash_316 : decode b_hash 316 = .ok (.iload 7, 2) := by decide +kernel
theorem d_hash_318 : decode b_hash 318 = .ok (.bipush 60, 2) := by decide +kernel
theorem d_hash_320 : decode b_hash 320 = .ok (.if_icmp .ge 9, 3) := by decide +kernel
theorem d_hash_323 : decode b_hash 323 = .ok (.ldc_w 366, 3) := by decide +kernel
theorem d_hash_326 : decode b_hash 326 = .ok (.goto 6, 3) := by decide +kernel
theorem d_hash_329 : decode b_hash 329 = .ok (.ldc_w 367, 3) := by decide +kernel
theorem d_hash_332 : decode b_hash 332 = .ok (.istore 9, 2) := by decide +kernel
theorem d_hash_334 : decode b_hash 334 = .ok (.iload_n 2, 1) := by decide +kernel
theorem d_hash_335 : decode b_hash 335 = .ok (.iconst 5, 1) := by decide +kernel
theorem d_hash_336 : decode b_hash 336 = .ok (.invokestatic 360, 3) := by decide +kernel
theorem d_hash_339 : decode b_hash 339 = .ok (.iload 8, 2) := by decide +kernel
theorem d_hash_341 : decode b_hash 341 = .ok (.iadd, 1) := by decide +kernel
theorem d_hash_342 : decode b_hash 342 = .ok (.iload 6, 2) := by decide +kernel
theorem d_hash_344 : decode b_hash 344 = .ok (.iadd, 1) := by decide +kernel
theorem d_hash_345 : decode b_hash 345 = .ok (.iload 9, 2) := by decide +kernel
theorem d_hash_347 : decode b_hash 347 = .ok (.iadd, 1) := by decide +kernel
theorem d_hash_348 : decode b_hash 348 = .ok (.aload_n 0, 1) := by decide +kernel
theorem d_hash_349 : decode b_hash 349 = .ok (.getfield 26, 3) := by decide +kernel
theorem d_hash_352 : decode b_hash 352 = .ok (.iload 7, 2) := by decide +kernel
theorem d_hash_354 : decode b_hash 354 = .ok (.iaload, 1) := by decide +kernel
theorem d_hash_355 : decode b_hash 355 = .ok (.iadd, 1) := by decide +kernel
theorem d_hash_356 : decode b_hash 356 = .ok (.istore 10, 2) := by decide +kernel
theorem d_hash_358 : decode b_hash 358 = .ok (.iload 5, 2) := by decide +kernel
theorem d_hash_360 : decode b_hash 360 = .ok (.istore 6, 2) := by decide +kernel
theorem d_hash_362 : decode b_hash 362 = .ok (.iload 4, 2) := by decide +kernel
theorem d_hash_364 : decode b_hash 364 = .ok (.istore 5, 2) := by decide +kernel
theorem d_hash_366 : decode b_hash 366 = .ok (.iload_n 3, 1) := by decide +kernel
theorem d_hash_367 : decode b_hash 367 = .ok (.bipush 30, 2) := by decide +kernel
theorem d_hash_369 : decode b_hash 369 = .ok (.invokestatic 360, 3) := by decide +kernel
theorem d_hash_372 : decode b_hash 372 = .ok (.istore 4, 2) := by decide +kernel
theorem d_hash_374 : decode b_hash 374 = .ok (.iload_n 2, 1) := by decide +kernel
theorem d_hash_375 : decode b_hash 375 = .ok (.istore_n 3, 1) := by decide +kernel
theorem d_hash_376 : decode b_hash 376 = .ok (.iload 10, 2) := by decide +kernel
theorem d_hash_378 : decode b_hash 378 = .ok (.istore_n 2, 1) := by decide +kernel
theorem d_hash_379 : decode b_hash 379 = .ok (.iinc 7 1, 3) := by decide +kernel
theorem d_hash_382 : decode b_hash 382 = .ok (.goto (-161), 3) := by decide +kernel
theorem d_hash_385 : decode b_hash 385 = .ok (.aload_n 0, 1) := by decide +kernel
theorem d_hash_386 : decode b_hash 386 = .ok (.getfield 22, 3) := by decide +kernel
theorem d_hash_389 : decode b_hash 389 = .ok (.iconst 0, 1) := by decide +kernel
theorem d_hash_390 : decode b_hash 390 = .ok (.dup2, 1) := by decide +kernel
theorem d_hash_391 : decode b_hash 391 = .ok (.iaload, 1) := by decide +kernel
theorem d_hash_392 : decode b_hash 392 = .ok (.iload_n 2, 1) := by decide +kernel
theorem d_hash_393 : decode b_hash 393 = .ok (.iadd, 1) := by decide +kernel
theorem d_hash_394 : decode b_hash 394 = .ok (.iastore, 1) := by decide +kernel
theorem d_hash_395 : decode b_hash 395 = .ok (.aload_n 0, 1) := by decide +kernel
theorem d_hash_396 : decode b_hash 396 = .ok (.getfield 22, 3) := by decide +kernel
theorem d_hash_399 : decode b_hash 399 = .ok (.iconst 1, 1) := by decide +kernel
theorem d_hash_400 : decode b_hash 400 = .ok (.dup2, 1) := by decide +kernel
theorem d_hash_401 : decode b_hash 401 = .ok (.iaload, 1) := by decide +kernel
theorem d_hash_402 : decode b_hash 402 = .ok (.iload_n 3, 1) := by decide +kernel
theorem d_hash_403 : decode b_hash 403 = .ok (.iadd, 1) := by decide +kernel
theorem d_hash_404 : decode b_hash 404 = .ok (.iastore, 1) := by decide +kernel
theorem d_hash_405 : decode b_hash 405 = .ok (.aload_n 0, 1) := by decide +kernel
theorem d_hash_406 : decode b_hash 406 = .ok (.getfield 22, 3) := by decide +kernel
theorem d_hash_409 : decode b_hash 409 = .ok (.iconst 2, 1) := by decide +kernel
theorem d_hash_410 : decode b_hash 410 = .ok (.dup2, 1) := by decide +kernel
theorem d_hash_411 : decode b_hash 411 = .ok (.iaload, 1) := by decide +kernel
theorem d_hash_412 : decode b_hash 412 = .ok (.iload 4, 2) := by decide +kernel
theorem d_hash_414 : decode b_hash 414 = .ok (.iadd, 1) := by decide +kernel
theorem d_hash_415 : decode b_hash 415 = .ok (.iastore, 1) := by decide +kernel
theorem d_hash_416 : decode b_hash 416 = .ok (.aload_n 0, 1) := by decide +kernel
theorem d_hash_417 : decode b_hash 417 = .ok (.getfield 22, 3) := by decide +kernel
theorem d_hash_420 : decode b_hash 420 = .ok (.iconst 3, 1) := by decide +kernel
theorem d_hash_421 : decode b_hash 421 = .ok (.dup2, 1) := by decide +kernel
theorem d_hash_422 : decode b_hash 422 = .ok (.iaload, 1) := by decide +kernel
theorem d_hash_423 : decode b_hash 423 = .ok (.iload 5, 2) := by decide +kernel
theorem d_hash_425 : decode b_hash 425 = .ok (.iadd, 1) := by decide +kernel
theorem d_hash_426 : decode b_hash 426 = .ok (.iastore, 1) := by decide +kernel
theorem d_hash_427 : decode b_hash 427 = .ok (.aload_n 0, 1) := by decide +kernel
theorem d_hash_428 : decode b_hash 428 = .ok (.getfield 22, 3) := by decide +kernel
theorem d_hash_431 : decode b_hash 431 = .ok (.iconst 4, 1) := by decide +kernel
theorem d_hash_432 : decode b_hash 432 = .ok (.dup2, 1) := by decide +kernel
theorem d_hash_433 : decode b_hash 433 = .ok (.iaload, 1) := by decide +kernel
theorem d_hash_434 : decode b_hash 434 = .ok (.iload 6, 2) := by decide +kernel
theorem d_hash_436 : decode b_hash 436 = .ok (.iadd, 1) := by decide +kernel
theorem d_hash_437 : decode b_hash 437 = .ok (.iastore, 1) := by decide +kernel
theorem d_hash_438 : decode b_hash 438 = .ok (.return_, 1) := by decide +kernel
theorem cn_364 : Cond.constant R_M 364 (1518500249) ∈ lw_tg := in_t 1821 (by decide +kernel)
theorem cn_365 : Cond.constant R_M 365 (1859775393) ∈ lw_tg := in_t 1822 (by decide +kernel)
theorem cn_366 : Cond.constant R_M 366 (-1894007588) ∈ lw_tg := in_t 1823 (by decide +kernel)
theorem cn_367 : Cond.constant R_M 367 (-899497514) ∈ lw_tg := in_t 1824 (by decide +kernel)
theorem kx_hash : Cond.selects R_M y_hash y_hash ∈ lw_tg := List.mem_filter.mpr ⟨List.mem_append_left _ (List.mem_of_getElem? (i := 82) (by decide +kernel)), rfl⟩
theorem hd_hash : y_hash.cls = R_M ∧ y_hash.cls ≠ "java/lang/invoke/MethodHandle" ∧ y_hash.cls ≠ "java/lang/invoke/VarHandle" ∧ (parseMethodDescriptor y_hash.desc).map (fun d => d.parameters.length) = some 1 := by decide +kernel
set_option maxHeartbeats 4000000 in
set_option maxRecDepth 100000 in
theorem c_begin2 (l : Launch) (D : mD) (E : mE) (h : Nat) (q : Nat → Nat) (sz : Nat) (I : Nat → Int32) (J : Nat → Int64) (B : Nat → Nat → Int32) (G : Nat → Nat → Int64)  : Met l y_begin (k_begin :: lw_tg) (mR 0 0) (va_Pc [.ref h] (mPre D E h q (I, J, B, G) sz)) (va_Qv (fun (u : mS) => (∀ j, j ≠ 8 → u.1 j = I j) ∧ u.2.1 = J ∧ (∀ j, j ≠ 5 → u.2.2.1 j = B j) ∧ u.2.2.2 = G ∧ u.1 8 = nI (0)) (mPost D E h q (mA E h q sz)) (mA E h q sz)) 0 0 (mA E h q sz) := by
  refine m_enter (by decide) rfl (Nat.le_of_ble_eq_true rfl) (fun p e s m below meth c ls AV QQ H locs hQQ X Y hZ hA hr hlk hml hl => ?_)
  have Y : mH D E (mA E h q sz) s.heap h q I J B G H locs := Y
  have hl : lv_has ls 1 [(0, .ref h)] := hl
  refine lv_aload_n X.1 X.2.1 d_begin_0 rfl (lv_at hl 0 rfl) ?_
  refine m_get X Y 5 (by decide) lk_h (gf_h _ _ _) rfl d_begin_1 ?_
  refine lv_iconst (v := (nI 0)) X.1 X.2.1 d_begin_4 (by decide) ?_
  refine lv_ldcw (v := (1732584193)) X.1 X.2.1 X.2.2.2.1 (X.2.2.1 _ cn_352) d_begin_5 ?_
  refine t_eq (y := nI 1732584193) (by decide) ?_
  refine m_iast X Y (aw_h _ _ _ _ _ _ _) (vp_in_nI (by omega) (by decide)) (sw_h _ _ _ _ _ _ _ _) d_begin_8 (fun H locs Y => ?_)
  generalize (upd (B 5) ((nI 0)).toNatClampNeg (nI 1732584193)) = f1 at Y
  refine lv_aload_n X.1 X.2.1 d_begin_9 rfl (lv_at hl 0 rfl) ?_
  refine m_get X Y 5 (by decide) lk_h (gf_h _ _ _) rfl d_begin_10 ?_
  refine lv_iconst (v := (nI 1)) X.1 X.2.1 d_begin_13 (by decide) ?_
  refine lv_ldcw (v := (-271733879)) X.1 X.2.1 X.2.2.2.1 (X.2.2.1 _ cn_353) d_begin_14 ?_
  refine m_iast X Y (aw_h _ _ _ _ _ _ _) (vp_in_nI (by omega) (by decide)) (sw_h _ _ _ _ _ _ _ _) d_begin_17 (fun H locs Y => ?_)
  generalize (upd ((upB B 5 f1) 5) ((nI 1)).toNatClampNeg (-271733879)) = f2 at Y
  refine lv_aload_n X.1 X.2.1 d_begin_18 rfl (lv_at hl 0 rfl) ?_
  refine m_get X Y 5 (by decide) lk_h (gf_h _ _ _) rfl d_begin_19 ?_
  refine lv_iconst (v := (nI 2)) X.1 X.2.1 d_begin_22 (by decide) ?_
  refine lv_ldcw (v := (-1732584194)) X.1 X.2.1 X.2.2.2.1 (X.2.2.1 _ cn_354) d_begin_23 ?_
  refine m_iast X Y (aw_h _ _ _ _ _ _ _) (vp_in_nI (by omega) (by decide)) (sw_h _ _ _ _ _ _ _ _) d_begin_26 (fun H locs Y => ?_)
  generalize (upd ((upB (upB B 5 f1) 5 f2) 5) ((nI 2)).toNatClampNeg (-1732584194)) = f3 at Y
  refine lv_aload_n X.1 X.2.1 d_begin_27 rfl (lv_at hl 0 rfl) ?_
  refine m_get X Y 5 (by decide) lk_h (gf_h _ _ _) rfl d_begin_28 ?_
  refine lv_iconst (v := (nI 3)) X.1 X.2.1 d_begin_31 (by decide) ?_
  refine lv_ldcw (v := (271733878)) X.1 X.2.1 X.2.2.2.1 (X.2.2.1 _ cn_355) d_begin_32 ?_
  refine t_eq (y := nI 271733878) (by decide) ?_
  refine m_iast X Y (aw_h _ _ _ _ _ _ _) (vp_in_nI (by omega) (by decide)) (sw_h _ _ _ _ _ _ _ _) d_begin_35 (fun H locs Y => ?_)
  generalize (upd ((upB (upB (upB B 5 f1) 5 f2) 5 f3) 5) ((nI 3)).toNatClampNeg (nI 271733878)) = f4 at Y
  refine lv_aload_n X.1 X.2.1 d_begin_36 rfl (lv_at hl 0 rfl) ?_
  refine m_get X Y 5 (by decide) lk_h (gf_h _ _ _) rfl d_begin_37 ?_
  refine lv_iconst (v := (nI 4)) X.1 X.2.1 d_begin_40 (by decide) ?_
  refine lv_ldcw (v := (-1009589776)) X.1 X.2.1 X.2.2.2.1 (X.2.2.1 _ cn_356) d_begin_41 ?_
  refine m_iast X Y (aw_h _ _ _ _ _ _ _) (vp_in_nI (by omega) (by decide)) (sw_h _ _ _ _ _ _ _ _) d_begin_44 (fun H locs Y => ?_)
  generalize (upd ((upB (upB (upB (upB B 5 f1) 5 f2) 5 f3) 5 f4) 5) ((nI 4)).toNatClampNeg (-1009589776)) = f5 at Y
  refine lv_aload_n X.1 X.2.1 d_begin_45 rfl (lv_at hl 0 rfl) ?_
  refine lv_iconst (v := (nI 0)) X.1 X.2.1 d_begin_46 (by decide) ?_
  refine m_puti X Y 8 (by decide) lk_hashed rfl rfl (t_M_ok 8 (by decide)) rfl rfl (sf_hashed _ _ _ _) (Nat.le_of_ble_eq_true rfl) d_begin_47 (fun H locs Y => ?_)
  exact m_retv hQQ X Y hr hlk ⟨(fun j h8 => ((if_neg h8).trans rfl)), rfl, (fun j h5 => ((if_neg h5).trans ((if_neg h5).trans ((if_neg h5).trans ((if_neg h5).trans ((if_neg h5).trans rfl)))))), rfl, (show (upd I 8 (nI 0)) 8 = nI (0) from (show (upd I 8 (nI 0)) 8 = nI (0) from pk_us).trans (congrArg nI (show (0 : Nat) = 0 by omega)))⟩ d_begin_50
set_option maxHeartbeats 4000000 in
set_option maxRecDepth 100000 in
theorem c_hash (l : Launch) (D : mD) (E : mE) (h : Nat) (q : Nat → Nat) (sz : Nat) (I : Nat → Int32) (J : Nat → Int64) (B : Nat → Nat → Int32) (G : Nat → Nat → Int64) (a1 : Int32) (k : Nat) (hk : I 8 = nI k) (hk2 : k < 1000000000) : Met l y_hash (k_hash :: lw_tg) (mR 1 21) (va_Pc [.ref h, .int a1] (mPre D E h q (I, J, B, G) sz)) (va_Qv (fun (u : mS) => (∀ j, j ≠ 8 → u.1 j = I j) ∧ u.2.1 = J ∧ (∀ j, j ≠ 5 → j ≠ 6 → j ≠ 7 → u.2.2.1 j = B j) ∧ u.2.2.2 = G ∧ u.1 8 = nI (k + 1)) (mPost D E h q (mA E h q sz)) (mA E h q sz)) 0 0 (mA E h q sz) := by
  refine m_enter (by decide) rfl (Nat.le_of_ble_eq_true rfl) (fun p e s m below meth c ls AV QQ H locs hQQ X Y hZ hA hr hlk hml hl => ?_)
  have Y : mH D E (mA E h q sz) s.heap h q I J B G H locs := Y
  have hl : lv_has ls 11 [(0, .ref h), (1, .int a1)] := hl
  refine lv_aload_n X.1 X.2.1 d_hash_0 rfl (lv_at hl 0 rfl) ?_
  refine m_get X Y 7 (by decide) lk_block (gf_block _ _ _) rfl d_hash_1 ?_
  refine lv_aload_n X.1 X.2.1 d_hash_4 rfl (lv_at hl 0 rfl) ?_
  refine m_get X Y 8 (by decide) lk_hashed (gf_hashed _ _ _) rfl d_hash_5 ?_
  refine t_eq (show I 8 = nI (k) from hk) ?_
  refine lv_bipush (v := (nI 64)) X.1 X.2.1 d_hash_8 (by decide) ?_
  refine lv_irem X.1 X.2.1 d_hash_10 (nI_ne0 (by omega) (by omega)) ?_
  refine t_eq (y := nI ((k) % (64))) (pk_rem (by omega) (by omega) (by omega)) ?_
  refine lv_iload_n X.1 X.2.1 d_hash_11 rfl (lv_at hl 1 rfl) ?_
  obtain ⟨v1, ev1⟩ : ∃ z : Int32, (a1 : Int32).toInt8.toInt32 = z := ⟨_, rfl⟩
  refine lv_i2b (v := v1) X.1 X.2.1 d_hash_12 ev1 ?_
  refine m_bast X Y (aw_block _ _ _ _ _ _ _) (vp_in_nI (by omega) (by decide)) (sw_block _ _ _ _ _ _ _ _) d_hash_13 (fun H locs Y => ?_)
  generalize (upd (B 7) ((nI ((k) % (64)))).toNatClampNeg (vp_nar .byte v1)) = f2 at Y
  refine lv_aload_n X.1 X.2.1 d_hash_14 rfl (lv_at hl 0 rfl) ?_
  refine lv_dup X.1 X.2.1 d_hash_15 rfl ?_
  refine m_get X Y 8 (by decide) lk_hashed (gf_hashed _ _ _) rfl d_hash_16 ?_
  refine t_eq (show I 8 = nI (k) from hk) ?_
  refine lv_iconst (v := (nI 1)) X.1 X.2.1 d_hash_19 (by decide) ?_
  refine lv_iadd X.1 X.2.1 d_hash_20 ?_
  refine t_eq (y := nI (k + 1)) (nI_add _ _) ?_
  refine m_puti X Y 8 (by decide) lk_hashed rfl rfl (t_M_ok 8 (by decide)) rfl rfl (sf_hashed _ _ _ _) (Nat.le_of_ble_eq_true rfl) d_hash_21 (fun H locs Y => ?_)
  refine lv_aload_n X.1 X.2.1 d_hash_24 rfl (lv_at hl 0 rfl) ?_
  refine m_get X Y 8 (by decide) lk_hashed (gf_hashed _ _ _) rfl d_hash_25 ?_
  refine t_eq (show (upd I 8 (nI (k + 1))) 8 = nI (k + 1) from pk_us) ?_
  refine lv_bipush (v := (nI 64)) X.1 X.2.1 d_hash_28 (by decide) ?_
  refine lv_irem X.1 X.2.1 d_hash_30 (nI_ne0 (by omega) (by omega)) ?_
  refine t_eq (y := nI ((k + 1) % (64))) (pk_rem (by omega) (by omega) (by omega)) ?_
  refine lv_if_eq (tgt := 35) X.1 X.2.1 d_hash_31 (by decide) (fun c3 => ?_) (fun c3 => ?_)
  · skip
    rw [← nI_0] at c3
    rw [nI_eq (by omega) (by omega)] at c3
    refine lv_iconst (v := (nI 0)) X.1 X.2.1 d_hash_35 (by decide) ?_
    refine lv_istore_n (lv' := [(2, .int (nI 0)), (0, .ref h), (1, .int a1)]) X.1 X.2.1 d_hash_36 rfl hl (by decide) rfl (fun ls hl => ?_)
    have lp7 : ∀ (n4 i5 : Nat) (B8 : Nat → Nat → Int32) (H : Heap) (locs : List Loc) (ls : Array Slot), i5 + n4 = 16 → 0 ≤ i5 → (∀ j, j ≠ 5 → j ≠ 6 → j ≠ 7 → B8 j = B j) → mH D E (mA E h q sz) s.heap h q (upd I 8 (nI (k + 1))) J B8 G H locs → lv_has ls 11 [(2, .int (nI i5)), (0, .ref h), (1, .int a1)] → W p l e (mR 1 21) s m AV below meth c H locs 0 0 QQ (F0 m 37 ls []) := by
      intro n4
      induction n4 with
      | zero =>
        intro i5 B8 H locs ls hii5 hsi5 hB9  Y hl
        refine lv_iload_n X.1 X.2.1 d_hash_37 rfl (lv_at hl 0 rfl) ?_
        refine lv_bipush (v := (nI 16)) X.1 X.2.1 d_hash_38 (by decide) ?_
        refine lv_icmp_ge (tgt := 117) X.1 X.2.1 d_hash_40 (by decide) (fun c10 => ?_) (fun c10 => absurd ?_ c10)
        rotate_left
        · (rw [nI_leI (by omega) (by omega)] <;> omega)
        rw [nI_leI (by omega) (by omega)] at c10
        refine lv_bipush (v := (nI 16)) X.1 X.2.1 d_hash_117 (by decide) ?_
        refine lv_istore_n (lv' := [(2, .int (nI 16)), (0, .ref h), (1, .int a1)]) X.1 X.2.1 d_hash_119 rfl hl (by decide) rfl (fun ls hl => ?_)
        have lp14 : ∀ (n11 i12 : Nat) (B15 : Nat → Nat → Int32) (H : Heap) (locs : List Loc) (ls : Array Slot), i12 + n11 = 80 → 16 ≤ i12 → (∀ j, j ≠ 5 → j ≠ 6 → j ≠ 7 → B15 j = B j) → mH D E (mA E h q sz) s.heap h q (upd I 8 (nI (k + 1))) J B15 G H locs → lv_has ls 11 [(2, .int (nI i12)), (0, .ref h), (1, .int a1)] → W p l e (mR 1 21) s m AV below meth c H locs 0 0 QQ (F0 m 120 ls []) := by
          intro n11
          induction n11 with
          | zero =>
            intro i12 B15 H locs ls hii12 hsi12 hB16  Y hl
            refine lv_iload_n X.1 X.2.1 d_hash_120 rfl (lv_at hl 0 rfl) ?_
            refine lv_bipush (v := (nI 80)) X.1 X.2.1 d_hash_121 (by decide) ?_
            refine lv_icmp_ge (tgt := 180) X.1 X.2.1 d_hash_123 (by decide) (fun c17 => ?_) (fun c17 => absurd ?_ c17)
            rotate_left
            · (rw [nI_leI (by omega) (by omega)] <;> omega)
            rw [nI_leI (by omega) (by omega)] at c17
            refine lv_aload_n X.1 X.2.1 d_hash_180 rfl (lv_at hl 1 rfl) ?_
            refine m_get X Y 5 (by decide) lk_h (gf_h _ _ _) rfl d_hash_181 ?_
            refine lv_iconst (v := (nI 0)) X.1 X.2.1 d_hash_184 (by decide) ?_
            refine m_iald X Y (aw_h _ _ _ _ _ _ _) (vp_in_nI (by omega) (by decide)) d_hash_185 ?_
            refine t_any (fun v18 => ?_)
            refine lv_istore_n (lv' := [(2, .int v18), (0, .ref h), (1, .int a1)]) X.1 X.2.1 d_hash_186 rfl hl (by decide) rfl (fun ls hl => ?_)
            refine lv_aload_n X.1 X.2.1 d_hash_187 rfl (lv_at hl 1 rfl) ?_
            refine m_get X Y 5 (by decide) lk_h (gf_h _ _ _) rfl d_hash_188 ?_
            refine lv_iconst (v := (nI 1)) X.1 X.2.1 d_hash_191 (by decide) ?_
            refine m_iald X Y (aw_h _ _ _ _ _ _ _) (vp_in_nI (by omega) (by decide)) d_hash_192 ?_
            refine t_any (fun v19 => ?_)
            refine lv_istore_n (lv' := [(3, .int v19), (2, .int v18), (0, .ref h), (1, .int a1)]) X.1 X.2.1 d_hash_193 rfl hl (by decide) rfl (fun ls hl => ?_)
            refine lv_aload_n X.1 X.2.1 d_hash_194 rfl (lv_at hl 2 rfl) ?_
            refine m_get X Y 5 (by decide) lk_h (gf_h _ _ _) rfl d_hash_195 ?_
            refine lv_iconst (v := (nI 2)) X.1 X.2.1 d_hash_198 (by decide) ?_
            refine m_iald X Y (aw_h _ _ _ _ _ _ _) (vp_in_nI (by omega) (by decide)) d_hash_199 ?_
            refine t_any (fun v20 => ?_)
            refine lv_istore (lv' := [(4, .int v20), (3, .int v19), (2, .int v18), (0, .ref h), (1, .int a1)]) X.1 X.2.1 d_hash_200 hl (by decide) rfl (fun ls hl => ?_)
            refine lv_aload_n X.1 X.2.1 d_hash_202 rfl (lv_at hl 3 rfl) ?_
            refine m_get X Y 5 (by decide) lk_h (gf_h _ _ _) rfl d_hash_203 ?_
            refine lv_iconst (v := (nI 3)) X.1 X.2.1 d_hash_206 (by decide) ?_
            refine m_iald X Y (aw_h _ _ _ _ _ _ _) (vp_in_nI (by omega) (by decide)) d_hash_207 ?_
            refine t_any (fun v21 => ?_)
            refine lv_istore (lv' := [(5, .int v21), (4, .int v20), (3, .int v19), (2, .int v18), (0, .ref h), (1, .int a1)]) X.1 X.2.1 d_hash_208 hl (by decide) rfl (fun ls hl => ?_)
            refine lv_aload_n X.1 X.2.1 d_hash_210 rfl (lv_at hl 4 rfl) ?_
            refine m_get X Y 5 (by decide) lk_h (gf_h _ _ _) rfl d_hash_211 ?_
            refine lv_iconst (v := (nI 4)) X.1 X.2.1 d_hash_214 (by decide) ?_
            refine m_iald X Y (aw_h _ _ _ _ _ _ _) (vp_in_nI (by omega) (by decide)) d_hash_215 ?_
            refine t_any (fun v22 => ?_)
            refine lv_istore (lv' := [(6, .int v22), (5, .int v21), (4, .int v20), (3, .int v19), (2, .int v18), (0, .ref h), (1, .int a1)]) X.1 X.2.1 d_hash_216 hl (by decide) rfl (fun ls hl => ?_)
            refine lv_iconst (v := (nI 0)) X.1 X.2.1 d_hash_218 (by decide) ?_
            refine lv_istore (lv' := [(7, .int (nI 0)), (6, .int v22), (5, .int v21), (4, .int v20), (3, .int v19), (2, .int v18), (0, .ref h), (1, .int a1)]) X.1 X.2.1 d_hash_219 hl (by decide) rfl (fun ls hl => ?_)
            have lp26 : ∀ (n23 i24 : Nat) (B27 : Nat → Nat → Int32) (x28 : Int32) (x29 : Int32) (x30 : Int32) (x31 : Int32) (x32 : Int32) (H : Heap) (locs : List Loc) (ls : Array Slot), i24 + n23 = 80 → 0 ≤ i24 → (∀ j, j ≠ 5 → j ≠ 6 → j ≠ 7 → B27 j = B j) → mH D E (mA E h q sz) s.heap h q (upd I 8 (nI (k + 1))) J B27 G H locs → lv_has ls 11 [(7, .int (nI i24)), (6, .int x32), (5, .int x31), (4, .int x30), (3, .int x29), (2, .int x28), (0, .ref h), (1, .int a1)] → W p l e (mR 1 21) s m AV below meth c H locs 0 0 QQ (F0 m 221 ls []) := by
              intro n23
              induction n23 with
              | zero =>
                intro i24 B27 x28 x29 x30 x31 x32 H locs ls hii24 hsi24 hB33  Y hl
                refine lv_iload X.1 X.2.1 d_hash_221 (lv_at hl 0 rfl) ?_
                refine lv_bipush (v := (nI 80)) X.1 X.2.1 d_hash_223 (by decide) ?_
                refine lv_icmp_ge (tgt := 385) X.1 X.2.1 d_hash_225 (by decide) (fun c34 => ?_) (fun c34 => absurd ?_ c34)
                rotate_left
                · (rw [nI_leI (by omega) (by omega)] <;> omega)
                rw [nI_leI (by omega) (by omega)] at c34
                refine lv_aload_n X.1 X.2.1 d_hash_385 rfl (lv_at hl 6 rfl) ?_
                refine m_get X Y 5 (by decide) lk_h (gf_h _ _ _) rfl d_hash_386 ?_
                refine lv_iconst (v := (nI 0)) X.1 X.2.1 d_hash_389 (by decide) ?_
                refine lv_dup2_11 X.1 X.2.1 d_hash_390 rfl rfl ?_
                refine m_iald X Y (aw_h _ _ _ _ _ _ _) (vp_in_nI (by omega) (by decide)) d_hash_391 ?_
                refine t_any (fun v35 => ?_)
                refine lv_iload_n X.1 X.2.1 d_hash_392 rfl (lv_at hl 5 rfl) ?_
                refine lv_iadd X.1 X.2.1 d_hash_393 ?_
                refine t_any (fun v36 => ?_)
                refine m_iast X Y (aw_h _ _ _ _ _ _ _) (vp_in_nI (by omega) (by decide)) (sw_h _ _ _ _ _ _ _ _) d_hash_394 (fun H locs Y => ?_)
                generalize (upd (B27 5) ((nI 0)).toNatClampNeg v36) = f37 at Y
                refine lv_aload_n X.1 X.2.1 d_hash_395 rfl (lv_at hl 6 rfl) ?_
                refine m_get X Y 5 (by decide) lk_h (gf_h _ _ _) rfl d_hash_396 ?_
                refine lv_iconst (v := (nI 1)) X.1 X.2.1 d_hash_399 (by decide) ?_
                refine lv_dup2_11 X.1 X.2.1 d_hash_400 rfl rfl ?_
                refine m_iald X Y (aw_h _ _ _ _ _ _ _) (vp_in_nI (by omega) (by decide)) d_hash_401 ?_
                refine t_any (fun v38 => ?_)
                refine lv_iload_n X.1 X.2.1 d_hash_402 rfl (lv_at hl 4 rfl) ?_
                refine lv_iadd X.1 X.2.1 d_hash_403 ?_
                refine t_any (fun v39 => ?_)
                refine m_iast X Y (aw_h _ _ _ _ _ _ _) (vp_in_nI (by omega) (by decide)) (sw_h _ _ _ _ _ _ _ _) d_hash_404 (fun H locs Y => ?_)
                generalize (upd ((upB B27 5 f37) 5) ((nI 1)).toNatClampNeg v39) = f40 at Y
                refine lv_aload_n X.1 X.2.1 d_hash_405 rfl (lv_at hl 6 rfl) ?_
                refine m_get X Y 5 (by decide) lk_h (gf_h _ _ _) rfl d_hash_406 ?_
                refine lv_iconst (v := (nI 2)) X.1 X.2.1 d_hash_409 (by decide) ?_
                refine lv_dup2_11 X.1 X.2.1 d_hash_410 rfl rfl ?_
                refine m_iald X Y (aw_h _ _ _ _ _ _ _) (vp_in_nI (by omega) (by decide)) d_hash_411 ?_
                refine t_any (fun v41 => ?_)
                refine lv_iload X.1 X.2.1 d_hash_412 (lv_at hl 3 rfl) ?_
                refine lv_iadd X.1 X.2.1 d_hash_414 ?_
                refine t_any (fun v42 => ?_)
                refine m_iast X Y (aw_h _ _ _ _ _ _ _) (vp_in_nI (by omega) (by decide)) (sw_h _ _ _ _ _ _ _ _) d_hash_415 (fun H locs Y => ?_)
                generalize (upd ((upB (upB B27 5 f37) 5 f40) 5) ((nI 2)).toNatClampNeg v42) = f43 at Y
                refine lv_aload_n X.1 X.2.1 d_hash_416 rfl (lv_at hl 6 rfl) ?_
                refine m_get X Y 5 (by decide) lk_h (gf_h _ _ _) rfl d_hash_417 ?_
                refine lv_iconst (v := (nI 3)) X.1 X.2.1 d_hash_420 (by decide) ?_
                refine lv_dup2_11 X.1 X.2.1 d_hash_421 rfl rfl ?_
                refine m_iald X Y (aw_h _ _ _ _ _ _ _) (vp_in_nI (by omega) (by decide)) d_hash_422 ?_
                refine t_any (fun v44 => ?_)
                refine lv_iload X.1 X.2.1 d_hash_423 (lv_at hl 2 rfl) ?_
                refine lv_iadd X.1 X.2.1 d_hash_425 ?_
                refine t_any (fun v45 => ?_)
                refine m_iast X Y (aw_h _ _ _ _ _ _ _) (vp_in_nI (by omega) (by decide)) (sw_h _ _ _ _ _ _ _ _) d_hash_426 (fun H locs Y => ?_)
                generalize (upd ((upB (upB (upB B27 5 f37) 5 f40) 5 f43) 5) ((nI 3)).toNatClampNeg v45) = f46 at Y
                refine lv_aload_n X.1 X.2.1 d_hash_427 rfl (lv_at hl 6 rfl) ?_
                refine m_get X Y 5 (by decide) lk_h (gf_h _ _ _) rfl d_hash_428 ?_
                refine lv_iconst (v := (nI 4)) X.1 X.2.1 d_hash_431 (by decide) ?_
                refine lv_dup2_11 X.1 X.2.1 d_hash_432 rfl rfl ?_
                refine m_iald X Y (aw_h _ _ _ _ _ _ _) (vp_in_nI (by omega) (by decide)) d_hash_433 ?_
                refine t_any (fun v47 => ?_)
                refine lv_iload X.1 X.2.1 d_hash_434 (lv_at hl 1 rfl) ?_
                refine lv_iadd X.1 X.2.1 d_hash_436 ?_
                refine t_any (fun v48 => ?_)
                refine m_iast X Y (aw_h _ _ _ _ _ _ _) (vp_in_nI (by omega) (by decide)) (sw_h _ _ _ _ _ _ _ _) d_hash_437 (fun H locs Y => ?_)
                generalize (upd ((upB (upB (upB (upB B27 5 f37) 5 f40) 5 f43) 5 f46) 5) ((nI 4)).toNatClampNeg v48) = f49 at Y
                exact m_retv hQQ X Y hr hlk ⟨(fun j h8 => ((if_neg h8).trans rfl)), rfl, (fun j h5 h6 h7 => ((if_neg h5).trans ((if_neg h5).trans ((if_neg h5).trans ((if_neg h5).trans ((if_neg h5).trans (hB33 j h5 h6 h7))))))), rfl, (show (upd I 8 (nI (k + 1))) 8 = nI (k + 1) from (show (upd I 8 (nI (k + 1))) 8 = nI (k + 1) from pk_us).trans (congrArg nI (show (k + 1 : Nat) = k + 1 by omega)))⟩ d_hash_438
              | succ n23 ih25 =>
                intro i24 B27 x28 x29 x30 x31 x32 H locs ls hii24 hsi24 hB33  Y hl
                refine lv_iload X.1 X.2.1 d_hash_221 (lv_at hl 0 rfl) ?_
                refine lv_bipush (v := (nI 80)) X.1 X.2.1 d_hash_223 (by decide) ?_
                refine lv_icmp_ge (tgt := 385) X.1 X.2.1 d_hash_225 (by decide) (fun c50 => absurd c50 ?_) (fun c50 => ?_)
                · (rw [nI_leI (by omega) (by omega)] <;> omega)
                rw [nI_leI (by omega) (by omega)] at c50
                have jn52 : ∀ w51 : Int32, W p l e (mR 1 21) s m AV below meth c H locs 0 0 QQ (F0 m 288 ls [.int w51]) := by
                  intro w51
                  refine lv_istore (lv' := [(8, .int w51), (7, .int (nI i24)), (6, .int x32), (5, .int x31), (4, .int x30), (3, .int x29), (2, .int x28), (0, .ref h), (1, .int a1)]) X.1 X.2.1 d_hash_288 hl (by decide) rfl (fun ls hl => ?_)
                  have jn54 : ∀ w53 : Int32, W p l e (mR 1 21) s m AV below meth c H locs 0 0 QQ (F0 m 332 ls [.int w53]) := by
                    intro w53
                    refine lv_istore (lv' := [(9, .int w53), (8, .int w51), (7, .int (nI i24)), (6, .int x32), (5, .int x31), (4, .int x30), (3, .int x29), (2, .int x28), (0, .ref h), (1, .int a1)]) X.1 X.2.1 d_hash_332 hl (by decide) rfl (fun ls hl => ?_)
                    refine lv_iload_n X.1 X.2.1 d_hash_334 rfl (lv_at hl 7 rfl) ?_
                    refine lv_iconst (v := (nI 5)) X.1 X.2.1 d_hash_335 (by decide) ?_
                    refine p_calli (As := [.int x28, .int (nI 5)]) (rest := []) (n := 2) X Y hml hl.1 (c_left l x28 (nI 5)) kl_left ks_left ki_left ini_M (by decide +kernel) ⟨by decide, by decide⟩ rfl (Nat.le_of_ble_eq_true rfl) d_hash_336 ⟨Nat.le_refl _, Nat.le_refl _⟩ (fun r55 H locs hpr55 Y => ?_)
                    refine lv_iload X.1 X.2.1 d_hash_339 (lv_at hl 1 rfl) ?_
                    refine lv_iadd X.1 X.2.1 d_hash_341 ?_
                    refine t_any (fun v56 => ?_)
                    refine lv_iload X.1 X.2.1 d_hash_342 (lv_at hl 3 rfl) ?_
                    refine lv_iadd X.1 X.2.1 d_hash_344 ?_
                    refine t_any (fun v57 => ?_)
                    refine lv_iload X.1 X.2.1 d_hash_345 (lv_at hl 0 rfl) ?_
                    refine lv_iadd X.1 X.2.1 d_hash_347 ?_
                    refine t_any (fun v58 => ?_)
                    refine lv_aload_n X.1 X.2.1 d_hash_348 rfl (lv_at hl 8 rfl) ?_
                    refine m_get X Y 6 (by decide) lk_w (gf_w _ _ _) rfl d_hash_349 ?_
                    refine lv_iload X.1 X.2.1 d_hash_352 (lv_at hl 2 rfl) ?_
                    refine m_iald X Y (aw_w _ _ _ _ _ _ _) (vp_in_nI (by omega) (by decide)) d_hash_354 ?_
                    refine t_any (fun v59 => ?_)
                    refine lv_iadd X.1 X.2.1 d_hash_355 ?_
                    refine t_any (fun v60 => ?_)
                    refine lv_istore (lv' := [(10, .int v60), (9, .int w53), (8, .int w51), (7, .int (nI i24)), (6, .int x32), (5, .int x31), (4, .int x30), (3, .int x29), (2, .int x28), (0, .ref h), (1, .int a1)]) X.1 X.2.1 d_hash_356 hl (by decide) rfl (fun ls hl => ?_)
                    refine lv_iload X.1 X.2.1 d_hash_358 (lv_at hl 5 rfl) ?_
                    refine lv_istore (lv' := [(6, .int x31), (10, .int v60), (9, .int w53), (8, .int w51), (7, .int (nI i24)), (5, .int x31), (4, .int x30), (3, .int x29), (2, .int x28), (0, .ref h), (1, .int a1)]) X.1 X.2.1 d_hash_360 hl (by decide) rfl (fun ls hl => ?_)
                    refine lv_iload X.1 X.2.1 d_hash_362 (lv_at hl 6 rfl) ?_
                    refine lv_istore (lv' := [(5, .int x30), (6, .int x31), (10, .int v60), (9, .int w53), (8, .int w51), (7, .int (nI i24)), (4, .int x30), (3, .int x29), (2, .int x28), (0, .ref h), (1, .int a1)]) X.1 X.2.1 d_hash_364 hl (by decide) rfl (fun ls hl => ?_)
                    refine lv_iload_n X.1 X.2.1 d_hash_366 rfl (lv_at hl 7 rfl) ?_
                    refine lv_bipush (v := (nI 30)) X.1 X.2.1 d_hash_367 (by decide) ?_
                    refine p_calli (As := [.int x29, .int (nI 30)]) (rest := []) (n := 2) X Y hml hl.1 (c_left l x29 (nI 30)) kl_left ks_left ki_left ini_M (by decide +kernel) ⟨by decide, by decide⟩ rfl (Nat.le_of_ble_eq_true rfl) d_hash_369 ⟨Nat.le_refl _, Nat.le_refl _⟩ (fun r61 H locs hpr61 Y => ?_)
                    refine lv_istore (lv' := [(4, .int r61), (5, .int x30), (6, .int x31), (10, .int v60), (9, .int w53), (8, .int w51), (7, .int (nI i24)), (3, .int x29), (2, .int x28), (0, .ref h), (1, .int a1)]) X.1 X.2.1 d_hash_372 hl (by decide) rfl (fun ls hl => ?_)
                    refine lv_iload_n X.1 X.2.1 d_hash_374 rfl (lv_at hl 8 rfl) ?_
                    refine lv_istore_n (lv' := [(3, .int x28), (4, .int r61), (5, .int x30), (6, .int x31), (10, .int v60), (9, .int w53), (8, .int w51), (7, .int (nI i24)), (2, .int x28), (0, .ref h), (1, .int a1)]) X.1 X.2.1 d_hash_375 rfl hl (by decide) rfl (fun ls hl => ?_)
                    refine lv_iload X.1 X.2.1 d_hash_376 (lv_at hl 4 rfl) ?_
                    refine lv_istore_n (lv' := [(2, .int v60), (3, .int x28), (4, .int r61), (5, .int x30), (6, .int x31), (10, .int v60), (9, .int w53), (8, .int w51), (7, .int (nI i24)), (0, .ref h), (1, .int a1)]) X.1 X.2.1 d_hash_378 rfl hl (by decide) rfl (fun ls hl => ?_)
                    refine lv_iinc (v := (nI (i24 + 1))) (lv' := [(7, .int (nI (i24 + 1))), (2, .int v60), (3, .int x28), (4, .int r61), (5, .int x30), (6, .int x31), (10, .int v60), (9, .int w53), (8, .int w51), (0, .ref h), (1, .int a1)]) X.1 X.2.1 d_hash_379 hl (k := 8) rfl (nI_add _ 1) (by decide) rfl (fun ls hl => ?_)
                    refine lv_goto (tgt := 221) X.1 X.2.1 d_hash_382 (by decide) ?_
                    exact ih25 (i24 + 1) B27 (v60) (x28) (r61) (x30) (x31) _ _ _ (by omega) (by omega) (fun j h5 h6 h7 => (hB33 j h5 h6 h7))  Y (lv_sub hl [0, 5, 4, 3, 2, 1, 9, 10] rfl)
                  refine lv_iload X.1 X.2.1 d_hash_290 (lv_at hl 1 rfl) ?_
                  refine lv_bipush (v := (nI 20)) X.1 X.2.1 d_hash_292 (by decide) ?_
                  refine lv_icmp_ge (tgt := 303) X.1 X.2.1 d_hash_294 (by decide) (fun c62 => ?_) (fun c62 => ?_)
                  · skip
                    rw [nI_leI (by omega) (by omega)] at c62
                    refine lv_iload X.1 X.2.1 d_hash_303 (lv_at hl 1 rfl) ?_
                    refine lv_bipush (v := (nI 40)) X.1 X.2.1 d_hash_305 (by decide) ?_
                    refine lv_icmp_ge (tgt := 316) X.1 X.2.1 d_hash_307 (by decide) (fun c63 => ?_) (fun c63 => ?_)
                    · skip
                      rw [nI_leI (by omega) (by omega)] at c63
                      refine lv_iload X.1 X.2.1 d_hash_316 (lv_at hl 1 rfl) ?_
                      refine lv_bipush (v := (nI 60)) X.1 X.2.1 d_hash_318 (by decide) ?_
                      refine lv_icmp_ge (tgt := 329) X.1 X.2.1 d_hash_320 (by decide) (fun c64 => ?_) (fun c64 => ?_)
                      · skip
                        rw [nI_leI (by omega) (by omega)] at c64
                        refine lv_ldcw (v := (-899497514)) X.1 X.2.1 X.2.2.2.1 (X.2.2.1 _ cn_367) d_hash_329 ?_
                        exact jn54 _
                      · skip
                        rw [nI_leI (by omega) (by omega)] at c64
                        refine lv_ldcw (v := (-1894007588)) X.1 X.2.1 X.2.2.2.1 (X.2.2.1 _ cn_366) d_hash_323 ?_
                        refine lv_goto (tgt := 332) X.1 X.2.1 d_hash_326 (by decide) ?_
                        exact jn54 _
                    · skip
                      rw [nI_leI (by omega) (by omega)] at c63
                      refine lv_ldcw (v := (1859775393)) X.1 X.2.1 X.2.2.2.1 (X.2.2.1 _ cn_365) d_hash_310 ?_
                      refine t_eq (y := nI 1859775393) (by decide) ?_
                      refine lv_goto (tgt := 332) X.1 X.2.1 d_hash_313 (by decide) ?_
                      exact jn54 _
                  · skip
                    rw [nI_leI (by omega) (by omega)] at c62
                    refine lv_ldcw (v := (1518500249)) X.1 X.2.1 X.2.2.2.1 (X.2.2.1 _ cn_364) d_hash_297 ?_
                    refine t_eq (y := nI 1518500249) (by decide) ?_
                    refine lv_goto (tgt := 332) X.1 X.2.1 d_hash_300 (by decide) ?_
                    exact jn54 _
                refine lv_iload X.1 X.2.1 d_hash_228 (lv_at hl 0 rfl) ?_
                refine lv_bipush (v := (nI 20)) X.1 X.2.1 d_hash_230 (by decide) ?_
                refine lv_icmp_ge (tgt := 249) X.1 X.2.1 d_hash_232 (by decide) (fun c65 => ?_) (fun c65 => ?_)
                · skip
                  rw [nI_leI (by omega) (by omega)] at c65
                  refine lv_iload X.1 X.2.1 d_hash_249 (lv_at hl 0 rfl) ?_
                  refine lv_bipush (v := (nI 40)) X.1 X.2.1 d_hash_251 (by decide) ?_
                  refine lv_icmp_lt (tgt := 263) X.1 X.2.1 d_hash_253 (by decide) (fun c66 => ?_) (fun c66 => ?_)
                  · skip
                    rw [nI_ltI (by omega) (by omega)] at c66
                    refine lv_iload_n X.1 X.2.1 d_hash_263 rfl (lv_at hl 4 rfl) ?_
                    refine lv_iload X.1 X.2.1 d_hash_264 (lv_at hl 3 rfl) ?_
                    refine lv_ixor X.1 X.2.1 d_hash_266 ?_
                    refine t_any (fun v67 => ?_)
                    refine lv_iload X.1 X.2.1 d_hash_267 (lv_at hl 2 rfl) ?_
                    refine lv_ixor X.1 X.2.1 d_hash_269 ?_
                    refine t_any (fun v68 => ?_)
                    refine lv_goto (tgt := 288) X.1 X.2.1 d_hash_270 (by decide) ?_
                    exact jn52 _
                  · skip
                    rw [nI_ltI (by omega) (by omega)] at c66
                    refine lv_iload X.1 X.2.1 d_hash_256 (lv_at hl 0 rfl) ?_
                    refine lv_bipush (v := (nI 59)) X.1 X.2.1 d_hash_258 (by decide) ?_
                    refine lv_icmp_le (tgt := 273) X.1 X.2.1 d_hash_260 (by decide) (fun c69 => ?_) (fun c69 => ?_)
                    · skip
                      rw [nI_leI (by omega) (by omega)] at c69
                      refine lv_iload_n X.1 X.2.1 d_hash_273 rfl (lv_at hl 4 rfl) ?_
                      refine lv_iload X.1 X.2.1 d_hash_274 (lv_at hl 3 rfl) ?_
                      refine lv_iand X.1 X.2.1 d_hash_276 ?_
                      refine t_any (fun v70 => ?_)
                      refine lv_iload_n X.1 X.2.1 d_hash_277 rfl (lv_at hl 4 rfl) ?_
                      refine lv_iload X.1 X.2.1 d_hash_278 (lv_at hl 2 rfl) ?_
                      refine lv_iand X.1 X.2.1 d_hash_280 ?_
                      refine t_any (fun v71 => ?_)
                      refine lv_ior X.1 X.2.1 d_hash_281 ?_
                      refine t_any (fun v72 => ?_)
                      refine lv_iload X.1 X.2.1 d_hash_282 (lv_at hl 3 rfl) ?_
                      refine lv_iload X.1 X.2.1 d_hash_284 (lv_at hl 2 rfl) ?_
                      refine lv_iand X.1 X.2.1 d_hash_286 ?_
                      refine t_any (fun v73 => ?_)
                      refine lv_ior X.1 X.2.1 d_hash_287 ?_
                      refine t_any (fun v74 => ?_)
                      exact jn52 _
                    · skip
                      rw [nI_leI (by omega) (by omega)] at c69
                      refine lv_iload_n X.1 X.2.1 d_hash_263 rfl (lv_at hl 4 rfl) ?_
                      refine lv_iload X.1 X.2.1 d_hash_264 (lv_at hl 3 rfl) ?_
                      refine lv_ixor X.1 X.2.1 d_hash_266 ?_
                      refine t_any (fun v75 => ?_)
                      refine lv_iload X.1 X.2.1 d_hash_267 (lv_at hl 2 rfl) ?_
                      refine lv_ixor X.1 X.2.1 d_hash_269 ?_
                      refine t_any (fun v76 => ?_)
                      refine lv_goto (tgt := 288) X.1 X.2.1 d_hash_270 (by decide) ?_
                      exact jn52 _
                · skip
                  rw [nI_leI (by omega) (by omega)] at c65
                  refine lv_iload_n X.1 X.2.1 d_hash_235 rfl (lv_at hl 4 rfl) ?_
                  refine lv_iload X.1 X.2.1 d_hash_236 (lv_at hl 3 rfl) ?_
                  refine lv_iand X.1 X.2.1 d_hash_238 ?_
                  refine t_any (fun v77 => ?_)
                  refine lv_iload_n X.1 X.2.1 d_hash_239 rfl (lv_at hl 4 rfl) ?_
                  refine lv_iconst (v := (-1)) X.1 X.2.1 d_hash_240 (by decide) ?_
                  refine lv_ixor X.1 X.2.1 d_hash_241 ?_
                  refine t_any (fun v78 => ?_)
                  refine lv_iload X.1 X.2.1 d_hash_242 (lv_at hl 2 rfl) ?_
                  refine lv_iand X.1 X.2.1 d_hash_244 ?_
                  refine t_any (fun v79 => ?_)
                  refine lv_ior X.1 X.2.1 d_hash_245 ?_
                  refine t_any (fun v80 => ?_)
                  refine lv_goto (tgt := 288) X.1 X.2.1 d_hash_246 (by decide) ?_
                  exact jn52 _
            exact lp26 (80) 0 B15 (v18) (v19) (v20) (v21) (v22) _ _ _ (by omega) (by omega) (fun j h5 h6 h7 => (hB16 j h5 h6 h7))  Y (lv_sub hl [0, 1, 2, 3, 4, 5, 6, 7] rfl)
          | succ n11 ih13 =>
            intro i12 B15 H locs ls hii12 hsi12 hB16  Y hl
            refine lv_iload_n X.1 X.2.1 d_hash_120 rfl (lv_at hl 0 rfl) ?_
            refine lv_bipush (v := (nI 80)) X.1 X.2.1 d_hash_121 (by decide) ?_
            refine lv_icmp_ge (tgt := 180) X.1 X.2.1 d_hash_123 (by decide) (fun c81 => absurd c81 ?_) (fun c81 => ?_)
            · (rw [nI_leI (by omega) (by omega)] <;> omega)
            rw [nI_leI (by omega) (by omega)] at c81
            refine lv_aload_n X.1 X.2.1 d_hash_126 rfl (lv_at hl 1 rfl) ?_
            refine m_get X Y 6 (by decide) lk_w (gf_w _ _ _) rfl d_hash_127 ?_
            refine lv_iload_n X.1 X.2.1 d_hash_130 rfl (lv_at hl 0 rfl) ?_
            refine lv_aload_n X.1 X.2.1 d_hash_131 rfl (lv_at hl 1 rfl) ?_
            refine m_get X Y 6 (by decide) lk_w (gf_w _ _ _) rfl d_hash_132 ?_
            refine lv_iload_n X.1 X.2.1 d_hash_135 rfl (lv_at hl 0 rfl) ?_
            refine lv_iconst (v := (nI 3)) X.1 X.2.1 d_hash_136 (by decide) ?_
            refine lv_isub X.1 X.2.1 d_hash_137 ?_
            refine t_eq (y := nI (i12 - (3))) (pk_sub (by omega)) ?_
            refine m_iald X Y (aw_w _ _ _ _ _ _ _) (vp_in_nI (by omega) (by decide)) d_hash_138 ?_
            refine t_any (fun v82 => ?_)
            refine lv_aload_n X.1 X.2.1 d_hash_139 rfl (lv_at hl 1 rfl) ?_
            refine m_get X Y 6 (by decide) lk_w (gf_w _ _ _) rfl d_hash_140 ?_
            refine lv_iload_n X.1 X.2.1 d_hash_143 rfl (lv_at hl 0 rfl) ?_
            refine lv_bipush (v := (nI 8)) X.1 X.2.1 d_hash_144 (by decide) ?_
            refine lv_isub X.1 X.2.1 d_hash_146 ?_
            refine t_eq (y := nI (i12 - (8))) (pk_sub (by omega)) ?_
            refine m_iald X Y (aw_w _ _ _ _ _ _ _) (vp_in_nI (by omega) (by decide)) d_hash_147 ?_
            refine t_any (fun v83 => ?_)
            refine lv_ixor X.1 X.2.1 d_hash_148 ?_
            refine t_any (fun v84 => ?_)
            refine lv_aload_n X.1 X.2.1 d_hash_149 rfl (lv_at hl 1 rfl) ?_
            refine m_get X Y 6 (by decide) lk_w (gf_w _ _ _) rfl d_hash_150 ?_
            refine lv_iload_n X.1 X.2.1 d_hash_153 rfl (lv_at hl 0 rfl) ?_
            refine lv_bipush (v := (nI 14)) X.1 X.2.1 d_hash_154 (by decide) ?_
            refine lv_isub X.1 X.2.1 d_hash_156 ?_
            refine t_eq (y := nI (i12 - (14))) (pk_sub (by omega)) ?_
            refine m_iald X Y (aw_w _ _ _ _ _ _ _) (vp_in_nI (by omega) (by decide)) d_hash_157 ?_
            refine t_any (fun v85 => ?_)
            refine lv_ixor X.1 X.2.1 d_hash_158 ?_
            refine t_any (fun v86 => ?_)
            refine lv_aload_n X.1 X.2.1 d_hash_159 rfl (lv_at hl 1 rfl) ?_
            refine m_get X Y 6 (by decide) lk_w (gf_w _ _ _) rfl d_hash_160 ?_
            refine lv_iload_n X.1 X.2.1 d_hash_163 rfl (lv_at hl 0 rfl) ?_
            refine lv_bipush (v := (nI 16)) X.1 X.2.1 d_hash_164 (by decide) ?_
            refine lv_isub X.1 X.2.1 d_hash_166 ?_
            refine t_eq (y := nI (i12 - (16))) (pk_sub (by omega)) ?_
            refine m_iald X Y (aw_w _ _ _ _ _ _ _) (vp_in_nI (by omega) (by decide)) d_hash_167 ?_
            refine t_any (fun v87 => ?_)
            refine lv_ixor X.1 X.2.1 d_hash_168 ?_
            refine t_any (fun v88 => ?_)
            refine lv_iconst (v := (nI 1)) X.1 X.2.1 d_hash_169 (by decide) ?_
            refine p_calli (As := [.int v88, .int (nI 1)]) (rest := [.int (nI i12), .ref (q 6)]) (n := 2) X Y hml hl.1 (c_left l v88 (nI 1)) kl_left ks_left ki_left ini_M (by decide +kernel) ⟨by decide, by decide⟩ rfl (Nat.le_of_ble_eq_true rfl) d_hash_170 ⟨Nat.le_refl _, Nat.le_refl _⟩ (fun r89 H locs hpr89 Y => ?_)
            refine m_iast X Y (aw_w _ _ _ _ _ _ _) (vp_in_nI (by omega) (by decide)) (sw_w _ _ _ _ _ _ _ _) d_hash_173 (fun H locs Y => ?_)
            generalize (upd (B15 6) ((nI i12)).toNatClampNeg r89) = f90 at Y
            refine lv_iinc (v := (nI (i12 + 1))) (lv' := [(2, .int (nI (i12 + 1))), (0, .ref h), (1, .int a1)]) X.1 X.2.1 d_hash_174 hl (k := 0) rfl (nI_add _ 1) (by decide) rfl (fun ls hl => ?_)
            refine lv_goto (tgt := 120) X.1 X.2.1 d_hash_177 (by decide) ?_
            exact ih13 (i12 + 1) (upB B15 6 f90) _ _ _ (by omega) (by omega) (fun j h5 h6 h7 => ((if_neg h6).trans (hB16 j h5 h6 h7)))  Y (lv_sub hl [0, 1, 2] rfl)
        exact lp14 (80 - 16) 16 B8 _ _ _ (by omega) (by omega) (fun j h5 h6 h7 => (hB9 j h5 h6 h7))  Y (lv_sub hl [0, 1, 2] rfl)
      | succ n4 ih6 =>
        intro i5 B8 H locs ls hii5 hsi5 hB9  Y hl
        refine lv_iload_n X.1 X.2.1 d_hash_37 rfl (lv_at hl 0 rfl) ?_
        refine lv_bipush (v := (nI 16)) X.1 X.2.1 d_hash_38 (by decide) ?_
        refine lv_icmp_ge (tgt := 117) X.1 X.2.1 d_hash_40 (by decide) (fun c91 => absurd c91 ?_) (fun c91 => ?_)
        · (rw [nI_leI (by omega) (by omega)] <;> omega)
        rw [nI_leI (by omega) (by omega)] at c91
        refine lv_aload_n X.1 X.2.1 d_hash_43 rfl (lv_at hl 1 rfl) ?_
        refine m_get X Y 6 (by decide) lk_w (gf_w _ _ _) rfl d_hash_44 ?_
        refine lv_iload_n X.1 X.2.1 d_hash_47 rfl (lv_at hl 0 rfl) ?_
        refine lv_aload_n X.1 X.2.1 d_hash_48 rfl (lv_at hl 1 rfl) ?_
        refine m_get X Y 7 (by decide) lk_block (gf_block _ _ _) rfl d_hash_49 ?_
        refine lv_iconst (v := (nI 4)) X.1 X.2.1 d_hash_52 (by decide) ?_
        refine lv_iload_n X.1 X.2.1 d_hash_53 rfl (lv_at hl 0 rfl) ?_
        refine lv_imul X.1 X.2.1 d_hash_54 ?_
        refine t_eq (y := nI ((4) * (i5))) (pk_mul _ _) ?_
        refine m_bald X Y (aw_block _ _ _ _ _ _ _) (vp_in_nI (by omega) (by decide)) d_hash_55 ?_
        refine t_any (fun v92 => ?_)
        refine lv_bipush (v := (nI 24)) X.1 X.2.1 d_hash_56 (by decide) ?_
        refine lv_ishl X.1 X.2.1 d_hash_58 ?_
        refine t_any (fun v93 => ?_)
        refine lv_aload_n X.1 X.2.1 d_hash_59 rfl (lv_at hl 1 rfl) ?_
        refine m_get X Y 7 (by decide) lk_block (gf_block _ _ _) rfl d_hash_60 ?_
        refine lv_iconst (v := (nI 4)) X.1 X.2.1 d_hash_63 (by decide) ?_
        refine lv_iload_n X.1 X.2.1 d_hash_64 rfl (lv_at hl 0 rfl) ?_
        refine lv_imul X.1 X.2.1 d_hash_65 ?_
        refine t_eq (y := nI ((4) * (i5))) (pk_mul _ _) ?_
        refine lv_iconst (v := (nI 1)) X.1 X.2.1 d_hash_66 (by decide) ?_
        refine lv_iadd X.1 X.2.1 d_hash_67 ?_
        refine t_eq (y := nI ((4) * (i5) + 1)) (nI_add _ _) ?_
        refine m_bald X Y (aw_block _ _ _ _ _ _ _) (vp_in_nI (by omega) (by decide)) d_hash_68 ?_
        refine t_any (fun v94 => ?_)
        refine lv_sipush (v := (nI 255)) X.1 X.2.1 d_hash_69 (by decide) ?_
        refine lv_iand X.1 X.2.1 d_hash_72 ?_
        obtain ⟨j95, hj95, ej95⟩ := pk_andE v94 (m := nI 255) 8 (by decide)
        refine t_eq ej95 ?_
        have hj95 : j95 < 256 := hj95
        refine lv_bipush (v := (nI 16)) X.1 X.2.1 d_hash_73 (by decide) ?_
        refine lv_ishl X.1 X.2.1 d_hash_75 ?_
        refine t_any (fun v96 => ?_)
        refine lv_ior X.1 X.2.1 d_hash_76 ?_
        refine t_any (fun v97 => ?_)
        refine lv_aload_n X.1 X.2.1 d_hash_77 rfl (lv_at hl 1 rfl) ?_
        refine m_get X Y 7 (by decide) lk_block (gf_block _ _ _) rfl d_hash_78 ?_
        refine lv_iconst (v := (nI 4)) X.1 X.2.1 d_hash_81 (by decide) ?_
        refine lv_iload_n X.1 X.2.1 d_hash_82 rfl (lv_at hl 0 rfl) ?_
        refine lv_imul X.1 X.2.1 d_hash_83 ?_
        refine t_eq (y := nI ((4) * (i5))) (pk_mul _ _) ?_
        refine lv_iconst (v := (nI 2)) X.1 X.2.1 d_hash_84 (by decide) ?_
        refine lv_iadd X.1 X.2.1 d_hash_85 ?_
        refine t_eq (y := nI ((4) * (i5) + 2)) (nI_add _ _) ?_
        refine m_bald X Y (aw_block _ _ _ _ _ _ _) (vp_in_nI (by omega) (by decide)) d_hash_86 ?_
        refine t_any (fun v98 => ?_)
        refine lv_sipush (v := (nI 255)) X.1 X.2.1 d_hash_87 (by decide) ?_
        refine lv_iand X.1 X.2.1 d_hash_90 ?_
        obtain ⟨j99, hj99, ej99⟩ := pk_andE v98 (m := nI 255) 8 (by decide)
        refine t_eq ej99 ?_
        have hj99 : j99 < 256 := hj99
        refine lv_bipush (v := (nI 8)) X.1 X.2.1 d_hash_91 (by decide) ?_
        refine lv_ishl X.1 X.2.1 d_hash_93 ?_
        refine t_any (fun v100 => ?_)
        refine lv_ior X.1 X.2.1 d_hash_94 ?_
        refine t_any (fun v101 => ?_)
        refine lv_aload_n X.1 X.2.1 d_hash_95 rfl (lv_at hl 1 rfl) ?_
        refine m_get X Y 7 (by decide) lk_block (gf_block _ _ _) rfl d_hash_96 ?_
        refine lv_iconst (v := (nI 4)) X.1 X.2.1 d_hash_99 (by decide) ?_
        refine lv_iload_n X.1 X.2.1 d_hash_100 rfl (lv_at hl 0 rfl) ?_
        refine lv_imul X.1 X.2.1 d_hash_101 ?_
        refine t_eq (y := nI ((4) * (i5))) (pk_mul _ _) ?_
        refine lv_iconst (v := (nI 3)) X.1 X.2.1 d_hash_102 (by decide) ?_
        refine lv_iadd X.1 X.2.1 d_hash_103 ?_
        refine t_eq (y := nI ((4) * (i5) + 3)) (nI_add _ _) ?_
        refine m_bald X Y (aw_block _ _ _ _ _ _ _) (vp_in_nI (by omega) (by decide)) d_hash_104 ?_
        refine t_any (fun v102 => ?_)
        refine lv_sipush (v := (nI 255)) X.1 X.2.1 d_hash_105 (by decide) ?_
        refine lv_iand X.1 X.2.1 d_hash_108 ?_
        obtain ⟨j103, hj103, ej103⟩ := pk_andE v102 (m := nI 255) 8 (by decide)
        refine t_eq ej103 ?_
        have hj103 : j103 < 256 := hj103
        refine lv_ior X.1 X.2.1 d_hash_109 ?_
        refine t_any (fun v104 => ?_)
        refine m_iast X Y (aw_w _ _ _ _ _ _ _) (vp_in_nI (by omega) (by decide)) (sw_w _ _ _ _ _ _ _ _) d_hash_110 (fun H locs Y => ?_)
        generalize (upd (B8 6) ((nI i5)).toNatClampNeg v104) = f105 at Y
        refine lv_iinc (v := (nI (i5 + 1))) (lv' := [(2, .int (nI (i5 + 1))), (0, .ref h), (1, .int a1)]) X.1 X.2.1 d_hash_111 hl (k := 0) rfl (nI_add _ 1) (by decide) rfl (fun ls hl => ?_)
        refine lv_goto (tgt := 37) X.1 X.2.1 d_hash_114 (by decide) ?_
        exact ih6 (i5 + 1) (upB B8 6 f105) _ _ _ (by omega) (by omega) (fun j h5 h6 h7 => ((if_neg h6).trans (hB9 j h5 h6 h7)))  Y (lv_sub hl [0, 1, 2] rfl)
    exact lp7 (16) 0 (upB B 7 f2) _ _ _ (by omega) (by omega) (fun j h5 h6 h7 => ((if_neg h7).trans rfl))  Y (lv_sub hl [0, 1, 2] rfl)
  · skip
    rw [← nI_0] at c3
    rw [nI_eq (by omega) (by omega)] at c3
    exact m_retv hQQ X Y hr hlk ⟨(fun j h8 => ((if_neg h8).trans rfl)), rfl, (fun j h5 h6 h7 => ((if_neg h7).trans rfl)), rfl, (show (upd I 8 (nI (k + 1))) 8 = nI (k + 1) from (show (upd I 8 (nI (k + 1))) 8 = nI (k + 1) from pk_us).trans (congrArg nI (show (k + 1 : Nat) = k + 1 by omega)))⟩ d_hash_34
